/-! ===== What was told stays in its bounds ===== -/
theorem TV_object {τ τ' : tx_T} {v : Int32} (h : TV τ) (e : f_object τ = (v, some τ')) : TV τ' := by
  unfold f_object at e
  split at e
  · cases e
  · rename_i hn
    cases e
    obtain ⟨h0, h1, h2, h3, h4, h5⟩ := h
    refine ⟨⟨?_, h0.2⟩, fun i hi => ?_, fun k hk => ?_, h3, h4, h5⟩
    · show tN τ 0 + 1 ≤ 12
      omega
    · have := h1 i hi
      refine ⟨⟨this.1.1, ?_⟩, this.2⟩
      show (tT τ 3 i).toInt ≤ ((tN τ 0 + 1 : Nat) : Int) - 1
      have := this.1.2
      omega
    · have := h2 k hk
      refine ⟨⟨this.1.1, ?_⟩, this.2⟩
      show (tT τ 15 k).toInt ≤ ((tN τ 0 + 1 : Nat) : Int) - 1
      have := this.1.2
      omega
theorem TV_root {τ τ' : tx_T} {v n : Int32} (h : TV τ) (e : f_root τ n = (v, some τ')) : TV τ' := by
  unfold f_root at e
  split at e
  · cases e
  · split at e
    · cases e
    · rename_i h1 h2
      cases e
      obtain ⟨g0, g1, g2, g3, g4, g5⟩ := h
      refine ⟨⟨g0.1, g0.2.1, g0.2.2.1, g0.2.2.2.1, ?_, g0.2.2.2.2.2⟩, g1, g2, g3, fun k hk => ?_, g5⟩
      · show tN τ 4 + 1 ≤ 8
        omega
      · have hk' : k < tN τ 4 + 1 := hk
        show iw (u2 τ.2.1 27 (tN τ 4) n 27 k) 0 63
        rw [u2_at]
        by_cases e : k = tN τ 4
        · rw [if_pos e]; exact Classical.not_not.mp h1
        · rw [if_neg e]; exact g4 k (by omega)
theorem TV_base {τ τ' : tx_T} {v k p : Int32} (h : TV τ) (e : f_base τ k p = (v, some τ')) : TV τ' := by
  unfold f_base at e
  split at e
  · cases e
  · rename_i h1
    cases e
    obtain ⟨g0, g1, g2, g3, g4, g5⟩ := h
    refine ⟨g0, g1, g2, g3, g4, fun j hj => ?_⟩
    show iw (u2 τ.2.1 28 (cl k) p 28 j) (-1) 2000000000
    rw [u2_at]
    by_cases e : j = cl k
    · rw [if_pos e]; exact (Classical.not_not.mp h1).2
    · rw [if_neg e]; exact g5 j hj
theorem and255 (x : Int32) : iw (x &&& 255) 0 255 := by
  have h1 : (x &&& 255).toInt = (x.toBitVec &&& (255 : BitVec 32)).toInt := by rw [← Int32.toInt_toBitVec]; rfl
  have h2 : (x.toBitVec &&& (255 : BitVec 32)).toNat ≤ 255 := by
    rw [BitVec.toNat_and]
    exact Nat.and_le_right
  have h3 : (x.toBitVec &&& (255 : BitVec 32)).toInt = ((x.toBitVec &&& (255 : BitVec 32)).toNat : Int) := by
    rw [BitVec.toInt_eq_toNat_cond, if_pos (by omega)]
  refine ⟨?_, ?_⟩ <;> rw [h1, h3] <;> omega
theorem TV_patch {τ τ' : tx_T} {v x i u : Int32} (h : TV τ) (e : f_patch τ x i u = (v, some τ')) : TV τ' := by
  unfold f_patch at e
  split at e
  · cases e
  · split at e
    · cases e
    · cases e
      obtain ⟨g0, g1, g2, g3, g4, g5⟩ := h
      refine ⟨g0, fun a ha => ?_, g2, g3, g4, g5⟩
      obtain ⟨q1, q2, q3, q4, q5, q6, q7, q8⟩ := g1 a ha
      refine ⟨q1, q2, q3, q4, q5, q6, q7, fun j => ?_⟩
      show iw (u2 τ.2.2 (cl x) (cl i) (u &&& 255) a j) 0 255
      rw [u2_if]
      split
      · exact and255 u
      · exact q8 j
theorem TV_mark {τ τ' : tx_T} {v x t u : Int32} (h : TV τ) (e : f_mark τ x t u = (v, some τ')) : TV τ' := by
  unfold f_mark at e
  obtain ⟨g0, g1, g2, g3, g4, g5⟩ := h
  split at e
  · cases e
  · split at e
    · split at e
      · cases e
        refine ⟨g0, fun a ha => ?_, g2, g3, g4, g5⟩
        obtain ⟨q1, q2, q3, q4, q5, q6, q7, q8⟩ := g1 a ha
        refine ⟨q1, q2, q3, q4, ?_, q6, q7, q8⟩
        show iw (u2 τ.2.1 8 (cl x) (if u = 1 then 1 else 0) 8 a) 0 1
        rw [u2_at]
        split
        · split
          · exact ⟨by decide, by decide⟩
          · exact ⟨by decide, by decide⟩
        · exact q5
      · cases e
    · split at e
      · split at e
        · rename_i h9
          cases e
          refine ⟨g0, fun a ha => ?_, g2, g3, g4, g5⟩
          obtain ⟨q1, q2, q3, q4, q5, q6, q7, q8⟩ := g1 a ha
          refine ⟨q1, q2, q3, q4, q5, ?_, q7, q8⟩
          show iw (u2 τ.2.1 9 (cl x) u 9 a) (-1) 7
          rw [u2_at]
          split
          · exact h9
          · exact q6
        · cases e
      · split at e
        · split at e
          · rename_i h9
            cases e
            refine ⟨g0, fun a ha => ?_, g2, g3, g4, g5⟩
            obtain ⟨q1, q2, q3, q4, q5, q6, q7, q8⟩ := g1 a ha
            refine ⟨q1, q2, q3, q4, q5, q6, ?_, q8⟩
            show iw (u2 τ.2.1 10 (cl x) u 10 a) (-1) 15
            rw [u2_at]
            split
            · exact h9
            · exact q7
          · cases e
        · cases e
theorem TV_section {τ τ' : tx_T} {v o k z a sd : Int32} (h : TV τ) (e : f_section τ o k z a sd = (v, some τ')) : TV τ' := by
  unfold f_section at e
  split at e
  · cases e
  · split at e
    · cases e
    · split at e
      · cases e
      · rename_i h1 h2 h3
        have h1 := Classical.not_not.mp h1
        have h2 := Classical.not_not.mp h2
        cases e
        obtain ⟨g0, g1, g2, g3, g4, g5⟩ := h
        have hz := clI h2.2.1.1
        have hne : ∀ y : Int32, 0 ≤ y.toInt → y.toInt ≤ (tN τ 1 : Int) - 1 → cl y ≠ tN τ 1 := fun y hy hy2 => by have := clI hy; omega
        refine ⟨⟨g0.1, ?_, g0.2.2.1, g0.2.2.2.1, g0.2.2.2.2.1, ?_⟩, fun i hi => ?_, fun q hq => ?_, fun q hq => ?_, g4, g5⟩
        · show tN τ 1 + 1 ≤ 60
          omega
        · show tN τ 5 + cl z ≤ 60000
          omega
        · have hi' : i < tN τ 1 + 1 := hi
          show iw (u2 τ.2.1 3 (tN τ 1) o 3 i) 0 (tN τ 0 - 1) ∧ iw (u2 τ.2.1 4 (tN τ 1) k 4 i) 0 3 ∧ iw (u2 τ.2.1 5 (tN τ 1) z 5 i) 0 20000 ∧ iw (u2 τ.2.1 6 (tN τ 1) a 6 i) 0 8 ∧ iw (u2 τ.2.1 8 (tN τ 1) 0 8 i) 0 1 ∧ iw (u2 τ.2.1 9 (tN τ 1) (-1) 9 i) (-1) 7 ∧ iw (u2 τ.2.1 10 (tN τ 1) (-1) 10 i) (-1) 15 ∧ ∀ j, iw (if i = tN τ 1 then (sd + nI j) &&& 255 else τ.2.2 i j) 0 255
          rw [u2_at, u2_at, u2_at, u2_at, u2_at, u2_at, u2_at]
          by_cases e : i = tN τ 1
          · simp only [if_pos e]
            exact ⟨⟨h1.1, by omega⟩, h2.1, h2.2.1, h2.2.2, ⟨by decide, by decide⟩, ⟨by decide, by decide⟩, ⟨by decide, by decide⟩, fun j => and255 _⟩
          · simp only [if_neg e]
            exact g1 i (by omega)
        · obtain ⟨p1, p2, p3, p4, p5, p6, p7⟩ := g2 q hq
          refine ⟨p1, p2, ⟨p3.1, ?_⟩, p4, p5, fun e => ?_, p7⟩
          · show (tT τ 17 q).toInt ≤ ((tN τ 1 + 1 : Nat) : Int) - 1
            have := p3.2
            omega
          · have e : 0 ≤ (tT τ 17 q).toInt := e
            show u2 τ.2.1 3 (tN τ 1) o 3 (cl (tT τ 17 q)) = _
            rw [u2_at, if_neg (hne _ e p3.2)]; exact p6 e
        · obtain ⟨p1, p2, p3, p4, p5, p6⟩ := g3 q hq
          have hc := hne (tT τ 21 q) p1.1 p1.2
          refine ⟨⟨p1.1, ?_⟩, p2, p3, p4, ?_, fun e => ?_⟩
          · show (tT τ 21 q).toInt ≤ ((tN τ 1 + 1 : Nat) : Int) - 1
            have := p1.2
            omega
          · show (u2 τ.2.1 4 (tN τ 1) k 4 (cl (tT τ 21 q))).toInt < 3
            rw [u2_at, if_neg hc]; exact p5
          · show u2 τ.2.1 4 (tN τ 1) k 4 (cl (tT τ 21 q)) = 0
            rw [u2_at, if_neg hc]; exact p6 e
theorem TV_symbol {τ τ' : tx_T} {v o n x i r : Int32} (h : TV τ) (e : f_symbol τ o n x i r = (v, some τ')) : TV τ' := by
  unfold f_symbol at e
  by_cases h1 : ¬ (0 ≤ o.toInt ∧ o.toInt < tN τ 0 ∧ -17 ≤ x.toInt ∧ x.toInt < tN τ 1 ∧ (0 ≤ x.toInt → tT τ 3 (cl x) = o))
  · rw [if_pos h1] at e; cases e
  · rw [if_neg h1] at e
    by_cases h2 : ¬ (iw n 0 63 ∧ iw i 0 (if 0 ≤ x.toInt then (tT τ 5 (cl x)).toInt else 0) ∧ iw r (if x.toInt = -1 then 1 else 0) (if x.toInt < -1 then 0 else 2))
    · rw [if_pos h2] at e; cases e
    · rw [if_neg h2] at e
      by_cases h3 : tN τ 2 = 120
      · rw [if_pos h3] at e; cases e
      · rw [if_neg h3] at e
        have h1 := Classical.not_not.mp h1
        have h2 := Classical.not_not.mp h2
        cases e
        obtain ⟨g0, g1, g2, g3, g4, g5⟩ := h
        refine ⟨⟨g0.1, g0.2.1, ?_, g0.2.2.2⟩, g1, fun q hq => ?_, fun q hq => ?_, g4, g5⟩
        · show tN τ 2 + 1 ≤ 120
          omega
        · have hq' : q < tN τ 2 + 1 := hq
          show iw (u2 τ.2.1 15 (tN τ 2) o 15 q) 0 (tN τ 0 - 1) ∧ iw (u2 τ.2.1 16 (tN τ 2) n 16 q) 0 63 ∧ iw (u2 τ.2.1 17 (tN τ 2) x 17 q) (-17) (tN τ 1 - 1) ∧ iw (u2 τ.2.1 18 (tN τ 2) i 18 q) 0 20000 ∧ iw (u2 τ.2.1 19 (tN τ 2) r 19 q) 0 2 ∧ (0 ≤ (u2 τ.2.1 17 (tN τ 2) x 17 q).toInt → tT τ 3 (cl (u2 τ.2.1 17 (tN τ 2) x 17 q)) = u2 τ.2.1 15 (tN τ 2) o 15 q) ∧ ((u2 τ.2.1 17 (tN τ 2) x 17 q).toInt < 0 → u2 τ.2.1 18 (tN τ 2) i 18 q = 0) ∧ ((u2 τ.2.1 17 (tN τ 2) x 17 q).toInt = -1 → 1 ≤ (u2 τ.2.1 19 (tN τ 2) r 19 q).toInt) ∧ ((u2 τ.2.1 17 (tN τ 2) x 17 q).toInt < -1 → u2 τ.2.1 19 (tN τ 2) r 19 q = 0)
          rw [u2_at, u2_at, u2_at, u2_at, u2_at]
          by_cases e : q = tN τ 2
          · simp only [if_pos e]
            have hz : 0 ≤ x.toInt → (tT τ 5 (cl x)).toInt ≤ 20000 := fun hx => (g1 (cl x) (by have := clI hx; omega)).2.2.1.2
            obtain ⟨a1, a2, a3⟩ := h2
            refine ⟨⟨h1.1, by omega⟩, a1, ⟨h1.2.2.1, by omega⟩, ⟨a2.1, ?_⟩, ⟨?_, ?_⟩, h1.2.2.2.2, fun e => ?_, fun e => ?_, fun e => ?_⟩
            · have := a2.2
              split at this
              · have := hz (by assumption); omega
              · omega
            · have := a3.1; split at this <;> omega
            · have := a3.2; split at this <;> omega
            · have b1 := a2.1
              have b2 := a2.2
              rw [if_neg (by omega)] at b2
              exact i32e (show _ = (0 : Int) by omega)
            · have := a3.1; rw [if_pos e] at this; exact this
            · have b1 := a3.1
              have b2 := a3.2
              rw [if_neg (by omega)] at b1
              rw [if_pos e] at b2
              exact i32e (show _ = (0 : Int) by omega)
          · simp only [if_neg e]
            exact g2 q (by omega)
        · obtain ⟨p1, p2, p3, p4, p5⟩ := g3 q hq
          refine ⟨p1, p2, p3, ⟨p4.1, ?_⟩, p5⟩
          show (tT τ 24 q).toInt ≤ ((tN τ 2 + 1 : Nat) : Int) - 1
          have := p4.2
          omega
theorem TV_relocation {τ τ' : tx_T} {v x i t y a : Int32} (h : TV τ) (e : f_relocation τ x i t y a = (v, some τ')) : TV τ' := by
  unfold f_relocation at e
  split at e
  · cases e
  · split at e
    · cases e
    · split at e
      · cases e
      · rename_i h1 h2 h3
        have h1 := Classical.not_not.mp h1
        have h2 := Classical.not_not.mp h2
        cases e
        obtain ⟨g0, g1, g2, g3, g4, g5⟩ := h
        refine ⟨⟨g0.1, g0.2.1, g0.2.2.1, ?_, g0.2.2.2.2⟩, g1, g2, fun q hq => ?_, g4, g5⟩
        · show tN τ 3 + 1 ≤ 200
          omega
        · have hq' : q < tN τ 3 + 1 := hq
          show iw (u2 τ.2.1 21 (tN τ 3) x 21 q) 0 (tN τ 1 - 1) ∧ iw (u2 τ.2.1 22 (tN τ 3) i 22 q) 0 20000 ∧ iw (u2 τ.2.1 23 (tN τ 3) t 23 q) 0 4 ∧ iw (u2 τ.2.1 24 (tN τ 3) y 24 q) 0 (tN τ 2 - 1) ∧ (tT τ 4 (cl (u2 τ.2.1 21 (tN τ 3) x 21 q))).toInt < 3 ∧ (u2 τ.2.1 23 (tN τ 3) t 23 q = 3 → tT τ 4 (cl (u2 τ.2.1 21 (tN τ 3) x 21 q)) = 0)
          rw [u2_at, u2_at, u2_at, u2_at]
          by_cases e : q = tN τ 3
          · simp only [if_pos e]
            have hz := (g1 (cl x) (by have := clI h1.1.1; omega)).2.2.1.2
            have hw : 1 ≤ t_wide t := by unfold t_wide; split <;> (try split) <;> omega
            obtain ⟨a1, a2, a3⟩ := h2
            exact ⟨⟨h1.1.1, by omega⟩, ⟨a2.1, by have := a2.2; omega⟩, a1, ⟨h1.2.1.1, by omega⟩, h1.1.2.2, a3⟩
          · simp only [if_neg e]
            exact g3 q (by omega)
