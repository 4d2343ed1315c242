/-! ===== Pure: by whom, as a number ===== -/
def kW (Q : kQ) : Prop := ∀ e, e ∈ Q → e.2 = -1 ∨ 0 ≤ e.2.toInt
theorem kW_add {τ : tx_T} {Q : kQ} (h : kW Q) (x : Nat) {b : Int32} (hb : b = -1 ∨ 0 ≤ b.toInt) : kW (kadd τ Q x b) := by
  unfold kadd
  cases kin Q x || lostB τ x
  · simp only [cond_false]
    intro e he
    rcases List.mem_append.mp he with he | he
    · exact h e he
    · rw [List.mem_singleton] at he; rw [he]; exact hb
  · exact h
theorem kW_fo {f : kQ → Nat → kQ} {Q : kQ} {n : Nat} (h : kW Q) (hf : ∀ Q k, kW Q → kW (f Q k)) : kW (fo f Q n) := fo_ind h (fun a k _ h => hf a k h)
theorem kW_st {τ : tx_T} {Q : kQ} (h : kW Q) {x : Nat} (hx : x < 2 ^ 31) : kW (kst τ Q x) := by
  have hb : nI x = -1 ∨ 0 ≤ (nI x).toInt := Or.inr (by rw [nI_toInt hx]; omega)
  unfold kst ks2 ks1
  refine kW_fo (kW_fo h (fun Q k h => ?_)) (fun Q k h => ?_)
  · cases tT τ 21 k == nI x
    · exact h
    · simp only [cond_true]
      unfold kcb kc2
      refine kW_fo ?_ (fun Q t h => ?_)
      · unfold kc1
        cases aimI τ (cl (tT τ 24 k)) == 1
        · exact h
        · exact kW_add h _ hb
      · cases (decide (1 < (aimI τ (cl (tT τ 24 k))).toInt) && (tT τ 9 t == atI τ (cl (tT τ 24 k))))
        · exact h
        · exact kW_add h _ hb
  · cases (!(tT τ 10 x == -1) && (tT τ 10 k == tT τ 10 x))
    · exact h
    · exact kW_add h _ hb
theorem kW_it {τ : tx_T} (hV : TV τ) : ∀ (f q : Nat) (Q : kQ), kV τ Q → kW Q → kW (kit τ f q Q) := by
  intro f
  induction f with
  | zero => intro q Q _ h; exact h
  | succ f ih =>
    intro q Q hv h
    have hV0 := hV.1
    by_cases hq : q < Q.length
    · rw [kit_step hq]
      exact ih _ _ (kst_V hV hv _) (kW_st h (by have := hv.1 q hq; omega))
    · rw [kit_end (by omega)]; exact h
theorem kW_R {τ : tx_T} (hV : TV τ) : kW (kR τ) := by
  unfold kR
  refine kW_it hV _ _ _ (kV_2 hV) ?_
  unfold kp2
  refine kW_fo ?_ (fun Q k h => ?_)
  · unfold kp1
    refine kW_fo (fun e he => absurd he (by simp)) (fun Q k h => ?_)
    cases tT τ 8 k == 0
    · exact kW_add h _ (Or.inl rfl)
    · exact h
  · cases defO τ (tT τ 27 k) with
    | none => exact h
    | some d => exact kW_add h _ (Or.inl rfl)
theorem kby_W {Q : kQ} (h : kW Q) (x : Nat) : oI (kbO Q x) = kby Q x := by
  have : kby Q x = -1 ∨ 0 ≤ (kby Q x).toInt := by
    unfold kby
    cases e : Q.find? (fun e => Nat.beq e.1 x) with
    | none => exact Or.inl rfl
    | some p => exact h p (List.mem_of_find?_eq_some e)
  unfold kbO
  by_cases e : kby Q x = -1
  · rw [if_pos e, e]; rfl
  · rw [if_neg e]
    rcases this with q | q
    · exact absurd q e
    · obtain ⟨j, hj, ej⟩ := nI_of (x := kby Q x) (fun u => by have := i32lt.mp u; simp at this; omega)
      rw [ej]
      show nI (cl (nI j)) = nI j
      rw [show cl (nI j) = j from nI_clamp hj]
