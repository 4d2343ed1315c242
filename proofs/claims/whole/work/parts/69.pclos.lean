/-! ===== Pure: alike is transitive; what is kept is closed ===== -/
theorem stA_trans {τ : tx_T} {a b c : Nat} (h : stA τ a b) (h2 : stA τ b c) : stA τ a c := ⟨h.1.trans h2.1, h.2.1.trans h2.2.1, h.2.2.1.trans h2.2.2.1, h.2.2.2.1.trans h2.2.2.2.1, fun i hi => (h.2.2.2.2 i hi).trans (h2.2.2.2.2 i (by rw [← h.2.1]; exact hi))⟩
theorem stA_symm {τ : tx_T} {a b : Nat} (h : stA τ a b) : stA τ b a := ⟨h.1.symm, h.2.1.symm, h.2.2.1.symm, h.2.2.2.1.symm, fun i hi => (h.2.2.2.2 i (by rw [h.2.1]; exact hi)).symm⟩
theorem prA_symm {τ : tx_T} {A B : Nat → Nat → Prop} (hAB : ∀ x y, A x y → B y x) {x y : Nat} (h : prA τ A x y) : prA τ B y x := ⟨h.1.symm, h.2.1.symm, h.2.2.1.symm, h.2.2.2.1.symm, fun e => by
  have h2 := h.2.2.2.2 (by rw [h.2.2.2.1]; exact e)
  exact ⟨h2.1.elim (fun q => Or.inl q.symm) (fun q => Or.inr ⟨h.2.2.2.1.symm.trans q.1, hAB _ _ q.2⟩), h2.2.symm⟩⟩
theorem gA_symm {τ : tx_T} {w : Bool} {a b : Nat} (h : gA τ w a b) : gA τ w b a := by
  refine ⟨fun x y => gA τ w y x, h, fun x y hxy => ?_⟩
  obtain ⟨h1, h2, h3, h4⟩ := gA_post hxy
  refine ⟨h2, h1, ⟨fun e => h3.1 e.symm, h3.2.2.1, h3.2.1, stA_symm h3.2.2.2⟩, fun i hi p q hp hq => ?_⟩
  exact prA_symm (fun _ _ q => q) (h4 i (by rw [h3.2.2.2.2.2.2.1]; exact hi) q p hq hp)
/-- the same, or alike -/
def gE (τ : tx_T) (w : Bool) (a b : Nat) : Prop := a = b ∨ gA τ w a b
theorem gA_lt {τ : tx_T} {w : Bool} {a b : Nat} (h : gA τ w a b) : a < tN τ 1 ∧ b < tN τ 1 := ⟨(gA_post h).1, (gA_post h).2.1⟩
theorem cl_inj {x y : Int32} (hx : 0 ≤ x.toInt) (hy : 0 ≤ y.toInt) (h : cl x = cl y) : x = y := by
  apply i32e
  rw [← clI hx, ← clI hy, h]
theorem gA_comp {τ : tx_T} (hV : TV τ) {w : Bool} {a c b : Nat} (h : gA τ w a c) (h2 : gA τ w c b) (hne : a ≠ b) : gA τ w a b := by
  refine ⟨fun x y => x ≠ y ∧ ((∃ z, gA τ w x z ∧ gA τ w z y) ∨ gA τ w x y), ⟨hne, Or.inl ⟨c, h, h2⟩⟩, ?_⟩
  rintro x y ⟨hxy, ⟨z, q1, q2⟩ | q⟩
  · obtain ⟨e1, e2, e3, e4⟩ := gA_post q1
    obtain ⟨f1, f2, f3, f4⟩ := gA_post q2
    refine ⟨e1, f2, ⟨hxy, e3.2.1, f3.2.2.1, stA_trans e3.2.2.2 f3.2.2.2⟩, fun i hi p r hp hr => ?_⟩
    obtain ⟨m, hm, _⟩ := rlO_ex (τ := τ) (x := z) (i := i) (by rw [← e3.2.2.2.2.2.2.1]; exact hi)
    have g1 := e4 i hi p m hp hm
    have g2 := f4 i (by rw [← e3.2.2.2.2.2.2.1]; exact hi) m r hm hr
    refine ⟨g1.1.trans g2.1, g1.2.1.trans g2.2.1, g1.2.2.1.trans g2.2.2.1, g1.2.2.2.1.trans g2.2.2.2.1, fun e => ?_⟩
    have k1 := g1.2.2.2.2 e
    have k2 := g2.2.2.2.2 (by rw [← g1.2.2.2.1]; exact e)
    refine ⟨?_, k1.2.trans k2.2⟩
    by_cases e9 : atI τ (cl (tT τ 24 p)) = atI τ (cl (tT τ 24 r))
    · exact Or.inl e9
    · rcases k1.1 with l1 | l1
      · rcases k2.1 with l2 | l2
        · exact absurd (l1.trans l2) e9
        · refine Or.inr ⟨g1.2.2.2.1.trans l2.1, ?_, Or.inr (by rw [l1]; exact l2.2)⟩
          rw [l1]; exact (gA_post l2.2).2.2.1.1
      · rcases k2.1 with l2 | l2
        · refine Or.inr ⟨l1.1, ?_, Or.inr (by rw [← l2]; exact l1.2)⟩
          rw [← l2]; exact (gA_post l1.2).2.2.1.1
        · by_cases e8 : cl (atI τ (cl (tT τ 24 p))) = cl (atI τ (cl (tT τ 24 r)))
          · have a1 : aimI τ (cl (tT τ 24 p)) = 1 := l1.1
            have a2 : aimI τ (cl (tT τ 24 r)) = 1 := (g2.2.2.2.1.symm.trans g1.2.2.2.1.symm).trans l1.1
            obtain ⟨_, _, _, u3, u4, _⟩ := at_place hV (rl_lt hV hp) a1
            obtain ⟨_, _, _, v3, v4, _⟩ := at_place hV (rl_lt hV hr) a2
            exact Or.inl (cl_inj (by rw [u3]; exact u4) (by rw [v3]; exact v4) e8)
          · exact Or.inr ⟨l1.1, e8, Or.inl ⟨_, l1.2, l2.2⟩⟩
  · obtain ⟨e1, e2, e3, e4⟩ := gA_post q
    exact ⟨e1, e2, e3, syA_mono (fun u v huv => ⟨(gA_post huv).2.2.1.1, Or.inr huv⟩) e4⟩
theorem inO_pl {τ : tx_T} (hV : TV τ) {w : Bool} {x : Nat} (hk : kin (kR τ) x = true) : plB τ w ((inO τ w x).getD x) = true := by
  cases e : inO τ w x with
  | none => unfold plB; simp [hk, e]
  | some a =>
    have h := fst1_some.mp e
    have hg := gA_post (gB_t.mp h.2.1)
    have hm := hg.2.2.1.2.1
    unfold mayB m0B at hm
    simp only [Bool.and_eq_true] at hm
    simp only [Option.getD_some]
    unfold plB
    rw [hm.1.1.1.1.2]
    cases e2 : inO τ w a with
    | none => rfl
    | some c =>
      have h2 := fst1_some.mp e2
      have := gA_comp hV (gB_t.mp h2.2.1) (gB_t.mp h.2.1) (by omega)
      have h3 := h.2.2 c h2.1
      rw [gB_t.mpr this] at h3; cases h3
/-- closed: what a row's relocations lead to is kept, or lost -/
def kcl (τ : tx_T) (Q : kQ) (x k : Nat) : Prop := tT τ 21 k = nI x → aimI τ (cl (tT τ 24 k)) = 1 → kin Q (cl (atI τ (cl (tT τ 24 k)))) = true ∨ lostB τ (cl (atI τ (cl (tT τ 24 k)))) = true
def kle (Q Q' : kQ) : Prop := ∃ T, Q' = Q ++ T
theorem kle.rf (Q : kQ) : kle Q Q := ⟨[], by simp⟩
theorem kle.tr {Q Q' Q'' : kQ} (h : kle Q Q') (h2 : kle Q' Q'') : kle Q Q'' := by
  obtain ⟨a, rfl⟩ := h
  obtain ⟨b, rfl⟩ := h2
  exact ⟨a ++ b, by simp⟩
theorem kle_kin {Q Q' : kQ} (h : kle Q Q') {x : Nat} (hx : kin Q x = true) : kin Q' x = true := by
  obtain ⟨a, rfl⟩ := h
  unfold kin at *
  rw [List.any_append, hx]; rfl
theorem kle_add (τ : tx_T) (Q : kQ) (x : Nat) (b : Int32) : kle Q (kadd τ Q x b) := by
  unfold kadd
  cases kin Q x || lostB τ x
  · exact ⟨[(x, b)], rfl⟩
  · exact kle.rf Q
theorem kle_fo {f : kQ → Nat → kQ} (hf : ∀ Q k, kle Q (f Q k)) (Q : kQ) (n : Nat) : kle Q (fo f Q n) := by
  induction n with
  | zero => exact kle.rf Q
  | succ n ih => exact ih.tr (hf _ n)
theorem kle_c1 (τ : tx_T) (Q : kQ) (x y : Nat) : kle Q (kc1 τ Q x y) := by
  unfold kc1
  cases aimI τ y == 1
  · exact kle.rf Q
  · exact kle_add _ _ _ _
theorem kle_c2 (τ : tx_T) (Q : kQ) (x y n : Nat) : kle Q (kc2 τ Q x y n) := kle_fo (fun Q k => by
  cases decide (1 < (aimI τ y).toInt) && (tT τ 9 k == atI τ y)
  · exact kle.rf Q
  · exact kle_add _ _ _ _) Q n
theorem kle_cb (τ : tx_T) (Q : kQ) (x y : Nat) : kle Q (kcb τ Q x y) := (kle_c1 τ Q x y).tr (kle_c2 _ _ _ _ _)
theorem kle_s1 (τ : tx_T) (Q : kQ) (x n : Nat) : kle Q (ks1 τ Q x n) := kle_fo (fun Q k => by
  cases tT τ 21 k == nI x
  · exact kle.rf Q
  · exact kle_cb _ _ _ _) Q n
theorem kle_s2 (τ : tx_T) (Q : kQ) (x n : Nat) : kle Q (ks2 τ Q x n) := kle_fo (fun Q k => by
  cases !(tT τ 10 x == -1) && (tT τ 10 k == tT τ 10 x)
  · exact kle.rf Q
  · exact kle_add _ _ _ _) Q n
theorem kin_add (τ : tx_T) (Q : kQ) (x : Nat) (b : Int32) : kin (kadd τ Q x b) x = true ∨ lostB τ x = true := by
  unfold kadd
  cases h1 : kin Q x
  · cases h2 : lostB τ x
    · left; show kin (Q ++ [(x, b)]) x = true
      rw [kin_app]; simp
    · exact Or.inr rfl
  · left; exact h1
theorem kcl_s1 {τ : tx_T} {Q : kQ} {x n : Nat} : ∀ k, k < n → kcl τ (ks1 τ Q x n) x k := by
  induction n with
  | zero => intro k hk; omega
  | succ n ih =>
    intro k hk h1 h2
    have hle : kle (ks1 τ Q x n) (ks1 τ Q x (n + 1)) := by
      show kle _ (bif tT τ 21 n == nI x then kcb τ (ks1 τ Q x n) x (cl (tT τ 24 n)) else ks1 τ Q x n)
      cases tT τ 21 n == nI x
      · exact kle.rf _
      · exact kle_cb _ _ _ _
    by_cases e : k = n
    · subst e
      have e1 : ks1 τ Q x (k + 1) = kcb τ (ks1 τ Q x k) x (cl (tT τ 24 k)) := by
        show (bif tT τ 21 k == nI x then _ else _) = _
        rw [beq_iff_eq.mpr h1]; rfl
      rw [e1]
      have e2 : kc1 τ (ks1 τ Q x k) x (cl (tT τ 24 k)) = kadd τ (ks1 τ Q x k) (cl (atI τ (cl (tT τ 24 k)))) (nI x) := by
        unfold kc1; rw [beq_iff_eq.mpr h2]; rfl
      rcases kin_add τ (ks1 τ Q x k) (cl (atI τ (cl (tT τ 24 k)))) (nI x) with h | h
      · left
        unfold kcb
        refine kle_kin (kle_c2 _ _ _ _ _) ?_
        rw [e2]; exact h
      · exact Or.inr h
    · exact (ih k (by omega) h1 h2).imp (kle_kin hle) id
theorem kst_le (τ : tx_T) (Q : kQ) (x : Nat) : kle Q (kst τ Q x) := (kle_s1 τ Q x _).tr (kle_s2 _ _ _ _)
theorem kit_le (τ : tx_T) : ∀ (f q : Nat) (Q : kQ), kle Q (kit τ f q Q) := by
  intro f
  induction f with
  | zero => intro q Q; exact kle.rf Q
  | succ f ih =>
    intro q Q
    rw [kit]
    cases Q[q]? with
    | none => exact kle.rf Q
    | some e => exact (kst_le τ Q e.1).tr (ih _ _)
theorem kst_V {τ : tx_T} (hV : TV τ) {Q : kQ} (h : kV τ Q) (x : Nat) : kV τ (kst τ Q x) := kV_s2 (kV_s1 hV h (Nat.le_refl _)) (Nat.le_refl _)
theorem kit_cl {τ : tx_T} (hV : TV τ) : ∀ (f q : Nat) (Q : kQ), kV τ Q → tN τ 1 < f + q → (∀ i, (h : i < Q.length) → i < q → ∀ k, k < tN τ 3 → kcl τ Q (Q[i]).1 k) → (∀ x, kin (kit τ f q Q) x = true → ∀ k, k < tN τ 3 → kcl τ (kit τ f q Q) x k) ∧ kV τ (kit τ f q Q) := by
  intro f
  induction f with
  | zero =>
    intro q Q hQ hq hc
    have hl := kV_len hQ
    refine ⟨fun x hx k hk => ?_, hQ⟩
    obtain ⟨e, he, hb⟩ := List.any_eq_true.mp (show Q.any (fun e => Nat.beq e.1 x) = true from hx)
    obtain ⟨i, hi, rfl⟩ := List.getElem_of_mem he
    have := Nat.eq_of_beq_eq_true hb
    subst this
    exact hc i hi (by omega) k hk
  | succ f ih =>
    intro q Q hQ hq hc
    by_cases hlt : q < Q.length
    · rw [kit_step hlt]
      refine ih (q + 1) _ (kst_V hV hQ _) (by omega) (fun i hi hiq k hk => ?_)
      obtain ⟨T, hT⟩ := kst_le τ Q (Q[q]).1
      have hi2 : i < Q.length := by omega
      have e1 : ((kst τ Q (Q[q]).1)[i]).1 = (Q[i]).1 := by
        simp only [hT]; rw [List.getElem_append_left hi2]
      rw [e1]
      by_cases e : i = q
      · subst e
        intro h1 h2
        exact (kcl_s1 k hk h1 h2).imp (kle_kin (kle_s2 _ _ _ _)) id
      · intro h1 h2
        exact (hc i hi2 (by omega) k hk h1 h2).imp (kle_kin ⟨T, hT⟩) id
    · rw [kit_end (by omega)]
      refine ⟨fun x hx k hk => ?_, hQ⟩
      obtain ⟨e, he, hb⟩ := List.any_eq_true.mp (show Q.any (fun e => Nat.beq e.1 x) = true from hx)
      obtain ⟨i, hi, rfl⟩ := List.getElem_of_mem he
      have := Nat.eq_of_beq_eq_true hb
      subst this
      exact hc i hi (by omega) k hk
theorem kR_cl {τ : tx_T} (hV : TV τ) : (∀ x, kin (kR τ) x = true → ∀ k, k < tN τ 3 → kcl τ (kR τ) x k) ∧ kV τ (kR τ) := kit_cl hV 61 0 _ (kV_2 hV) (by have := hV.1; omega) (fun i _ hi => absurd hi (Nat.not_lt_zero _))
