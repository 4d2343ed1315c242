/-! ===== Pure: how a link ends, as the class finds it ===== -/
def F2B (τ : tx_T) (r : Nat) : Bool := (defO τ (tT τ 27 r)).isNone
theorem W2_eq (τ : tx_T) : W2 τ (tN τ 4) = match fst1 (F2B τ) (tN τ 4) with
    | none => (0, -1)
    | some r => (2, nI r) := by
  unfold W2
  have := fo_bd (f := F2B τ) (c := 2) (by decide) (0, -1) (tN τ 4)
  rw [if_pos rfl] at this
  exact this
theorem W4_eq (τ : tx_T) : W4 τ (tN τ 3) = match fst1 (F2B τ) (tN τ 4) with
    | some r => (2, nI r)
    | none => match fst1 (f3B τ) (tN τ 3) with
      | some k => (3, nI k)
      | none => match fst1 (f4B τ) (tN τ 3) with
        | some k => (4, nI k)
        | none => (0, -1) := by
  unfold W4
  rw [fo_bd (f := f4B τ) (c := 4) (by decide)]
  unfold W3
  rw [fo_bd (f := f3B τ) (c := 3) (by decide), W2_eq]
  cases fst1 (F2B τ) (tN τ 4) with
  | some r => simp
  | none =>
    simp only [if_pos]
    cases fst1 (f3B τ) (tN τ 3) with
    | some k => simp
    | none =>
      simp only [if_pos]
      cases fst1 (f4B τ) (tN τ 3) <;> rfl
theorem W5j_eq (τ : tx_T) (w : Bool) (V : List (Nat × Nat)) (k : Nat) (p : Int32 × Int32) (n : Nat) : W5j τ w V k p n = bif an (ovB τ w V k) n then bd p 5 (nI k) else p := by
  unfold W5j
  induction n with
  | zero => rfl
  | succ n ih =>
    rw [fo, ih, an]
    cases an (ovB τ w V k) n
    · simp
    · simp only [Bool.true_or, cond_true]
      cases ovB τ w V k n
      · rfl
      · simp only [cond_true]
        unfold bd
        by_cases h : p.1 = 0
        · rw [if_pos h]; simp
        · rw [if_neg h, if_neg h]
theorem W6_eq (τ : tx_T) (w : Bool) (S : vS) (h : W4 τ (tN τ 3) = (0, -1)) : W6 τ w S (tN τ 3) = match fst1 (fun k => an (ovB τ w S.1 k) k) 4 with
    | some k => (5, nI k)
    | none => match fst1 (f6B τ w S) (tN τ 3) with
      | some k => (6, nI k)
      | none => (0, -1) := by
  have h5 : W5 τ w S.1 4 = match fst1 (fun k => an (ovB τ w S.1 k) k) 4 with
      | some k => (5, nI k)
      | none => (0, -1) := by
    unfold W5
    rw [h, fo_congr (g := fun p k => bif (fun k => an (ovB τ w S.1 k) k) k then bd p 5 (nI k) else p) (fun p k _ => W5j_eq τ w S.1 k p k) (0, -1), fo_bd (f := fun k => an (ovB τ w S.1 k) k) (c := 5) (by decide)]
    rw [if_pos rfl]
    cases fst1 (fun k => an (ovB τ w S.1 k) k) 4 <;> rfl
  unfold W6
  rw [fo_bd (f := f6B τ w S) (c := 6) (by decide), h5]
  cases fst1 (fun k => an (ovB τ w S.1 k) k) 4 with
  | some k => simp
  | none =>
    simp only [if_pos]
    cases fst1 (f6B τ w S) (tN τ 3) <;> rfl
