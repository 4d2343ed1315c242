/-! ===== What was told: counts (0 objects, 1 sections, 2 symbols, 3 relocations, 4 roots, 5 sum of sizes); fields by the model's numbers; bytes ===== -/
abbrev tx_T : Type := (Nat → Nat) × (Nat → Nat → Int32) × (Nat → Nat → Int32)
abbrev tN (τ : tx_T) (k : Nat) : Nat := τ.1 k
abbrev tT (τ : tx_T) (f i : Nat) : Int32 := τ.2.1 f i
abbrev tY (τ : tx_T) (i j : Nat) : Int32 := τ.2.2 i j
abbrev cl (x : Int32) : Nat := x.toNatClampNeg
def u1 (f : Nat → Nat) (k v : Nat) : Nat → Nat := fun a => bif Nat.beq a k then v else f a
def u2 (f : Nat → Nat → Int32) (k i : Nat) (v : Int32) : Nat → Nat → Int32 := fun a b => bif Nat.beq a k && Nat.beq b i then v else f a b
theorem beq_if {α : Type} (a b : Nat) (x y : α) : (bif Nat.beq a b then x else y) = if a = b then x else y := by
  by_cases h : a = b
  · subst h; simp
  · have : Nat.beq a b = false := by
      cases e : Nat.beq a b
      · rfl
      · exact absurd (Nat.eq_of_beq_eq_true e) h
    rw [this, if_neg h]; rfl
theorem u2_if (f : Nat → Nat → Int32) (k i a b : Nat) (v : Int32) : u2 f k i v a b = if a = k ∧ b = i then v else f a b := by
  simp only [u2]
  by_cases h : a = k ∧ b = i
  · obtain ⟨rfl, rfl⟩ := h; simp
  · rw [if_neg h]
    have : (Nat.beq a k && Nat.beq b i) = false := by
      cases e : (Nat.beq a k && Nat.beq b i)
      · rfl
      · rw [Bool.and_eq_true] at e
        exact absurd ⟨Nat.eq_of_beq_eq_true e.1, Nat.eq_of_beq_eq_true e.2⟩ h
    rw [this]; rfl
/-- within -/
abbrev iw (x : Int32) (a b : Int) : Prop := a ≤ x.toInt ∧ x.toInt ≤ b
def TV (τ : tx_T) : Prop :=
  (tN τ 0 ≤ 12 ∧ tN τ 1 ≤ 60 ∧ tN τ 2 ≤ 120 ∧ tN τ 3 ≤ 200 ∧ tN τ 4 ≤ 8 ∧ tN τ 5 ≤ 60000) ∧
  (∀ i, i < tN τ 1 → iw (tT τ 3 i) 0 (tN τ 0 - 1) ∧ iw (tT τ 4 i) 0 3 ∧ iw (tT τ 5 i) 0 20000 ∧ iw (tT τ 6 i) 0 8 ∧ iw (tT τ 8 i) 0 1 ∧ iw (tT τ 9 i) (-1) 7 ∧ iw (tT τ 10 i) (-1) 15 ∧ ∀ j, iw (tY τ i j) 0 255) ∧
  (∀ k, k < tN τ 2 → iw (tT τ 15 k) 0 (tN τ 0 - 1) ∧ iw (tT τ 16 k) 0 63 ∧ iw (tT τ 17 k) (-17) (tN τ 1 - 1) ∧ iw (tT τ 18 k) 0 20000 ∧ iw (tT τ 19 k) 0 2 ∧ (0 ≤ (tT τ 17 k).toInt → tT τ 3 (cl (tT τ 17 k)) = tT τ 15 k) ∧ ((tT τ 17 k).toInt < 0 → tT τ 18 k = 0) ∧ ((tT τ 17 k).toInt = -1 → 1 ≤ (tT τ 19 k).toInt) ∧ ((tT τ 17 k).toInt < -1 → tT τ 19 k = 0)) ∧
  (∀ k, k < tN τ 3 → iw (tT τ 21 k) 0 (tN τ 1 - 1) ∧ iw (tT τ 22 k) 0 20000 ∧ iw (tT τ 23 k) 0 4 ∧ iw (tT τ 24 k) 0 (tN τ 2 - 1) ∧ (tT τ 4 (cl (tT τ 21 k))).toInt < 3 ∧ (tT τ 23 k = 3 → tT τ 4 (cl (tT τ 21 k)) = 0)) ∧
  (∀ k, k < tN τ 4 → iw (tT τ 27 k) 0 63) ∧ (∀ k, k < 4 → iw (tT τ 28 k) (-1) 2000000000)
/-- the commands: the answer, and what is told then -/
def f_object (τ : tx_T) : Int32 × Option tx_T := if tN τ 0 = 12 then (-104, none) else (nI (tN τ 0), some (u1 τ.1 0 (tN τ 0 + 1), τ.2))
def f_section (τ : tx_T) (o k z a sd : Int32) : Int32 × Option tx_T :=
  if ¬ (0 ≤ o.toInt ∧ o.toInt < tN τ 0) then (-101, none)
  else if ¬ (iw k 0 3 ∧ iw z 0 20000 ∧ iw a 0 8) then (-102, none)
  else if tN τ 1 = 60 ∨ 60000 < tN τ 5 + z.toInt then (-104, none)
  else (nI (tN τ 1), some (u1 (u1 τ.1 1 (tN τ 1 + 1)) 5 (tN τ 5 + cl z), u2 (u2 (u2 (u2 (u2 (u2 (u2 τ.2.1 3 (tN τ 1) o) 4 (tN τ 1) k) 5 (tN τ 1) z) 6 (tN τ 1) a) 8 (tN τ 1) 0) 9 (tN τ 1) (-1)) 10 (tN τ 1) (-1), fun i j => if i = tN τ 1 then (sd + nI j) &&& 255 else τ.2.2 i j))
def f_patch (τ : tx_T) (x i v : Int32) : Int32 × Option tx_T :=
  if ¬ (0 ≤ x.toInt ∧ x.toInt < tN τ 1 ∧ (tT τ 4 (cl x)).toInt < 3) then (-101, none)
  else if ¬ (0 ≤ i.toInt ∧ i.toInt < (tT τ 5 (cl x)).toInt) then (-102, none)
  else (tY τ (cl x) (cl i), some (τ.1, τ.2.1, u2 τ.2.2 (cl x) (cl i) (v &&& 255)))
def f_mark (τ : tx_T) (x w v : Int32) : Int32 × Option tx_T :=
  if ¬ (0 ≤ x.toInt ∧ x.toInt < tN τ 1) then (-101, none)
  else if w = 0 then (if iw v 0 1 then (tT τ 8 (cl x), some (τ.1, u2 τ.2.1 8 (cl x) (if v = 1 then 1 else 0), τ.2.2)) else (-102, none))
  else if w = 1 then (if iw v (-1) 7 then (tT τ 9 (cl x), some (τ.1, u2 τ.2.1 9 (cl x) v, τ.2.2)) else (-102, none))
  else if w = 2 then (if iw v (-1) 15 then (tT τ 10 (cl x), some (τ.1, u2 τ.2.1 10 (cl x) v, τ.2.2)) else (-102, none))
  else (-102, none)
def f_symbol (τ : tx_T) (o n x i r : Int32) : Int32 × Option tx_T :=
  if ¬ (0 ≤ o.toInt ∧ o.toInt < tN τ 0 ∧ -17 ≤ x.toInt ∧ x.toInt < tN τ 1 ∧ (0 ≤ x.toInt → tT τ 3 (cl x) = o)) then (-101, none)
  else if ¬ (iw n 0 63 ∧ iw i 0 (if 0 ≤ x.toInt then (tT τ 5 (cl x)).toInt else 0) ∧ iw r (if x.toInt = -1 then 1 else 0) (if x.toInt < -1 then 0 else 2)) then (-102, none)
  else if tN τ 2 = 120 then (-104, none)
  else (nI (tN τ 2), some (u1 τ.1 2 (tN τ 2 + 1), u2 (u2 (u2 (u2 (u2 τ.2.1 15 (tN τ 2) o) 16 (tN τ 2) n) 17 (tN τ 2) x) 18 (tN τ 2) i) 19 (tN τ 2) r, τ.2.2))
def t_wide (t : Int32) : Int := if t = 0 ∨ t = 2 then 4 else if t = 4 then 1 else 2
def f_relocation (τ : tx_T) (x i t y a : Int32) : Int32 × Option tx_T :=
  if ¬ ((0 ≤ x.toInt ∧ x.toInt < tN τ 1 ∧ (tT τ 4 (cl x)).toInt < 3) ∧ (0 ≤ y.toInt ∧ y.toInt < tN τ 2) ∧ tT τ 15 (cl y) = tT τ 3 (cl x)) then (-101, none)
  else if ¬ (iw t 0 4 ∧ iw i 0 ((tT τ 5 (cl x)).toInt - t_wide t) ∧ (t = 3 → tT τ 4 (cl x) = 0)) then (-102, none)
  else if tN τ 3 = 200 then (-104, none)
  else (nI (tN τ 3), some (u1 τ.1 3 (tN τ 3 + 1), u2 (u2 (u2 (u2 (u2 τ.2.1 21 (tN τ 3) x) 22 (tN τ 3) i) 23 (tN τ 3) t) 24 (tN τ 3) y) 25 (tN τ 3) a, τ.2.2))
def f_root (τ : tx_T) (n : Int32) : Int32 × Option tx_T :=
  if ¬ iw n 0 63 then (-102, none)
  else if tN τ 4 = 8 then (-104, none)
  else (nI (tN τ 4 + 1), some (u1 τ.1 4 (tN τ 4 + 1), u2 τ.2.1 27 (tN τ 4) n, τ.2.2))
def f_base (τ : tx_T) (k p : Int32) : Int32 × Option tx_T :=
  if ¬ (iw k 0 3 ∧ iw p (-1) 2000000000) then (-102, none)
  else (tT τ 28 (cl k), some (τ.1, u2 τ.2.1 28 (cl k) p, τ.2.2))
/-- the model holds what was told -/
def MR (s : rx_S) (τ : tx_T) : Prop := rm_F s ∧
  (rX s 0 0 1 = .inl (.int (nI (tN τ 0))) ∧ rX s 0 0 2 = .inl (.int (nI (tN τ 1))) ∧ rX s 0 0 13 = .inl (.int (nI (tN τ 5))) ∧ rX s 0 0 14 = .inl (.int (nI (tN τ 2))) ∧ rX s 0 0 20 = .inl (.int (nI (tN τ 3))) ∧ rX s 0 0 26 = .inl (.int (nI (tN τ 4)))) ∧
  (∀ i, i < tN τ 1 → rI s 1 3 i = tT τ 3 i ∧ rI s 1 4 i = tT τ 4 i ∧ rI s 1 5 i = tT τ 5 i ∧ rI s 1 6 i = tT τ 6 i ∧ rI s 1 8 i = tT τ 8 i ∧ rI s 1 9 i = tT τ 9 i ∧ rI s 1 10 i = tT τ 10 i) ∧
  (∃ (fr : Nat → Nat) (fl : Nat), rX s 0 0 12 = .inl (.int (nI fl)) ∧ fl ≤ tN τ 5 ∧ (∀ i, i < tN τ 1 → (tT τ 4 i).toInt < 3 → rI s 1 7 i = nI (fr i) ∧ fr i + cl (tT τ 5 i) ≤ fl ∧ ∀ j, j < cl (tT τ 5 i) → rI s 1 11 (fr i + j) = tY τ i j) ∧
    (∀ i i', i < i' → i' < tN τ 1 → (tT τ 4 i).toInt < 3 → (tT τ 4 i').toInt < 3 → fr i + cl (tT τ 5 i) ≤ fr i')) ∧
  (∀ k, k < tN τ 2 → rI s 1 15 k = tT τ 15 k ∧ rI s 1 16 k = tT τ 16 k ∧ rI s 1 17 k = tT τ 17 k ∧ rI s 1 18 k = tT τ 18 k ∧ rI s 1 19 k = tT τ 19 k) ∧
  (∀ k, k < tN τ 3 → rI s 1 21 k = tT τ 21 k ∧ rI s 1 22 k = tT τ 22 k ∧ rI s 1 23 k = tT τ 23 k ∧ rI s 1 24 k = tT τ 24 k ∧ rI s 1 25 k = tT τ 25 k) ∧
  (∀ k, k < tN τ 4 → rI s 1 27 k = tT τ 27 k) ∧ (∀ k, k < 4 → rL s 1 28 k = (tT τ 28 k).toInt64)
/-- nothing is linked -/
def MT (s : rx_S) : Prop := rX s 0 0 29 = .inl (.int (0)) ∧ rX s 0 0 30 = .inl (.int (0)) ∧ rX s 0 0 31 = .inl (.int (0)) ∧ rX s 0 0 32 = .inl (.int (-1))
/-- only the model has changed -/
def mfr (s s' : rx_S) : Prop := rA s' = rA s ∧ rU s' = rU s ∧ rQ s' = rQ s ∧ rY s' = rY s ∧ ∀ r, 2 ≤ r → rX s' r = rX s r ∧ rI s' r = rI s r ∧ rL s' r = rL s r
theorem mfr.rf (s : rx_S) : mfr s s := ⟨rfl, rfl, rfl, rfl, fun _ _ => ⟨rfl, rfl, rfl⟩⟩
theorem mfr.tr {s s' s'' : rx_S} (h : mfr s s') (h' : mfr s' s'') : mfr s s'' := ⟨h'.1.trans h.1, h'.2.1.trans h.2.1, h'.2.2.1.trans h.2.2.1, h'.2.2.2.1.trans h.2.2.2.1, fun r hr => ⟨(h'.2.2.2.2 r hr).1.trans (h.2.2.2.2 r hr).1, (h'.2.2.2.2 r hr).2.1.trans (h.2.2.2.2 r hr).2.1, (h'.2.2.2.2 r hr).2.2.trans (h.2.2.2.2 r hr).2.2⟩⟩
theorem mfr.X {s s' : rx_S} (h : mfr s s') {i f : Nat} {w : rx_V} : mfr s (sX s' 0 i f w) := ⟨h.1, h.2.1, h.2.2.1, h.2.2.2.1, fun r hr => ⟨by
  rw [← (h.2.2.2.2 r hr).1]
  funext a b
  exact u3_n _ _ (fun e => by omega), (h.2.2.2.2 r hr).2⟩⟩
theorem mfr.I {s s' : rx_S} (h : mfr s s') {i f : Nat} {w : Int32} : mfr s (sI s' 1 i f w) := ⟨h.1, h.2.1, h.2.2.1, h.2.2.2.1, fun r hr => ⟨(h.2.2.2.2 r hr).1, by
  rw [← (h.2.2.2.2 r hr).2.1]
  funext a b
  exact w3_n _ _ (fun e => by omega), (h.2.2.2.2 r hr).2.2⟩⟩
theorem mfr.L {s s' : rx_S} (h : mfr s s') {i f : Nat} {w : Int64} : mfr s (sL s' 1 i f w) := ⟨h.1, h.2.1, h.2.2.1, h.2.2.2.1, fun r hr => ⟨(h.2.2.2.2 r hr).1, (h.2.2.2.2 r hr).2.1, by
  rw [← (h.2.2.2.2 r hr).2.2]
  funext a b
  exact w3_n _ _ (fun e => by omega)⟩⟩
theorem mfr.told (s : rx_S) : mfr s (m_told s) := ((((mfr.rf s).X).X).X).X
theorem t_cnt {n : Nat} (h : n < 2 ^ 31) : (nI n - 1).toInt64.toInt = (n : Int) - 1 := by
  rw [Int32.toInt_toInt64, Int32.toInt_sub, nI_toInt h]
  show ((n : Int) - 1).bmod (2 ^ 32) = _
  rw [Int.bmod_def]; omega
