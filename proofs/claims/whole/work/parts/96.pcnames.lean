/-! ===== Pure: names, as the class finds them ===== -/
def mnI (τ : tx_T) (g n : Nat) : Int32 := fo (fun v t => if tT τ 10 t = nI g then (if tT τ 3 t < v then tT τ 3 t else v) else v) 12 n
theorem i32lt {x y : Int32} : x < y ↔ x.toInt < y.toInt := Int32.lt_iff_toInt_lt
theorem i32le {x y : Int32} : x ≤ y ↔ x.toInt ≤ y.toInt := Int32.le_iff_toInt_le
theorem mnI_lt {τ : tx_T} {g n : Nat} {o : Int32} (ho : o.toInt ≤ 12) : (mnI τ g n).toInt < o.toInt ↔ ∃ t, t < n ∧ tT τ 10 t = nI g ∧ (tT τ 3 t).toInt < o.toInt := by
  unfold mnI
  induction n with
  | zero =>
    simp only [fo]
    have : (12 : Int32).toInt = 12 := by decide
    constructor
    · intro h; omega
    · rintro ⟨t, h, _⟩; omega
  | succ n ih =>
    simp only [fo]
    by_cases e : tT τ 10 n = nI g
    · rw [if_pos e]
      split
      · rename_i h
        rw [i32lt] at h
        constructor
        · intro h2; exact ⟨n, by omega, e, h2⟩
        · rintro ⟨t, h1, h2, h3⟩
          by_cases e2 : t = n
          · subst e2; exact h3
          · have := ih.mpr ⟨t, by omega, h2, h3⟩; omega
      · rename_i h
        rw [ih]
        rw [i32lt] at h
        constructor
        · rintro ⟨t, h1, h2⟩; exact ⟨t, by omega, h2⟩
        · rintro ⟨t, h1, h2, h3⟩
          by_cases e2 : t = n
          · subst e2; exact ih.mp (by omega)
          · exact ⟨t, by omega, h2, h3⟩
    · rw [if_neg e, ih]
      constructor
      · rintro ⟨t, h1, h2⟩; exact ⟨t, by omega, h2⟩
      · rintro ⟨t, h1, h2, h3⟩
        by_cases e2 : t = n
        · subst e2; exact absurd h2 e
        · exact ⟨t, by omega, h2, h3⟩
theorem lost_mn {τ : tx_T} (hV : TV τ) {i g : Nat} (hi : i < tN τ 1) (hg : g < 16) (h : tT τ 10 i = nI g) : lostB τ i = decide ((mnI τ g (tN τ 1)).toInt < (tT τ 3 i).toInt) := by
  have h3 := (hV.2.1 i hi).1
  have hV0 := hV.1
  have hn : ¬ nI g = -1 := fun e => by
    have e2 : (nI g).toInt = (-1 : Int32).toInt := congrArg Int32.toInt e
    rw [nI_toInt (by omega)] at e2
    have : (-1 : Int32).toInt = -1 := by decide
    omega
  rw [Bool.eq_iff_iff, decide_eq_true_iff, mnI_lt (by omega)]
  unfold lostB
  rw [an_iff]
  simp [h, hn]
theorem lost_no {τ : tx_T} {i : Nat} (h : (tT τ 10 i).toInt < 0) (h2 : -1 ≤ (tT τ 10 i).toInt) : lostB τ i = false := by
  have : tT τ 10 i = -1 := i32e (by have : (-1 : Int32).toInt = -1 := by decide
                                    omega)
  unfold lostB
  rw [an_false]
  intro k _
  simp [this]
/-- the symbol that defines a name, among the first k -/
def dfK (τ : tx_T) (n : Int32) (k : Nat) : Option Nat := match fst1 (isG τ n) k with
  | some g => some g
  | none => fst1 (isW τ n) k
theorem dfK_end (τ : tx_T) (n : Int32) : dfK τ n (tN τ 2) = defO τ n := rfl
theorem dfK_lt {τ : tx_T} {n : Int32} {k d : Nat} (h : dfK τ n k = some d) : d < k ∧ isD τ n d = true ∧ (tT τ 19 d = 1 ∨ tT τ 19 d = 2) := by
  unfold dfK at h
  cases e : fst1 (isG τ n) k with
  | some g =>
    rw [e] at h; cases h
    have := fst1_some.mp e
    have h2 := this.2.1
    unfold isG at h2
    rw [Bool.and_eq_true] at h2
    exact ⟨this.1, h2.1, Or.inl (by simpa using h2.2)⟩
  | none =>
    rw [e] at h
    have := fst1_some.mp h
    have h2 := this.2.1
    unfold isW at h2
    rw [Bool.and_eq_true] at h2
    exact ⟨this.1, h2.1, Or.inr (by simpa using h2.2)⟩
theorem isD_n {τ : tx_T} {n : Int32} {k : Nat} (h : isD τ n k = true) : tT τ 16 k = n := by
  unfold isD at h
  simp only [Bool.and_eq_true, beq_iff_eq] at h
  exact h.1.1.1
theorem dfK_o {τ : tx_T} {n : Int32} {k : Nat} (h : isD τ n k = false) : dfK τ n (k + 1) = dfK τ n k := by
  have h1 : isG τ n k = false := by unfold isG; rw [h]; rfl
  have h2 : isW τ n k = false := by unfold isW; rw [h]; rfl
  unfold dfK
  rw [fst1_f h1, fst1_f h2]
theorem is2_o {τ : tx_T} {k : Nat} (h : isD τ (tT τ 16 k) k = false) : is2 τ k = false := by
  unfold is2 isG; rw [h]; rfl
/-- a definition that is stronger -/
theorem dfK_s {τ : tx_T} {k : Nat} (h : isD τ (tT τ 16 k) k = true) (h19 : tT τ 19 k = 1 ∨ tT τ 19 k = 2) (hs : dfK τ (tT τ 16 k) k = none ∨ ∃ e, dfK τ (tT τ 16 k) k = some e ∧ tT τ 19 e = 2 ∧ tT τ 19 k = 1) : dfK τ (tT τ 16 k) (k + 1) = some k ∧ is2 τ k = false := by
  have hg0 : fst1 (isG τ (tT τ 16 k)) k = none := by
    cases e : fst1 (isG τ (tT τ 16 k)) k with
    | none => rfl
    | some g =>
      have hd : dfK τ (tT τ 16 k) k = some g := by unfold dfK; rw [e]
      rcases hs with hs | ⟨e2, hs, h2, _⟩
      · rw [hd] at hs; cases hs
      · rw [hd] at hs; cases hs
        have h3 := (fst1_some.mp e).2.1
        unfold isG at h3
        rw [Bool.and_eq_true] at h3
        have h4 : tT τ 19 g = 1 := by simpa using h3.2
        rw [h4] at h2; exact absurd h2 (by decide)
  have ha : an (isG τ (tT τ 16 k)) k = false := by
    rw [an_false]; exact fst1_none.mp hg0
  refine ⟨?_, by unfold is2; rw [ha]; simp⟩
  unfold dfK
  rcases h19 with h1 | h2
  · rw [fst1_t hg0 (by unfold isG; rw [h, h1]; rfl)]
  · have hs : dfK τ (tT τ 16 k) k = none := by
      rcases hs with hs | ⟨_, _, _, h1⟩
      · exact hs
      · rw [h2] at h1; exact absurd h1 (by decide)
    have hw : fst1 (isW τ (tT τ 16 k)) k = none := by unfold dfK at hs; rw [hg0] at hs; exact hs
    have hg1 : isG τ (tT τ 16 k) k = false := by unfold isG; rw [h, h2]; rfl
    rw [fst1_f hg1, hg0]
    exact fst1_t hw (by unfold isW; rw [h, h2]; rfl)
/-- one that is not -/
theorem dfK_w {τ : tx_T} {k : Nat} (h : isD τ (tT τ 16 k) k = true) (h19 : tT τ 19 k = 1 ∨ tT τ 19 k = 2) (hs : ¬ (dfK τ (tT τ 16 k) k = none ∨ ∃ e, dfK τ (tT τ 16 k) k = some e ∧ tT τ 19 e = 2 ∧ tT τ 19 k = 1)) : (tT τ 19 k = 2 → dfK τ (tT τ 16 k) (k + 1) = dfK τ (tT τ 16 k) k ∧ is2 τ k = false) ∧ (¬ tT τ 19 k = 2 → is2 τ k = true) := by
  constructor
  · intro h2
    have hg1 : isG τ (tT τ 16 k) k = false := by unfold isG; rw [h, h2]; rfl
    refine ⟨?_, by unfold is2; rw [hg1]; rfl⟩
    unfold dfK
    rw [fst1_f hg1]
    cases e : fst1 (isG τ (tT τ 16 k)) k with
    | some g => rfl
    | none =>
      cases e2 : fst1 (isW τ (tT τ 16 k)) k with
      | none => exact absurd (Or.inl (by unfold dfK; rw [e, e2])) hs
      | some u => simp only; exact fst1_s e2
  · intro h2
    have h1 : tT τ 19 k = 1 := h19.resolve_right h2
    have hgk : isG τ (tT τ 16 k) k = true := by unfold isG; rw [h, h1]; rfl
    unfold is2
    rw [hgk, Bool.true_and]
    cases e : fst1 (isG τ (tT τ 16 k)) k with
    | some g => exact an_iff.mpr ⟨g, (fst1_some.mp e).1, (fst1_some.mp e).2.1⟩
    | none =>
      exfalso
      apply hs
      cases e2 : fst1 (isW τ (tT τ 16 k)) k with
      | none => exact Or.inl (by unfold dfK; rw [e, e2])
      | some u =>
        refine Or.inr ⟨u, by unfold dfK; rw [e, e2], ?_, h1⟩
        have h3 := (fst1_some.mp e2).2.1
        unfold isW at h3
        rw [Bool.and_eq_true] at h3
        simpa using h3.2
