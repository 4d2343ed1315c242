/-! ===== Pure: which sections are alike ===== -/
def rlB (τ : tx_T) (x k : Nat) : Bool := tT τ 21 k == nI x
def rlN (τ : tx_T) (x : Nat) : Nat := cnt (rlB τ x) (tN τ 3)
def rlO (τ : tx_T) (x i : Nat) : Option Nat := fst1 (fun k => rlB τ x k && Nat.beq (cnt (rlB τ x) k) i) (tN τ 3)
theorem cnt_mono {f : Nat → Bool} {m n : Nat} (h : m ≤ n) : cnt f m ≤ cnt f n := by
  induction n with
  | zero => obtain rfl : m = 0 := by omega
            exact Nat.le_refl _
  | succ n ih =>
    by_cases e : m = n + 1
    · subst e; exact Nat.le_refl _
    · rw [cnt]; have := ih (by omega); omega
theorem rlO_ex {τ : tx_T} {x i : Nat} (h : i < rlN τ x) : ∃ k, rlO τ x i = some k ∧ k < tN τ 3 ∧ rlB τ x k = true ∧ cnt (rlB τ x) k = i := by
  have : ∀ n, i < cnt (rlB τ x) n → ∃ k, k < n ∧ rlB τ x k = true ∧ cnt (rlB τ x) k = i := by
    intro n
    induction n with
    | zero => intro h; exact absurd h (Nat.not_lt_zero _)
    | succ n ih =>
      intro h
      rw [cnt] at h
      by_cases e : i < cnt (rlB τ x) n
      · obtain ⟨k, h1, h2⟩ := ih e; exact ⟨k, by omega, h2⟩
      · cases hb : rlB τ x n
        · rw [hb] at h; simp at h; omega
        · rw [hb] at h; simp at h; exact ⟨n, by omega, hb, by omega⟩
  obtain ⟨k, h1, h2, h3⟩ := this _ h
  refine ⟨k, fst1_some.mpr ⟨h1, by rw [h2, h3]; simp, fun j hj => ?_⟩, h1, h2, h3⟩
  cases hb : rlB τ x j
  · rfl
  · have : cnt (rlB τ x) (j + 1) ≤ cnt (rlB τ x) k := cnt_mono (by omega)
    rw [cnt, hb] at this
    simp at this
    have : Nat.beq (cnt (rlB τ x) j) i = false := by
      cases e : Nat.beq (cnt (rlB τ x) j) i
      · rfl
      · have := Nat.eq_of_beq_eq_true e; omega
    rw [this]; rfl
/-- how two sections start alike -/
def stA (τ : tx_T) (a b : Nat) : Prop := tT τ 4 a = tT τ 4 b ∧ tT τ 5 a = tT τ 5 b ∧ tT τ 6 a = tT τ 6 b ∧ rlN τ a = rlN τ b ∧ ∀ i, i < cl (tT τ 5 a) → tY τ a i = tY τ b i
/-- two relocations are written alike, as far as A goes -/
def prA (τ : tx_T) (A : Nat → Nat → Prop) (x y : Nat) : Prop := tT τ 22 x = tT τ 22 y ∧ tT τ 23 x = tT τ 23 y ∧ tT τ 25 x = tT τ 25 y ∧ aimI τ (cl (tT τ 24 x)) = aimI τ (cl (tT τ 24 y)) ∧ (¬ aimI τ (cl (tT τ 24 x)) = 0 → (atI τ (cl (tT τ 24 x)) = atI τ (cl (tT τ 24 y)) ∨ aimI τ (cl (tT τ 24 x)) = 1 ∧ A (cl (atI τ (cl (tT τ 24 x)))) (cl (atI τ (cl (tT τ 24 y))))) ∧ offI τ (cl (tT τ 24 x)) = offI τ (cl (tT τ 24 y)))
def syA (τ : tx_T) (A : Nat → Nat → Prop) (a b : Nat) : Prop := ∀ i, i < rlN τ a → ∀ x y, rlO τ a i = some x → rlO τ b i = some y → prA τ A x y
def m0B (τ : tx_T) (w : Bool) (x : Nat) : Bool := w && decide (x < tN τ 1) && kin (kR τ) x && decide ((tT τ 4 x).toInt < 2) && (tT τ 8 x == 0) && (tT τ 9 x == -1)
def fbB (τ : tx_T) (x k : Nat) : Bool := kin (kR τ) (cl (tT τ 21 k)) && (aimI τ (cl (tT τ 24 k)) == 1) && !(tT τ 23 k == 3) && Nat.beq (cl (atI τ (cl (tT τ 24 k)))) x
def mayB (τ : tx_T) (w : Bool) (x : Nat) : Bool := m0B τ w x && !an (fbB τ x) (tN τ 3)
def A0 (τ : tx_T) (w : Bool) (a b : Nat) : Prop := a ≠ b ∧ mayB τ w a = true ∧ mayB τ w b = true ∧ stA τ a b
/-- alike: as many as can be -/
def gA (τ : tx_T) (w : Bool) (a b : Nat) : Prop := ∃ B : Nat → Nat → Prop, B a b ∧ ∀ x y, B x y → x < tN τ 1 ∧ y < tN τ 1 ∧ A0 τ w x y ∧ syA τ B x y
theorem prA_mono {τ : tx_T} {A B : Nat → Nat → Prop} (h : ∀ a b, A a b → B a b) {x y : Nat} (h2 : prA τ A x y) : prA τ B x y := ⟨h2.1, h2.2.1, h2.2.2.1, h2.2.2.2.1, fun e => ⟨((h2.2.2.2.2 e).1).imp id (fun q => ⟨q.1, h _ _ q.2⟩), (h2.2.2.2.2 e).2⟩⟩
theorem syA_mono {τ : tx_T} {A B : Nat → Nat → Prop} (h : ∀ a b, A a b → B a b) {x y : Nat} (h2 : syA τ A x y) : syA τ B x y := fun i hi a b ha hb => prA_mono h (h2 i hi a b ha hb)
theorem gA_post {τ : tx_T} {w : Bool} {a b : Nat} (h : gA τ w a b) : a < tN τ 1 ∧ b < tN τ 1 ∧ A0 τ w a b ∧ syA τ (gA τ w) a b := by
  obtain ⟨B, h1, h2⟩ := h
  obtain ⟨g1, g2, g3, g4⟩ := h2 a b h1
  exact ⟨g1, g2, g3, syA_mono (fun x y hxy => ⟨B, hxy, h2⟩) g4⟩
noncomputable def gB (τ : tx_T) (w : Bool) (a b : Nat) : Bool := @decide (gA τ w a b) (Classical.propDecidable _)
theorem gB_t {τ : tx_T} {w : Bool} {a b : Nat} : gB τ w a b = true ↔ gA τ w a b := by
  unfold gB; exact @decide_eq_true_iff _ (Classical.propDecidable _)
noncomputable def inO (τ : tx_T) (w : Bool) (b : Nat) : Option Nat := fst1 (fun a => gB τ w a b) b
/-- the model's matrix -/
def AS (s : rx_S) (a b : Nat) : Prop := ¬ rI s 1 45 (60 * a + b) = 0
theorem nI_mul (a b : Nat) : nI a * nI b = nI (a * b) := (Int32.ofNat_mul a b).symm
theorem aim_cases {τ : tx_T} {y : Nat} (h1 : ¬ aimI τ y = 0) (h2 : ¬ aimI τ y = 1) : (tT τ 17 y).toInt < -1 := by
  unfold aimI at h1 h2
  by_cases h : (tT τ 17 y).toInt < -1
  · exact h
  · rw [if_neg h] at h1 h2
    cases e : tgO τ y with
    | none => rw [e] at h1; exact absurd rfl h1
    | some d => rw [e] at h2; exact absurd rfl h2
