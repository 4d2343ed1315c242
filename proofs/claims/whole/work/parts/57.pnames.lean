/-! ===== Pure: any, first, names ===== -/
def an (f : Nat → Bool) : Nat → Bool
  | 0 => false
  | n + 1 => an f n || f n
def fst1 (f : Nat → Bool) : Nat → Option Nat
  | 0 => none
  | n + 1 => match fst1 f n with
    | some k => some k
    | none => bif f n then some n else none
def cnt (f : Nat → Bool) : Nat → Nat
  | 0 => 0
  | n + 1 => cnt f n + (bif f n then 1 else 0)
theorem an_iff {f : Nat → Bool} {n : Nat} : an f n = true ↔ ∃ k, k < n ∧ f k = true := by
  induction n with
  | zero => simp [an]
  | succ n ih =>
    rw [an, Bool.or_eq_true, ih]
    constructor
    · rintro (⟨k, h1, h2⟩ | h)
      · exact ⟨k, by omega, h2⟩
      · exact ⟨n, by omega, h⟩
    · rintro ⟨k, h1, h2⟩
      by_cases e : k = n
      · subst e; exact Or.inr h2
      · exact Or.inl ⟨k, by omega, h2⟩
theorem an_false {f : Nat → Bool} {n : Nat} : an f n = false ↔ ∀ k, k < n → f k = false := by
  rw [← Bool.not_eq_true, an_iff]
  constructor
  · intro h k hk
    cases e : f k
    · rfl
    · exact absurd ⟨k, hk, e⟩ h
  · rintro h ⟨k, h1, h2⟩
    rw [h k h1] at h2; cases h2
theorem fst1_some {f : Nat → Bool} {n k : Nat} : fst1 f n = some k ↔ k < n ∧ f k = true ∧ ∀ j, j < k → f j = false := by
  induction n generalizing k with
  | zero => simp [fst1]
  | succ n ih =>
    rw [fst1]
    cases e : fst1 f n with
    | some j =>
      have hj := ih.mp e
      simp only [Option.some.injEq]
      constructor
      · rintro rfl; exact ⟨by omega, hj.2⟩
      · rintro ⟨h1, h2, h3⟩
        rcases Nat.lt_trichotomy j k with h | h | h
        · rw [h3 j h] at hj; exact absurd hj.2.1 (by simp)
        · exact h
        · rw [hj.2.2 k h] at h2; cases h2
    | none =>
      have hn : ∀ j, j < n → f j = false := by
        intro j hj
        cases e2 : f j
        · rfl
        · exfalso
          have : ∃ k, k < n ∧ f k = true ∧ ∀ i, i < k → f i = false := by
            clear e ih
            induction j using Nat.strongRecOn with
            | _ j ih2 =>
              by_cases h : ∃ i, i < j ∧ f i = true
              · obtain ⟨i, h1, h2⟩ := h; exact ih2 i h1 (by omega) h2
              · refine ⟨j, ?_, e2, fun i hi => ?_⟩
                · exact hj
                · cases e3 : f i
                  · rfl
                  · exact absurd ⟨i, hi, e3⟩ h
          obtain ⟨k, hk⟩ := this
          rw [ih.mpr hk] at e; cases e
      cases e2 : f n
      · simp only [cond_false]
        constructor
        · intro h; cases h
        · rintro ⟨h1, h2, h3⟩
          by_cases h : k = n
          · subst h; rw [e2] at h2; cases h2
          · rw [hn k (by omega)] at h2; cases h2
      · simp only [cond_true, Option.some.injEq]
        constructor
        · rintro rfl; exact ⟨by omega, e2, hn⟩
        · rintro ⟨h1, h2, h3⟩
          by_cases h : k = n
          · exact h.symm
          · rw [hn k (by omega)] at h2; cases h2
theorem fst1_none {f : Nat → Bool} {n : Nat} : fst1 f n = none ↔ ∀ j, j < n → f j = false := by
  constructor
  · intro h j hj
    induction n generalizing j with
    | zero => omega
    | succ n ih =>
      rw [fst1] at h
      cases e : fst1 f n with
      | some k => rw [e] at h; cases h
      | none =>
        rw [e] at h
        cases e2 : f n with
        | true => rw [e2] at h; cases h
        | false =>
          by_cases hjn : j = n
          · subst hjn; exact e2
          · exact ih e j (by omega)
  · intro h
    cases e : fst1 f n with
    | none => rfl
    | some k =>
      have := fst1_some.mp e
      rw [h k this.1] at this; cases this.2.1
theorem fst1_s {f : Nat → Bool} {n k : Nat} (h : fst1 f n = some k) : fst1 f (n + 1) = some k := by rw [fst1, h]
theorem fst1_t {f : Nat → Bool} {n : Nat} (h : fst1 f n = none) (h2 : f n = true) : fst1 f (n + 1) = some n := by rw [fst1, h]; simp [h2]
theorem fst1_f {f : Nat → Bool} {n : Nat} (h2 : f n = false) : fst1 f (n + 1) = fst1 f n := by
  rw [fst1]; cases fst1 f n <;> simp [h2]
/-- booleans and numbers as the machine holds them -/
def b32 (b : Bool) : Int32 := bif b then 1 else 0
def oI : Option Nat → Int32
  | none => -1
  | some k => nI k
theorem oI_none {o : Option Nat} (h : ∀ k, o = some k → k < 2 ^ 31) : oI o = -1 ↔ o = none := by
  cases o with
  | none => simp [oI]
  | some k =>
    have := h k rfl
    constructor
    · intro e
      have e2 : (nI k).toInt = (-1 : Int32).toInt := congrArg Int32.toInt e
      rw [nI_toInt this] at e2
      have : (-1 : Int32).toInt = -1 := by decide
      omega
    · intro e; cases e
/-- a section that is lost: an earlier object has its group -/
def lostB (τ : tx_T) (i : Nat) : Bool := an (fun t => !(tT τ 10 i == -1) && (tT τ 10 t == tT τ 10 i) && decide ((tT τ 3 t).toInt < (tT τ 3 i).toInt)) (tN τ 1)
/-- symbol k defines name n -/
def isD (τ : tx_T) (n : Int32) (k : Nat) : Bool := (tT τ 16 k == n) && decide (0 < (tT τ 19 k).toInt) && decide (0 ≤ (tT τ 17 k).toInt) && !(lostB τ (cl (tT τ 17 k)))
def isG (τ : tx_T) (n : Int32) (k : Nat) : Bool := isD τ n k && (tT τ 19 k == 1)
def isW (τ : tx_T) (n : Int32) (k : Nat) : Bool := isD τ n k && (tT τ 19 k == 2)
/-- the symbol that defines a name -/
def defO (τ : tx_T) (n : Int32) : Option Nat := match fst1 (isG τ n) (tN τ 2) with
  | some k => some k
  | none => fst1 (isW τ n) (tN τ 2)
/-- a second global one -/
def is2 (τ : tx_T) (k : Nat) : Bool := isG τ (tT τ 16 k) k && an (isG τ (tT τ 16 k)) k
def secO (τ : tx_T) : Option Nat := fst1 (is2 τ) (tN τ 2)
/-- the symbol that a symbol leads to -/
def tgO (τ : tx_T) (k : Nat) : Option Nat := if (tT τ 17 k).toInt < -1 then none else if tT τ 19 k = 0 then some k else defO τ (tT τ 16 k)
def aimI (τ : tx_T) (k : Nat) : Int32 := if (tT τ 17 k).toInt < -1 then (if -10 < (tT τ 17 k).toInt then 2 else 3) else match tgO τ k with
  | none => 0
  | some _ => 1
def atI (τ : tx_T) (k : Nat) : Int32 := if (tT τ 17 k).toInt < -1 then (if -10 < (tT τ 17 k).toInt then -2 - tT τ 17 k else -10 - tT τ 17 k) else match tgO τ k with
  | none => -1
  | some d => tT τ 17 d
def offI (τ : tx_T) (k : Nat) : Int32 := match tgO τ k with
  | none => 0
  | some d => tT τ 18 d
theorem defO_lt {τ : tx_T} {n : Int32} {d : Nat} (h : defO τ n = some d) : d < tN τ 2 ∧ isD τ n d = true := by
  unfold defO at h
  cases e : fst1 (isG τ n) (tN τ 2) with
  | some k =>
    rw [e] at h
    cases h
    have := fst1_some.mp e
    exact ⟨this.1, by have h2 := this.2.1; unfold isG at h2; rw [Bool.and_eq_true] at h2; exact h2.1⟩
  | none =>
    rw [e] at h
    have := fst1_some.mp h
    exact ⟨this.1, by have h2 := this.2.1; unfold isW at h2; rw [Bool.and_eq_true] at h2; exact h2.1⟩
theorem tgO_lt {τ : tx_T} {k d : Nat} (hk : k < tN τ 2) (h : tgO τ k = some d) : d < tN τ 2 := by
  unfold tgO at h
  split at h
  · cases h
  · split at h
    · cases h; exact hk
    · exact (defO_lt h).1
/-- the least of those that P holds of -/
def lst (P : Nat → Prop) (v : Int32) : Prop := (v = -1 ∧ ∀ j, ¬ P j) ∨ ∃ j, v = nI j ∧ P j ∧ (∀ i, P i → j ≤ i) ∧ j < 200
theorem lst_congr {P P' : Nat → Prop} {v : Int32} (h : ∀ j, P j ↔ P' j) (h2 : lst P v) : lst P' v := by
  rcases h2 with ⟨h1, h2⟩ | ⟨j, h1, h2, h3, h4⟩
  · exact Or.inl ⟨h1, fun j e => h2 j ((h j).mpr e)⟩
  · exact Or.inr ⟨j, h1, (h j).mp h2, fun i e => h3 i ((h i).mpr e), h4⟩
theorem lst_add {P P' : Nat → Prop} {v : Int32} {k : Nat} (hk : k < 200) (h : ∀ j, P' j ↔ P j ∨ j = k) (h2 : lst P v) : (v = -1 ∨ (nI k < v ∧ v ≠ -1) → lst P' (nI k)) ∧ (v ≠ -1 → v ≤ nI k → lst P' v) := by
  rcases h2 with ⟨h1, h2⟩ | ⟨j, h1, h2, h3, h4⟩
  · refine ⟨fun _ => Or.inr ⟨k, rfl, (h k).mpr (Or.inr rfl), fun i e => ?_, hk⟩, fun e => absurd h1 e⟩
    rcases (h i).mp e with e | e
    · exact absurd e (h2 i)
    · omega
  · subst h1
    have ne : nI j ≠ -1 := fun e => by
      have e2 : (nI j).toInt = (-1 : Int32).toInt := congrArg Int32.toInt e
      rw [nI_toInt (by omega)] at e2
      have : (-1 : Int32).toInt = -1 := by decide
      omega
    refine ⟨fun e => ?_, fun _ e => ?_⟩
    · have hlt : k < j := by
        rcases e with e | e
        · exact absurd e ne
        · exact (nI_ltI (by omega) (by omega)).mp e.1
      refine Or.inr ⟨k, rfl, (h k).mpr (Or.inr rfl), fun i e => ?_, hk⟩
      rcases (h i).mp e with e | e
      · have := h3 i e; omega
      · omega
    · have hle : j ≤ k := (nI_leI (by omega) (by omega)).mp e
      refine Or.inr ⟨j, rfl, (h j).mpr (Or.inl h2), fun i e => ?_, h4⟩
      rcases (h i).mp e with e | e
      · exact h3 i e
      · omega
/-- the seconds told so far: of names before n, and of name n among the symbols before k -/
def secP (τ : tx_T) (n k j : Nat) : Prop := j < tN τ 2 ∧ is2 τ j = true ∧ ((tT τ 16 j).toInt < n ∨ ((tT τ 16 j).toInt = n ∧ j < k))
theorem sec_end {τ : tx_T} (hV : TV τ) {v : Int32} (h : lst (secP τ 64 0) v) : v = oI (secO τ) := by
  have hV0 := hV.1
  rcases h with ⟨rfl, h2⟩ | ⟨j, rfl, h2, h3, h4⟩
  · have : secO τ = none := fst1_none.mpr (fun j hj => by
      cases e : is2 τ j
      · rfl
      · exact absurd ⟨hj, e, Or.inl (by have := (hV.2.2.1 j hj).2.1; omega)⟩ (h2 j))
    rw [this]; rfl
  · have : secO τ = some j := fst1_some.mpr ⟨h2.1, h2.2.1, fun i hi => by
      cases e : is2 τ i
      · rfl
      · have := h3 i ⟨by have := h2.1; omega, e, Or.inl (by have := (hV.2.2.1 i (by have := h2.1; omega)).2.1; omega)⟩
        omega⟩
    rw [this]; rfl
theorem secP_next {τ : tx_T} (n j : Nat) : secP τ n (tN τ 2) j ↔ secP τ (n + 1) 0 j := by
  unfold secP
  constructor
  · rintro ⟨h1, h2, h3⟩; exact ⟨h1, h2, Or.inl (by omega)⟩
  · rintro ⟨h1, h2, h3⟩; exact ⟨h1, h2, by omega⟩
/-- what the model's names are -/
def NL (s : rx_S) (τ : tx_T) : Prop := ∀ i, i < tN τ 1 → rI s 1 33 i = b32 (lostB τ i)
def ND (s : rx_S) (τ : tx_T) (n : Nat) : Prop := ∀ i, i < n → rI s 1 34 i = oI (defO τ (nI i))
def NA (s : rx_S) (τ : tx_T) (n : Nat) : Prop := ∀ k, k < n → rI s 1 35 k = aimI τ k ∧ rI s 1 36 k = atI τ k ∧ rI s 1 37 k = offI τ k
theorem MR_I {s : rx_S} {τ : tx_T} (h : MR s τ) {k j : Nat} {v : Int32} (hk : 33 ≤ k) : MR (sI s 1 k j v) τ := by
  have e : ∀ f i, f < 33 → rI (sI s 1 k j v) 1 f i = rI s 1 f i := fun f i hf => w3_n _ _ (by omega)
  refine ⟨h.1, h.2.1, fun i hi => ?_, ?_, fun i hi => ?_, fun i hi => ?_, fun i hi => ?_, h.2.2.2.2.2.2.2⟩
  · rw [e 3 i (by omega), e 4 i (by omega), e 5 i (by omega), e 6 i (by omega), e 8 i (by omega), e 9 i (by omega), e 10 i (by omega)]; exact h.2.2.1 i hi
  · obtain ⟨fr, fl, g1, g2, g3, g4⟩ := h.2.2.2.1
    refine ⟨fr, fl, g1, g2, fun i hi hk => ?_, g4⟩
    obtain ⟨a1, a2, a3⟩ := g3 i hi hk
    refine ⟨by rw [e 7 i (by omega)]; exact a1, a2, fun j hj => by rw [e 11 _ (by omega)]; exact a3 j hj⟩
  · rw [e 15 i (by omega), e 16 i (by omega), e 17 i (by omega), e 18 i (by omega), e 19 i (by omega)]; exact h.2.2.2.2.1 i hi
  · rw [e 21 i (by omega), e 22 i (by omega), e 23 i (by omega), e 24 i (by omega), e 25 i (by omega)]; exact h.2.2.2.2.2.1 i hi
  · rw [e 27 i (by omega)]; exact h.2.2.2.2.2.2.1 i hi
theorem MR_L {s : rx_S} {τ : tx_T} (h : MR s τ) {k j : Nat} {v : Int64} (hk : 33 ≤ k) : MR (sL s 1 k j v) τ :=
  ⟨h.1, h.2.1, h.2.2.1, h.2.2.2.1, h.2.2.2.2.1, h.2.2.2.2.2.1, h.2.2.2.2.2.2.1, fun i hi => (w3_n _ _ (by omega)).trans (h.2.2.2.2.2.2.2 i hi)⟩
theorem MR_X {s : rx_S} {τ : tx_T} (h : MR s τ) {k : Nat} {v : Int32} (hk : k = 0 ∨ 29 ≤ k) (h2 : (rx_m k).2 = 0) : MR (sX s 0 0 k (.inl (.int v))) τ := by
  have e : ∀ f, f ≠ 0 → f < 29 → rX (sX s 0 0 k (.inl (.int v))) 0 0 f = rX s 0 0 f := fun f h0 hf => u3_n _ _ (by omega)
  refine ⟨rm_X h.1 h2, ?_, h.2.2.1, ?_, h.2.2.2.2⟩
  · rw [e 1 (by omega) (by omega), e 2 (by omega) (by omega), e 13 (by omega) (by omega), e 14 (by omega) (by omega), e 20 (by omega) (by omega), e 26 (by omega) (by omega)]; exact h.2.1
  · obtain ⟨fr, fl, g1, g2, g3, g4⟩ := h.2.2.2.1
    exact ⟨fr, fl, by rw [e 12 (by omega) (by omega)]; exact g1, g2, g3, g4⟩
