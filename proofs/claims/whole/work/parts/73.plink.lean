/-! ===== Pure: faults ===== -/
def bd (p : Int32 × Int32) (c n : Int32) : Int32 × Int32 := if p.1 = 0 then (c, n) else p
def W2 (τ : tx_T) (n : Nat) : Int32 × Int32 := fo (fun p r => bif (defO τ (tT τ 27 r)).isNone then bd p 2 (nI r) else p) (0, -1) n
def f3B (τ : tx_T) (k : Nat) : Bool := kin (kR τ) (cl (tT τ 21 k)) && !(tT τ 19 (cl (tT τ 24 k)) == 2) && (aimI τ (cl (tT τ 24 k)) == 0)
def W3 (τ : tx_T) (n : Nat) : Int32 × Int32 := fo (fun p k => bif f3B τ k then bd p 3 (nI k) else p) (W2 τ (tN τ 4)) n
def f4B (τ : tx_T) (k : Nat) : Bool := kin (kR τ) (cl (tT τ 21 k)) && (aimI τ (cl (tT τ 24 k)) == 1) && lostB τ (cl (atI τ (cl (tT τ 24 k))))
def W4 (τ : tx_T) (n : Nat) : Int32 × Int32 := fo (fun p k => bif f4B τ k then bd p 4 (nI k) else p) (W3 τ (tN τ 3)) n
noncomputable def hpB (τ : tx_T) (w : Bool) (k : Nat) : Bool := an (fun x => (tT τ 4 x == nI k) && plB τ w x) (tN τ 1)
noncomputable def ovB (τ : tx_T) (w : Bool) (V : List (Nat × Nat)) (k j : Nat) : Bool := hpB τ w k && hpB τ w j && decide (bgN τ w V k < enN τ w V j) && decide (bgN τ w V j < enN τ w V k)
noncomputable def W5j (τ : tx_T) (w : Bool) (V : List (Nat × Nat)) (k : Nat) (p : Int32 × Int32) (n : Nat) : Int32 × Int32 := fo (fun p j => bif ovB τ w V k j then bd p 5 (nI k) else p) p n
noncomputable def W5 (τ : tx_T) (w : Bool) (V : List (Nat × Nat)) (n : Nat) : Int32 × Int32 := fo (fun p k => W5j τ w V k p k) (W4 τ (tN τ 3)) n
/-- what a relocation comes to; what is written -/
noncomputable def toI (τ : tx_T) (w : Bool) (S : vS) (k : Nat) : Int := match S.2 k with
  | none => vvI τ w S.1 k
  | some i => (vpN τ w S.1 (cl (tT τ 21 k)) i : Int)
noncomputable def wrI (τ : tx_T) (w : Bool) (S : vS) (k : Nat) : Int := if tT τ 23 k = 2 ∨ tT τ 23 k = 3 then toI τ w S k - (plN τ w S.1 (cl (tT τ 21 k)) + (tT τ 22 k).toInt) else toI τ w S k
def fitP (t : Int32) (v : Int) : Prop := if t = 0 then 0 ≤ v ∧ v ≤ 4294967295 else if t = 1 then 0 ≤ v ∧ v ≤ 65535 else if t = 2 then -2147483648 ≤ v ∧ v ≤ 2147483647 else if t = 3 then -32768 ≤ v ∧ v ≤ 32767 else -128 ≤ v ∧ v ≤ 255
noncomputable def fitB (τ : tx_T) (w : Bool) (S : vS) (k : Nat) : Bool := @decide (fitP (tT τ 23 k) (wrI τ w S k)) (Classical.propDecidable _)
theorem fitB_t {τ : tx_T} {w : Bool} {S : vS} {k : Nat} : fitB τ w S k = true ↔ fitP (tT τ 23 k) (wrI τ w S k) := by
  unfold fitB; exact @decide_eq_true_iff _ (Classical.propDecidable _)
noncomputable def f6B (τ : tx_T) (w : Bool) (S : vS) (k : Nat) : Bool := plB τ w (cl (tT τ 21 k)) && !fitB τ w S k
noncomputable def W6 (τ : tx_T) (w : Bool) (S : vS) (n : Nat) : Int32 × Int32 := fo (fun p k => bif f6B τ w S k then bd p 6 (nI k) else p) (W5 τ w S.1 4) n
/-- how a link ends -/
noncomputable def lkR (τ : tx_T) (w : Bool) : Int32 × Int32 := if (W4 τ (tN τ 3)).1 = 0 then W6 τ w (vR τ w).1 (tN τ 3) else W4 τ (tN τ 3)
/-- a fold that takes the first -/
theorem fo_bd {f : Nat → Bool} {c : Int32} (hc : ¬ c = 0) (p : Int32 × Int32) (n : Nat) : fo (fun p i => bif f i then bd p c (nI i) else p) p n = if p.1 = 0 then (match fst1 f n with
    | none => p
    | some i => (c, nI i)) else p := by
  induction n with
  | zero => simp [fo, fst1]
  | succ n ih =>
    rw [fo, ih]
    by_cases h : p.1 = 0
    · simp only [if_pos h]
      cases e : fst1 f n with
      | some j =>
        rw [fst1_s e]
        cases f n
        · rfl
        · simp [bd, hc]
      | none =>
        cases e2 : f n
        · rw [fst1_f e2, e]; rfl
        · rw [fst1_t e e2]; simp [bd, h]
    · simp only [if_neg h]
      cases f n
      · rfl
      · simp [bd, h]
/-- veneers of relocations: the section's own, of the same addend and aim -/
def vQ (τ : tx_T) (S : vS) : Prop := ∀ k i, S.2 k = some i → ∃ h : i < S.1.length, nI (S.1[i]).1 = tT τ 21 k ∧ tT τ 25 (S.1[i]).2 = tT τ 25 k ∧ saB τ (cl (tT τ 24 (S.1[i]).2)) (cl (tT τ 24 k)) = true
theorem saB_rf (τ : tx_T) (p : Nat) : saB τ p p = true := by unfold saB; simp
theorem vQ_need {τ : tx_T} {S : vS} (h : vQ τ S) {x k : Nat} (hr : tT τ 21 k = nI x) : vQ τ (vneed τ S x k) := by
  unfold vneed
  cases e : fst1 (vmB τ S.1 x k) S.1.length with
  | some j =>
    intro a i ha
    have ha' : (if a = k then some j else S.2 a) = some i := ha
    by_cases e2 : a = k
    · rw [if_pos e2] at ha'
      cases ha'
      subst e2
      have h1 := fst1_some.mp e
      have h2 := h1.2.1
      rw [vmB_eq h1.1] at h2
      simp only [Bool.and_eq_true, beq_iff_eq] at h2
      exact ⟨h1.1, by rw [Nat.eq_of_beq_eq_true h2.1.1, hr], h2.1.2, h2.2⟩
    · rw [if_neg e2] at ha'; exact h a i ha'
  | none =>
    intro a i ha
    have ha' : (if a = k then some S.1.length else S.2 a) = some i := ha
    by_cases e2 : a = k
    · rw [if_pos e2] at ha'
      cases ha'
      subst e2
      refine ⟨by simp, ?_⟩
      simp only [List.getElem_concat_length]
      exact ⟨hr.symm, trivial, saB_rf _ _⟩
    · rw [if_neg e2] at ha'
      obtain ⟨h1, h2, h3, h4⟩ := h a i ha'
      refine ⟨by simp only [List.length_append, List.length_cons, List.length_nil]; omega, ?_⟩
      simp only [List.getElem_append_left h1]
      exact ⟨h2, h3, h4⟩
theorem vQ_stp {τ : tx_T} {w : Bool} {V : List (Nat × Nat)} {S : vS} (h : vQ τ S) {x k : Nat} : vQ τ (vstp τ w V x S k) := by
  unfold vstp
  cases e : (tT τ 21 k == nI x) && plB τ w x && (tT τ 23 k == 3) && (S.2 k).isNone && farB τ w V x k
  · exact h
  · simp only [Bool.and_eq_true, beq_iff_eq] at e
    exact vQ_need h e.1.1.1.1
theorem vQ_rnd {τ : tx_T} {w : Bool} {S : vS} (h : vQ τ S) : vQ τ (vrnd τ w S) := fo_ind h (fun a k _ h => fo_ind h (fun a k _ h => vQ_stp h))
theorem vQ_run {τ : tx_T} {w : Bool} : ∀ (f : Nat) (S : vS) (t : Nat), vQ τ S → vQ τ (vrun τ w f S t).1 := by
  intro f
  induction f with
  | zero => intro S t h; exact h
  | succ f ih =>
    intro S t h
    rw [vrun]
    split
    · exact vQ_rnd h
    · exact ih _ _ (vQ_rnd h)
theorem vQ_R (τ : tx_T) (w : Bool) : vQ τ (vR τ w).1 := vQ_run 201 _ 0 (fun k i h => by exact absurd h (by simp))
/-- only branches have veneers, of sections with places -/
def vT (τ : tx_T) (w : Bool) (S : vS) : Prop := ∀ k i, S.2 k = some i → tT τ 23 k = 3 ∧ plB τ w (cl (tT τ 21 k)) = true
