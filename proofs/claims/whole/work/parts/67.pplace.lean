/-! ===== Pure: places and veneers; a place is a number below 2 ^ 31 ===== -/
def upN (p a : Nat) : Nat := (p + 2 ^ a - 1) / 2 ^ a * 2 ^ a
theorem upN_le (p : Nat) {a : Nat} (ha : a ≤ 8) : upN p a ≤ p + 255 ∧ p ≤ upN p a := by
  unfold upN
  have h : a = 0 ∨ a = 1 ∨ a = 2 ∨ a = 3 ∨ a = 4 ∨ a = 5 ∨ a = 6 ∨ a = 7 ∨ a = 8 := by omega
  rcases h with rfl | rfl | rfl | rfl | rfl | rfl | rfl | rfl | rfl <;> simp only [Nat.reducePow] <;> omega
/-- a section has a place of its own -/
noncomputable def plB (τ : tx_T) (w : Bool) (x : Nat) : Bool := kin (kR τ) x && (inO τ w x).isNone
abbrev vS : Type := List (Nat × Nat) × (Nat → Option Nat)
def nvN (V : List (Nat × Nat)) (x : Nat) : Nat := V.countP (fun e => Nat.beq e.1 x)
/-- behind a section that begins at p -/
def endN (τ : tx_T) (V : List (Nat × Nat)) (x p : Nat) : Nat := if 0 < nvN V x then upN (p + cl (tT τ 5 x)) 2 + 8 * nvN V x else p + cl (tT τ 5 x)
noncomputable def rwN (τ : tx_T) (w : Bool) (V : List (Nat × Nat)) (k b n : Nat) : Nat := fo (fun p x => bif (tT τ 4 x == nI k) && plB τ w x then endN τ V x (upN p (cl (tT τ 6 x))) else p) b n
noncomputable def bgN (τ : tx_T) (w : Bool) (V : List (Nat × Nat)) : Nat → Nat
  | 0 => if 0 ≤ (tT τ 28 0).toInt then cl (tT τ 28 0) else 4096
  | k + 1 => if 0 ≤ (tT τ 28 (k + 1)).toInt then cl (tT τ 28 (k + 1)) else rwN τ w V k (bgN τ w V k) (tN τ 1)
noncomputable def enN (τ : tx_T) (w : Bool) (V : List (Nat × Nat)) (k : Nat) : Nat := rwN τ w V k (bgN τ w V k) (tN τ 1)
noncomputable def plN (τ : tx_T) (w : Bool) (V : List (Nat × Nat)) (x : Nat) : Nat := upN (rwN τ w V (cl (tT τ 4 x)) (bgN τ w V (cl (tT τ 4 x))) x) (cl (tT τ 6 x))
/-- the place of a section, or of that which it is folded into -/
noncomputable def poN (τ : tx_T) (w : Bool) (V : List (Nat × Nat)) (x : Nat) : Nat := plN τ w V ((inO τ w x).getD x)
/-- the edges of a set -/
noncomputable def loN (τ : tx_T) (w : Bool) (V : List (Nat × Nat)) (t : Int32) (n : Nat) : Option Nat := fo (fun o x => bif kin (kR τ) x && (tT τ 9 x == t) then (match o with
  | none => some (poN τ w V x)
  | some l => some (if poN τ w V x < l then poN τ w V x else l)) else o) none n
noncomputable def hiN (τ : tx_T) (w : Bool) (V : List (Nat × Nat)) (t : Int32) (n : Nat) : Nat := fo (fun h x => bif kin (kR τ) x && (tT τ 9 x == t) then (if h < poN τ w V x + cl (tT τ 5 x) then poN τ w V x + cl (tT τ 5 x) else h) else h) 0 n
noncomputable def vaN (τ : tx_T) (w : Bool) (V : List (Nat × Nat)) (y : Nat) : Nat := if aimI τ y = 0 then 0 else if aimI τ y = 1 then poN τ w V (cl (atI τ y)) + cl (offI τ y) else if aimI τ y = 3 then hiN τ w V (atI τ y) (tN τ 1) else (loN τ w V (atI τ y) (tN τ 1)).getD 0
noncomputable def vvI (τ : tx_T) (w : Bool) (V : List (Nat × Nat)) (k : Nat) : Int := (vaN τ w V (cl (tT τ 24 k)) : Int) + (tT τ 25 k).toInt
/-- a branch that reaches too far -/
noncomputable def farB (τ : tx_T) (w : Bool) (V : List (Nat × Nat)) (x k : Nat) : Bool := !decide (-32768 ≤ vvI τ w V k - plN τ w V x - (tT τ 22 k).toInt ∧ vvI τ w V k - plN τ w V x - (tT τ 22 k).toInt ≤ 32767)
def saB (τ : tx_T) (p q : Nat) : Bool := (aimI τ p == aimI τ q) && (atI τ p == atI τ q) && (offI τ p == offI τ q)
def vmB (τ : tx_T) (W : List (Nat × Nat)) (x k i : Nat) : Bool := match W[i]? with
  | none => false
  | some e => Nat.beq e.1 x && (tT τ 25 e.2 == tT τ 25 k) && saB τ (cl (tT τ 24 e.2)) (cl (tT τ 24 k))
def vneed (τ : tx_T) (S : vS) (x k : Nat) : vS := match fst1 (vmB τ S.1 x k) S.1.length with
  | some i => (S.1, fun j => if j = k then some i else S.2 j)
  | none => (S.1 ++ [(x, k)], fun j => if j = k then some S.1.length else S.2 j)
noncomputable def vstp (τ : tx_T) (w : Bool) (V : List (Nat × Nat)) (x : Nat) (S : vS) (k : Nat) : vS := bif (tT τ 21 k == nI x) && plB τ w x && (tT τ 23 k == 3) && (S.2 k).isNone && farB τ w V x k then vneed τ S x k else S
noncomputable def vsec (τ : tx_T) (w : Bool) (V : List (Nat × Nat)) (S : vS) (x : Nat) : vS := fo (vstp τ w V x) S (tN τ 3)
noncomputable def vrnd (τ : tx_T) (w : Bool) (S : vS) : vS := fo (vsec τ w S.1) S (tN τ 1)
noncomputable def vrun (τ : tx_T) (w : Bool) : Nat → vS → Nat → vS × Nat
  | 0, S, t => (S, t)
  | f + 1, S, t => if (vrnd τ w S).1.length = S.1.length then (vrnd τ w S, t + 1) else vrun τ w f (vrnd τ w S) (t + 1)
noncomputable def vR (τ : tx_T) (w : Bool) : vS × Nat := vrun τ w 201 ([], fun _ => none) 0
/-- veneers are of relocations, each of one -/
def vV (τ : tx_T) (S : vS) : Prop := (∀ i, (h : i < S.1.length) → (S.1[i]).1 < tN τ 1 ∧ (S.1[i]).2 < tN τ 3 ∧ tT τ 21 (S.1[i]).2 = nI (S.1[i]).1 ∧ S.2 (S.1[i]).2 = some i) ∧ (∀ k i, S.2 k = some i → i < S.1.length ∧ k < tN τ 3) ∧ S.1.length ≤ cnt (fun k => (S.2 k).isSome) (tN τ 3)
theorem vV_len {τ : tx_T} {S : vS} (h : vV τ S) : S.1.length ≤ tN τ 3 := Nat.le_trans h.2.2 (cnt_le _ _)
theorem vV_nil (τ : tx_T) : vV τ ([], fun _ => none) := ⟨fun i hi => absurd hi (Nat.not_lt_zero _), (fun k i h => by exact absurd h (by simp)), Nat.zero_le _⟩
theorem vV_need {τ : tx_T} {S : vS} (h : vV τ S) {x k : Nat} (hx : x < tN τ 1) (hk : k < tN τ 3) (hr : tT τ 21 k = nI x) (hn : S.2 k = none) : vV τ (vneed τ S x k) := by
  unfold vneed
  cases e : fst1 (vmB τ S.1 x k) S.1.length with
  | some j =>
    have hj := fst_lt e
    refine ⟨fun i hi => ?_, fun a i ha => ?_, ?_⟩
    · obtain ⟨h1, h2, h3, h4⟩ := h.1 i hi
      refine ⟨h1, h2, h3, ?_⟩
      show (if (S.1[i]).2 = k then some j else S.2 (S.1[i]).2) = some i
      rw [if_neg (fun e2 => by rw [e2, hn] at h4; cases h4)]; exact h4
    · have ha' : (if a = k then some j else S.2 a) = some i := ha
      by_cases e2 : a = k
      · rw [if_pos e2] at ha'
        cases ha'
        exact ⟨hj, by omega⟩
      · rw [if_neg e2] at ha'; exact h.2.1 a i ha'
    · show S.1.length ≤ cnt (fun a => (if a = k then some j else S.2 a).isSome) (tN τ 3)
      rw [cnt_add (f := fun a => (S.2 a).isSome) hk (by rw [hn]; rfl) (by simp) (fun a ha => by simp [ha])]
      exact Nat.le_succ_of_le h.2.2
  | none =>
    refine ⟨fun i hi => ?_, fun a i ha => ?_, ?_⟩
    · simp only [List.length_append, List.length_cons, List.length_nil] at hi
      by_cases e2 : i < S.1.length
      · rw [List.getElem_append_left e2]
        obtain ⟨h1, h2, h3, h4⟩ := h.1 i e2
        refine ⟨h1, h2, h3, ?_⟩
        show (if (S.1[i]).2 = k then some S.1.length else S.2 (S.1[i]).2) = some i
        rw [if_neg (fun e2 => by rw [e2, hn] at h4; cases h4)]; exact h4
      · obtain rfl : i = S.1.length := by omega
        simp only [List.getElem_concat_length]
        exact ⟨hx, hk, hr, by simp⟩
    · have ha' : (if a = k then some S.1.length else S.2 a) = some i := ha
      simp only [List.length_append, List.length_cons, List.length_nil]
      by_cases e2 : a = k
      · rw [if_pos e2] at ha'
        cases ha'
        exact ⟨by omega, by omega⟩
      · rw [if_neg e2] at ha'
        have := h.2.1 a i ha'
        exact ⟨by omega, this.2⟩
    · simp only [List.length_append, List.length_cons, List.length_nil]
      show S.1.length + 1 ≤ cnt (fun a => (if a = k then some S.1.length else S.2 a).isSome) (tN τ 3)
      rw [cnt_add (f := fun a => (S.2 a).isSome) hk (by rw [hn]; rfl) (by simp) (fun a ha => by simp [ha])]
      exact Nat.succ_le_succ h.2.2
theorem vV_stp {τ : tx_T} {w : Bool} {V : List (Nat × Nat)} {S : vS} (h : vV τ S) {x k : Nat} (hx : x < tN τ 1) (hk : k < tN τ 3) : vV τ (vstp τ w V x S k) := by
  unfold vstp
  cases e : (tT τ 21 k == nI x) && plB τ w x && (tT τ 23 k == 3) && (S.2 k).isNone && farB τ w V x k
  · exact h
  · simp only [Bool.and_eq_true, beq_iff_eq, Option.isNone_iff_eq_none] at e
    exact vV_need h hx hk e.1.1.1.1 e.1.2
theorem fo_ind {α : Type} {P : α → Prop} {f : α → Nat → α} {a : α} {n : Nat} (h : P a) (hf : ∀ a k, k < n → P a → P (f a k)) : P (fo f a n) := by
  induction n with
  | zero => exact h
  | succ n ih => exact hf _ n (by omega) (ih (fun a k hk => hf a k (by omega)))
theorem vV_sec {τ : tx_T} {w : Bool} {V : List (Nat × Nat)} {S : vS} (h : vV τ S) {x n : Nat} (hx : x < tN τ 1) (hn : n ≤ tN τ 3) : vV τ (fo (vstp τ w V x) S n) := fo_ind h (fun a k hk h => vV_stp h hx (by omega))
theorem vV_rnd {τ : tx_T} {w : Bool} {V : List (Nat × Nat)} {S : vS} (h : vV τ S) {n : Nat} (hn : n ≤ tN τ 1) : vV τ (fo (vsec τ w V) S n) := fo_ind h (fun a k hk h => vV_sec h (by omega) (Nat.le_refl _))
theorem vlen_need {τ : tx_T} {S : vS} {x k : Nat} : S.1.length ≤ (vneed τ S x k).1.length := by
  unfold vneed
  cases fst1 (vmB τ S.1 x k) S.1.length <;> simp
theorem vlen_stp {τ : tx_T} {w : Bool} {V : List (Nat × Nat)} {S : vS} {x k : Nat} : S.1.length ≤ (vstp τ w V x S k).1.length := by
  unfold vstp
  cases (tT τ 21 k == nI x) && plB τ w x && (tT τ 23 k == 3) && (S.2 k).isNone && farB τ w V x k
  · exact Nat.le_refl _
  · exact vlen_need
theorem nv_le {τ : tx_T} {S : vS} (h : vV τ S) (x : Nat) : nvN S.1 x ≤ tN τ 3 := Nat.le_trans List.countP_le_length (vV_len h)
theorem endN_le {τ : tx_T} (hV : TV τ) {V : List (Nat × Nat)} {x p : Nat} (hx : x < tN τ 1) (hv : nvN V x ≤ 200) : endN τ V x p ≤ p + 20000 + 3 + 1600 ∧ p ≤ endN τ V x p := by
  have h := (hV.2.1 x hx).2.2.1
  have := clI h.1
  have h2 : upN (p + cl (tT τ 5 x)) 2 ≤ p + cl (tT τ 5 x) + 3 ∧ p + cl (tT τ 5 x) ≤ upN (p + cl (tT τ 5 x)) 2 := by unfold upN; simp only [Nat.reducePow]; omega
  unfold endN
  split <;> omega
theorem rwN_le {τ : tx_T} (hV : TV τ) {w : Bool} {V : List (Nat × Nat)} (hv : ∀ x, nvN V x ≤ 200) (k b : Nat) {n : Nat} (hn : n ≤ tN τ 1) : rwN τ w V k b n ≤ b + 21858 * n ∧ b ≤ rwN τ w V k b n := by
  unfold rwN
  induction n with
  | zero => exact ⟨Nat.le_refl _, Nat.le_refl _⟩
  | succ n ih =>
    rw [fo]
    have h1 := ih (by omega)
    generalize fo _ b n = p at *
    cases (tT τ 4 n == nI k) && plB τ w n
    · simp only [cond_false]; omega
    · simp only [cond_true]
      have h3 := (hV.2.1 n (by omega)).2.2.2.1
      have := clI h3.1
      have h4 := upN_le p (a := cl (tT τ 6 n)) (by omega)
      have h5 := endN_le hV (V := V) (p := upN p (cl (tT τ 6 n))) (x := n) (by omega) (hv n)
      clear this h3 ih
      generalize upN p (cl (tT τ 6 n)) = u at *
      generalize endN τ V n u = e at *
      have h6 : 21858 * (n + 1) = 21858 * n + 21858 := Nat.mul_succ _ _
      rw [h6]
      generalize 21858 * n = m at *
      exact ⟨by omega, by omega⟩
theorem bgN_le {τ : tx_T} (hV : TV τ) {w : Bool} {V : List (Nat × Nat)} (hv : ∀ x, nvN V x ≤ 200) {k : Nat} (hk : k < 4) : bgN τ w V k ≤ 2000000000 + 1311480 * k := by
  have hV0 := hV.1
  induction k with
  | zero =>
    have h := (hV.2.2.2.2.2 0 (by omega)).2
    show (if 0 ≤ (tT τ 28 0).toInt then cl (tT τ 28 0) else 4096) ≤ 2000000000
    by_cases h2 : 0 ≤ (tT τ 28 0).toInt
    · rw [if_pos h2]
      have h3 := clI h2
      generalize cl (tT τ 28 0) = c at *
      omega
    · rw [if_neg h2]; exact Nat.le_of_ble_eq_true rfl
  | succ k ih =>
    have h := (hV.2.2.2.2.2 (k + 1) hk).2
    rw [bgN]
    by_cases h0 : 0 ≤ (tT τ 28 (k + 1)).toInt
    · rw [if_pos h0]
      have h3 := clI h0
      generalize cl (tT τ 28 (k + 1)) = c at *
      omega
    · rw [if_neg h0]
      have h1 := ih (by omega)
      have h2 := (rwN_le hV (w := w) hv k (bgN τ w V k) (Nat.le_refl (tN τ 1))).1
      omega
theorem enN_le {τ : tx_T} (hV : TV τ) {w : Bool} {V : List (Nat × Nat)} (hv : ∀ x, nvN V x ≤ 200) {k : Nat} (hk : k < 4) : enN τ w V k ≤ 2006000000 := by
  have hV0 := hV.1
  have h1 := bgN_le hV (w := w) hv hk
  have h2 := (rwN_le hV (w := w) hv k (bgN τ w V k) (Nat.le_refl (tN τ 1))).1
  unfold enN
  omega
theorem plN_le {τ : tx_T} (hV : TV τ) {w : Bool} {V : List (Nat × Nat)} (hv : ∀ x, nvN V x ≤ 200) {x : Nat} (hx : x < tN τ 1) : plN τ w V x ≤ 2006000255 := by
  have hV0 := hV.1
  have hk := (hV.2.1 x hx).2.1
  have := clI hk.1
  have h1 := bgN_le hV (w := w) hv (k := cl (tT τ 4 x)) (by omega)
  have h2 := (rwN_le hV (w := w) hv (cl (tT τ 4 x)) (bgN τ w V (cl (tT τ 4 x))) (n := x) (by omega)).1
  have h3 := (hV.2.1 x hx).2.2.2.1
  have := clI h3.1
  have h4 := upN_le (rwN τ w V (cl (tT τ 4 x)) (bgN τ w V (cl (tT τ 4 x))) x) (a := cl (tT τ 6 x)) (by omega)
  unfold plN
  omega
theorem inO_lt {τ : tx_T} {w : Bool} {x : Nat} (hx : x < tN τ 1) : (inO τ w x).getD x < tN τ 1 := by
  cases e : inO τ w x with
  | none => exact hx
  | some a => have := fst_lt e; simp only [Option.getD_some]; omega
theorem poN_le {τ : tx_T} (hV : TV τ) {w : Bool} {V : List (Nat × Nat)} (hv : ∀ x, nvN V x ≤ 200) {x : Nat} (hx : x < tN τ 1) : poN τ w V x ≤ 2006000255 := plN_le hV hv (inO_lt hx)
