/-! ===== The class: what lies below, its static fields, what it holds of what was told ===== -/
def WE (b0 : Nat) (O : Nat → Option mx_C) (E : Nat → Nat) : Prop := (E 6 < b0 ∧ ∃ c6 : vp_A, O (E 6) = some (.inl (4, 0, c6.2))) ∧ (E 5 < b0 ∧ ∃ g : Nat → Option Nat, O (E 5) = some (.inl (98, 5, mx_aq g)) ∧ ∀ k, k < 5 → g k = some (E k)) ∧ (∀ i j, i < 5 → j < 5 → E i = E j → i = j)
theorem blt_t {a b : Nat} (h : a < b) : Nat.blt a b = true := Nat.ble_eq_true_of_le h
theorem blt_l {a b : Nat} (h : Nat.blt a b = true) : a < b := Nat.le_of_ble_eq_true h
def cst : Nat → Nat → Option (Nat × Nat)
  | 2, 0 => some (3, 0)
  | 2, 1 => some (4, 0)
  | 2, 2 => some (5, 0)
  | 2, 3 => some (6, 0)
  | 2, 4 => some (7, 0)
  | 3, 0 => some (8, 0)
  | 3, 1 => some (8, 1)
  | 3, 2 => some (8, 2)
  | 3, 3 => some (10, 0)
  | 3, 4 => some (10, 1)
  | 4, 0 => some (10, 2)
  | 4, 1 => some (10, 3)
  | 5, 0 => some (8, 3)
  | 7, 0 => some (10, 4)
  | 7, 1 => some (10, 5)
  | 7, 2 => some (10, 6)
  | 7, 3 => some (10, 7)
  | 7, 4 => some (10, 8)
  | _, _ => none
def rlG (τ : tx_T) (x j : Nat) : Nat := (rlO τ x j).getD 0
/-- fields of a section, of a symbol, of a relocation, as told -/
def sfk (f : Nat) : Bool := Nat.blt f 11 && !Nat.beq f 5 && !Nat.beq f 7
def sfv (τ : tx_T) (i : Nat) : Nat → rx_V
  | 0 => .inl (.int (nI i))
  | 1 => .inl (.int (tT τ 3 i))
  | 2 => .inl (.int (tT τ 4 i))
  | 3 => .inl (.int (tT τ 5 i))
  | 4 => .inl (.int (tT τ 6 i))
  | 6 => .inr (21, i)
  | 8 => .inl (.int (tT τ 8 i))
  | 9 => .inl (.int (tT τ 9 i))
  | _ => .inl (.int (tT τ 10 i))
/-- a section, or none -/
def oV : Option Nat → rx_V
  | none => .inl .null
  | some j => .inr (20, j)
def hmO (x : Int32) : Option Nat := if 0 ≤ x.toInt then some (cl x) else none
def stI (x : Int32) : Int32 := if x.toInt ≤ -10 then -1 else if x.toInt ≤ -2 then -2 - x else -1
def spI (x : Int32) : Int32 := if x.toInt ≤ -10 then -10 - x else -1
def yfv (τ : tx_T) (k : Nat) : Nat → rx_V
  | 0 => .inl (.int (tT τ 15 k))
  | 1 => .inl (.int (tT τ 16 k))
  | 2 => oV (hmO (tT τ 17 k))
  | 3 => .inl (.int (tT τ 18 k))
  | 4 => .inl (.int (tT τ 19 k))
  | 5 => .inl (.int (stI (tT τ 17 k)))
  | _ => .inl (.int (spI (tT τ 17 k)))
def rfv (E : Nat → Nat) (τ : tx_T) (k : Nat) : Nat → rx_V
  | 0 => .inr (20, cl (tT τ 21 k))
  | 1 => .inl (.int (tT τ 22 k))
  | 2 => .inl (.ref (E (cl (tT τ 23 k))))
  | 3 => .inr (24, cl (tT τ 24 k))
  | _ => .inl (.int (tT τ 25 k))
/-- each list has an array of its own -/
def OWN (s : rx_S) : Prop := ∀ r i r' i' a, (r = 8 ∨ r = 21 ∨ r = 22) → (r' = 8 ∨ r' = 21 ∨ r' = 22) → rU s r i = true → rU s r' i' = true → rX s r i 1 = .inr (9, a) → rX s r' i' 1 = .inr (9, a) → r = r' ∧ i = i'
/-- a section's bytes: its seed, and the n patches of its list, at places a p, each at another -/
def BP (E : Nat → Nat) (s : rx_S) (τ : tx_T) (i : Nat) (sd : Int32) (n : Nat) (a : Nat → Nat) : Prop := rX s 20 i 5 = .inl (.int sd) ∧ rX s 20 i 7 = .inr (22, i) ∧ rU s 22 i = true ∧ rLS (E 6) s 22 i n (fun p => (23, 64 * p + i)) ∧
  (∀ p, p < n → rU s 23 (64 * p + i) = true ∧ a p < cl (tT τ 5 i) ∧ rX s 23 (64 * p + i) 0 = .inl (.int (nI (a p))) ∧ rX s 23 (64 * p + i) 1 = .inl (.int (tY τ i (a p)))) ∧
  (∀ p, n ≤ p → rU s 23 (64 * p + i) = false) ∧ (∀ p p', p < n → p' < n → a p = a p' → p = p') ∧
  ∀ j, j < cl (tT τ 5 i) → (∀ p, p < n → a p ≠ j) → tY τ i j = (sd + nI j) &&& 255
def BY (E : Nat → Nat) (s : rx_S) (τ : tx_T) (i : Nat) : Prop := ∃ (sd : Int32) (n : Nat) (a : Nat → Nat), BP E s τ i sd n a
theorem rLS_n {E6 : Nat} {s : rx_S} {r i n : Nat} {f : Nat → Nat × Nat} (h : rLS E6 s r i n f) : n ≤ 1000 := by
  rcases h.2.2.2 with ⟨h, _⟩ | ⟨a, _, _, h1, _, h2, _⟩ <;> omega
theorem BY_u {E : Nat → Nat} {s : rx_S} {τ : tx_T} {i : Nat} (h : BY E s τ i) : rU s 22 i = true := by
  obtain ⟨sd, n, a, b1, b2, b3, b4⟩ := h
  exact b3
theorem BY_fr {E : Nat → Nat} {s s' : rx_S} {τ τ' : tx_T} {i : Nat} (h : BY E s τ i) (h5 : rX s' 20 i 5 = rX s 20 i 5) (h7 : rX s' 20 i 7 = rX s 20 i 7) (hu : rU s' 22 i = rU s 22 i) (hU : ∀ p, rU s' 23 (64 * p + i) = rU s 23 (64 * p + i)) (hX : ∀ p f, rX s' 23 (64 * p + i) f = rX s 23 (64 * p + i) f) (hl : ∀ n f, rLS (E 6) s 22 i n f → rLS (E 6) s' 22 i n f) (ht : tT τ' 5 i = tT τ 5 i) (hy : ∀ j, tY τ' i j = tY τ i j) : BY E s' τ' i := by
  obtain ⟨sd, n, a, b1, b2, b3, b4, b5, b6, b7, b8⟩ := h
  refine ⟨sd, n, a, h5.trans b1, h7.trans b2, hu.trans b3, hl _ _ b4, fun p hp => ?_, fun p hp => (hU p).trans (b6 p hp), b7, fun j hj hn => ?_⟩
  · obtain ⟨c1, c2, c3, c4⟩ := b5 p hp
    exact ⟨(hU p).trans c1, by rw [ht]; exact c2, (hX p 0).trans c3, (hX p 1).trans (by rw [hy]; exact c4)⟩
  · rw [ht] at hj
    rw [hy]; exact b8 j hj hn
def CT (E : Nat → Nat) (s : rx_S) (τ : tx_T) : Prop :=
  (∀ r f q, cst r f = some q → rX s r 0 f = .inr q) ∧
  (rX s 3 0 5 = .inl (.int (nI (tN τ 0))) ∧ rX s 3 0 6 = .inl (.int (nI (tN τ 4))) ∧ rX s 3 0 7 = .inl (.int (nI (tN τ 5)))) ∧
  (rLS (E 6) s 8 0 (tN τ 1) (fun j => (20, j)) ∧ rLS (E 6) s 8 1 (tN τ 2) (fun j => (24, j)) ∧ rLS (E 6) s 8 2 (tN τ 3) (fun j => (25, j)) ∧ ∀ i, i < tN τ 1 → rLS (E 6) s 21 i (rlN τ i) (fun j => (25, rlG τ i j))) ∧
  OWN s ∧
  (∀ i, i < tN τ 1 → rU s 20 i = true ∧ rU s 21 i = true ∧ (∀ f, sfk f = true → rX s 20 i f = sfv τ i f) ∧ BY E s τ i) ∧
  (∀ k, k < tN τ 2 → rU s 24 k = true ∧ ∀ f, f < 7 → rX s 24 k f = yfv τ k f) ∧
  (∀ k, k < tN τ 3 → rU s 25 k = true ∧ ∀ f, f < 5 → rX s 25 k f = rfv E τ k f) ∧
  (∀ k, k < tN τ 4 → rI s 10 0 k = tT τ 27 k) ∧ (∀ k, k < 4 → rI s 10 1 k = tT τ 28 k) ∧
  (∀ i, tN τ 1 ≤ i → rU s 20 i = false ∧ rU s 21 i = false ∧ rU s 22 i = false ∧ ∀ p, i < 64 → rU s 23 (64 * p + i) = false) ∧ (∀ k, tN τ 2 ≤ k → rU s 24 k = false) ∧ (∀ k, tN τ 3 ≤ k → rU s 25 k = false) ∧
  ∃ n f, n ≤ 60 ∧ rLS (E 6) s 8 3 n f
theorem cT_s {E : Nat → Nat} {s : rx_S} {τ : tx_T} (h : CT E s τ) (r f : Nat) {q : Nat × Nat} (e : cst r f = some q) : rX s r 0 f = .inr q := h.1 r f q e
theorem cT_S {E : Nat → Nat} {s : rx_S} {τ : tx_T} (h : CT E s τ) {i : Nat} (hi : i < tN τ 1) (f : Nat) (e : sfk f = true) : rX s 20 i f = sfv τ i f := (h.2.2.2.2.1 i hi).2.2.1 f e
theorem cT_B {E : Nat → Nat} {s : rx_S} {τ : tx_T} (h : CT E s τ) {i : Nat} (hi : i < tN τ 1) : BY E s τ i := (h.2.2.2.2.1 i hi).2.2.2
theorem cT_Su {E : Nat → Nat} {s : rx_S} {τ : tx_T} (h : CT E s τ) {i : Nat} (hi : i < tN τ 1) : rU s 20 i = true := (h.2.2.2.2.1 i hi).1
theorem cT_Lu {E : Nat → Nat} {s : rx_S} {τ : tx_T} (h : CT E s τ) {i : Nat} (hi : i < tN τ 1) : rU s 21 i = true := (h.2.2.2.2.1 i hi).2.1
theorem cT_Y {E : Nat → Nat} {s : rx_S} {τ : tx_T} (h : CT E s τ) {k : Nat} (hk : k < tN τ 2) (f : Nat) (e : f < 7) : rX s 24 k f = yfv τ k f := (h.2.2.2.2.2.1 k hk).2 f e
theorem cT_Yu {E : Nat → Nat} {s : rx_S} {τ : tx_T} (h : CT E s τ) {k : Nat} (hk : k < tN τ 2) : rU s 24 k = true := (h.2.2.2.2.2.1 k hk).1
theorem cT_R {E : Nat → Nat} {s : rx_S} {τ : tx_T} (h : CT E s τ) {k : Nat} (hk : k < tN τ 3) (f : Nat) (e : f < 5) : rX s 25 k f = rfv E τ k f := (h.2.2.2.2.2.2.1 k hk).2 f e
theorem cT_Ru {E : Nat → Nat} {s : rx_S} {τ : tx_T} (h : CT E s τ) {k : Nat} (hk : k < tN τ 3) : rU s 25 k = true := (h.2.2.2.2.2.2.1 k hk).1
theorem cT_l0 {E : Nat → Nat} {s : rx_S} {τ : tx_T} (h : CT E s τ) : rLS (E 6) s 8 0 (tN τ 1) (fun j => (20, j)) := h.2.2.1.1
theorem cT_l1 {E : Nat → Nat} {s : rx_S} {τ : tx_T} (h : CT E s τ) : rLS (E 6) s 8 1 (tN τ 2) (fun j => (24, j)) := h.2.2.1.2.1
theorem cT_l2 {E : Nat → Nat} {s : rx_S} {τ : tx_T} (h : CT E s τ) : rLS (E 6) s 8 2 (tN τ 3) (fun j => (25, j)) := h.2.2.1.2.2.1
theorem cT_l {E : Nat → Nat} {s : rx_S} {τ : tx_T} (h : CT E s τ) {i : Nat} (hi : i < tN τ 1) : rLS (E 6) s 21 i (rlN τ i) (fun j => (25, rlG τ i j)) := h.2.2.1.2.2.2 i hi
theorem rlG_lt {τ : tx_T} {x j : Nat} (h : j < rlN τ x) : rlO τ x j = some (rlG τ x j) ∧ rlG τ x j < tN τ 3 ∧ tT τ 21 (rlG τ x j) = nI x := by
  obtain ⟨k, hk, h1, h2, h3⟩ := rlO_ex h
  have e : rlG τ x j = k := by unfold rlG; rw [hk]; rfl
  rw [e]
  unfold rlB at h2
  exact ⟨hk, h1, by simpa using h2⟩
/-- what a link never touches -/
def tfk (r f i : Nat) : Bool := Nat.beq r 0 || (Nat.beq r 3 || (Nat.beq r 4 || (Nat.beq r 5 || (Nat.beq r 21 || (Nat.beq r 22 || (Nat.beq r 23 || ((Nat.beq r 2 && Nat.blt f 5) || ((Nat.beq r 7 && Nat.blt f 5) || ((Nat.beq r 8 && Nat.blt i 3) || ((Nat.beq r 20 && Nat.blt f 11) || ((Nat.beq r 24 && Nat.blt f 7) || (Nat.beq r 25 && Nat.blt f 5))))))))))))
def tfr (s s' : rx_S) : Prop := rA s' = rA s ∧ (∀ r i, rU s r i = true → rU s' r i = true) ∧ (∀ r i, r ≠ 9 → rU s' r i = rU s r i) ∧ (∀ r f i, tfk r f i = true → rX s' r i f = rX s r i f) ∧ (∀ r i, (r = 1 ∨ r = 23 ∨ (r = 10 ∧ i < 2)) → rI s' r i = rI s r i) ∧ (∀ r i, r ≠ 10 → rL s' r i = rL s r i) ∧ (∀ i, rY s' 23 i = rY s 23 i) ∧ (∀ r i a, (r = 8 ∧ i < 3 ∨ r = 21 ∨ r = 22) → rU s r i = true → rX s r i 1 = .inr (9, a) → rQ s' 9 a = rQ s 9 a ∧ rY s' 9 a = rY s 9 a)
theorem tfr.rf (s : rx_S) : tfr s s := ⟨rfl, fun _ _ h => h, fun _ _ _ => rfl, fun _ _ _ _ => rfl, fun _ _ _ => rfl, fun _ _ _ => rfl, fun _ => rfl, fun _ _ _ _ _ _ => ⟨rfl, rfl⟩⟩
theorem tfr.tr {s s' s'' : rx_S} (h : tfr s s') (h' : tfr s' s'') : tfr s s'' := by
  obtain ⟨a1, a2, a3, a4, a5, a6, a7, a8⟩ := h
  obtain ⟨b1, b2, b3, b4, b5, b6, b7, b8⟩ := h'
  refine ⟨b1.trans a1, fun r i e => b2 r i (a2 r i e), fun r i e => (b3 r i e).trans (a3 r i e), fun r f i e => (b4 r f i e).trans (a4 r f i e), fun r i e => (b5 r i e).trans (a5 r i e), fun r i e => (b6 r i e).trans (a6 r i e), fun i => (b7 i).trans (a7 i), fun r i a e u x => ?_⟩
  have x' : rX s' r i 1 = .inr (9, a) := by
    rw [a4 r 1 i]
    · exact x
    · rcases e with ⟨rfl, e⟩ | rfl | rfl
      · have : Nat.blt i 3 = true := blt_t e
        simp [tfk, this]
      · rfl
      · rfl
  have q1 := b8 r i a e (a2 r i u) x'
  have q2 := a8 r i a e u x
  exact ⟨q1.1.trans q2.1, q1.2.trans q2.2⟩
theorem rLS_tfr {E6 : Nat} {s s' : rx_S} {r i n : Nat} {f : Nat → Nat × Nat} (h : rLS E6 s r i n f) (hf : tfr s s') (e : r = 8 ∧ i < 3 ∨ r = 21 ∨ r = 22) (hu : rU s r i = true) : rLS E6 s' r i n f := by
  obtain ⟨a1, a2, a3, a4, a5, a6, a7, a8⟩ := hf
  have ek : ∀ g, tfk r g i = true := by
    intro g
    rcases e with ⟨rfl, e⟩ | rfl | rfl
    · have : Nat.blt i 3 = true := blt_t e
      simp [tfk, this]
    · rfl
    · rfl
  obtain ⟨⟨mc, h0⟩, h2, h3, h4⟩ := h
  refine ⟨⟨mc, (a4 r 0 i (ek 0)).trans h0⟩, (a4 r 2 i (ek 2)).trans h2, h3, ?_⟩
  rcases h4 with ⟨g1, g2⟩ | ⟨a, g1, g2, g3, g4, g5, g6, g7⟩
  · exact Or.inl ⟨g1, (a4 r 1 i (ek 1)).trans g2⟩
  · obtain ⟨q1, q2⟩ := a8 r i a e hu g1
    refine Or.inr ⟨a, (a4 r 1 i (ek 1)).trans g1, a2 9 a g2, ?_, ?_, ?_, ?_, ?_⟩
    · rw [q2]; exact g3
    · rw [q2]; exact g4
    · rw [q2]; exact g5
    · rw [q1]; exact g6
    · rw [q1]; exact g7
theorem CT_tfr {E : Nat → Nat} {s s' : rx_S} {τ : tx_T} (h : CT E s τ) (hS : rx_in s) (hf : tfr s s') (ho : OWN s') (hr : ∃ n f, n ≤ 60 ∧ rLS (E 6) s' 8 3 n f) : CT E s' τ := by
  obtain ⟨h1, ⟨h2a, h2b, h2c⟩, ⟨h3a, h3b, h3c, h3d⟩, h4, h5, h6, h7, h8, h9, h10, h11, h12, h13⟩ := h
  have hf' := hf
  obtain ⟨a1, a2, a3, a4, a5, a6, a7, a8⟩ := hf
  have ec : ∀ r f q, cst r f = some q → tfk r f 0 = true := by
    intro r f q hq
    unfold cst at hq
    split at hq <;> first | rfl | cases hq
  refine ⟨fun r f q e => (a4 r f 0 (ec r f q e)).trans (h1 r f q e), ⟨(a4 3 5 0 rfl).trans h2a, (a4 3 6 0 rfl).trans h2b, (a4 3 7 0 rfl).trans h2c⟩, ⟨rLS_tfr h3a hf' (Or.inl ⟨rfl, by omega⟩) (hS _ _ rfl), rLS_tfr h3b hf' (Or.inl ⟨rfl, by omega⟩) (hS _ _ rfl), rLS_tfr h3c hf' (Or.inl ⟨rfl, by omega⟩) (hS _ _ rfl), fun i hi => rLS_tfr (h3d i hi) hf' (Or.inr (Or.inl rfl)) (h5 i hi).2.1⟩, ho, fun i hi => ?_, fun k hk => ?_, fun k hk => ?_, fun k hk => ?_, fun k hk => ?_, fun i hi => ?_, fun k hk => ?_, fun k hk => ?_, hr⟩
  · obtain ⟨g1, g2, g3, g4⟩ := h5 i hi
    refine ⟨a2 _ _ g1, a2 _ _ g2, fun f e => ?_, ?_⟩
    · have : tfk 20 f i = true := by
        unfold sfk at e
        simp only [Bool.and_eq_true] at e
        show (Nat.blt f 11 || _) = true
        rw [e.1.1]; rfl
      exact (a4 20 f i this).trans (g3 f e)
    · have u22 := BY_u g4
      exact BY_fr g4 (a4 20 5 i rfl) (a4 20 7 i rfl) (a3 22 i (by omega)) (fun p => a3 23 _ (by omega)) (fun p f => a4 23 f _ rfl) (fun n f hl => rLS_tfr hl hf' (Or.inr (Or.inr rfl)) u22) rfl (fun _ => rfl)
  · refine ⟨a2 _ _ (h6 k hk).1, fun f e => ?_⟩
    have : tfk 24 f k = true := by
      show (Nat.blt f 7 || _) = true
      rw [show Nat.blt f 7 = true from blt_t e]; rfl
    exact (a4 24 f k this).trans ((h6 k hk).2 f e)
  · refine ⟨a2 _ _ (h7 k hk).1, fun f e => ?_⟩
    have : tfk 25 f k = true := by
      show (Nat.blt f 5) = true
      exact blt_t e
    exact (a4 25 f k this).trans ((h7 k hk).2 f e)
  · rw [a5 10 0 (Or.inr (Or.inr ⟨rfl, by omega⟩))]; exact h8 k hk
  · rw [a5 10 1 (Or.inr (Or.inr ⟨rfl, by omega⟩))]; exact h9 k hk
  · obtain ⟨g1, g2, g3, g4⟩ := h10 i hi
    exact ⟨(a3 _ _ (by omega)).trans g1, (a3 _ _ (by omega)).trans g2, (a3 _ _ (by omega)).trans g3, fun p hp => (a3 _ _ (by omega)).trans (g4 p hp)⟩
  · exact (a3 _ _ (by omega)).trans (h11 k hk)
  · exact (a3 _ _ (by omega)).trans (h12 k hk)
/-! ===== A link's part: which fields it may write. w r f for fields, w 100 i for the garden's arrays ===== -/
def cf (w : Nat → Nat → Bool) (s s' : rx_S) : Prop := rA s' = rA s ∧ tfr s s' ∧ (∀ r f i, w r f = false → rX s' r i f = rX s r i f) ∧ (∀ i, w 100 i = false → rI s' 10 i = rI s 10 i ∧ rL s' 10 i = rL s 10 i ∧ rQ s' 10 i = rQ s 10 i) ∧ (∀ r, r ≠ 9 → r ≠ 10 → rQ s' r = rQ s r) ∧ rY s' = rY s ∧ rU s' = rU s ∧ rQ s' 9 = rQ s 9
theorem cf.rf (w : Nat → Nat → Bool) (s : rx_S) : cf w s s := ⟨rfl, tfr.rf s, fun _ _ _ _ => rfl, fun _ _ => ⟨rfl, rfl, rfl⟩, fun _ _ _ => rfl, rfl, rfl, rfl⟩
theorem cf.tr {w : Nat → Nat → Bool} {s s' s'' : rx_S} (h : cf w s s') (h' : cf w s' s'') : cf w s s'' := ⟨h'.1.trans h.1, h.2.1.tr h'.2.1, fun r f i e => (h'.2.2.1 r f i e).trans (h.2.2.1 r f i e), fun i e => ⟨(h'.2.2.2.1 i e).1.trans (h.2.2.2.1 i e).1, (h'.2.2.2.1 i e).2.1.trans (h.2.2.2.1 i e).2.1, (h'.2.2.2.1 i e).2.2.trans (h.2.2.2.1 i e).2.2⟩, fun r e1 e2 => (h'.2.2.2.2.1 r e1 e2).trans (h.2.2.2.2.1 r e1 e2), h'.2.2.2.2.2.1.trans h.2.2.2.2.2.1, h'.2.2.2.2.2.2.1.trans h.2.2.2.2.2.2.1, h'.2.2.2.2.2.2.2.trans h.2.2.2.2.2.2.2⟩
theorem cf.w {w w' : Nat → Nat → Bool} {s s' : rx_S} (h : cf w s s') (hw : ∀ r f, w' r f = false → w r f = false) : cf w' s s' := ⟨h.1, h.2.1, fun r f i e => h.2.2.1 r f i (hw _ _ e), fun i e => h.2.2.2.1 i (hw _ _ e), h.2.2.2.2⟩
theorem cf.inn {w : Nat → Nat → Bool} {s s' : rx_S} (h : cf w s s') (hS : rx_in s) : rx_in s' := fun r i e => by rw [h.2.2.2.2.2.2.1]; exact hS r i e
theorem tfr.X {s s' : rx_S} (h : tfr s s') {r i f : Nat} {v : rx_V} (ht : tfk r f i = false) : tfr s (sX s' r i f v) := by
  obtain ⟨a1, a2, a3, a4, a5, a6, a7, a8⟩ := h
  refine ⟨a1, a2, a3, fun r' f' i' e => (u3_n _ _ (fun q => ?_)).trans (a4 r' f' i' e), a5, a6, a7, a8⟩
  rw [q.1, q.2.1, q.2.2, ht] at e; cases e
theorem cf.X {w : Nat → Nat → Bool} {s s' : rx_S} (h : cf w s s') {r i f : Nat} {v : rx_V} (hw : w r f = true := by rfl) (ht : tfk r f i = false := by rfl) : cf w s (sX s' r i f v) := ⟨h.1, h.2.1.X ht, fun r' f' i' e => (u3_n _ _ (fun q => by rw [q.1, q.2.2, hw] at e; cases e)).trans (h.2.2.1 r' f' i' e), h.2.2.2⟩
theorem tfr.I {s s' : rx_S} (h : tfr s s') {i f : Nat} {v : Int32} (hi : 2 ≤ i) : tfr s (sI s' 10 i f v) := by
  obtain ⟨a1, a2, a3, a4, a5, a6, a7, a8⟩ := h
  refine ⟨a1, a2, a3, a4, fun r' i' e => ?_, a6, a7, a8⟩
  rw [← a5 r' i' e]
  funext k
  exact sI_p (by omega)
theorem cf.I {w : Nat → Nat → Bool} {s s' : rx_S} (h : cf w s s') {i f : Nat} {v : Int32} (hw : w 100 i = true := by rfl) (hi : 2 ≤ i := by omega) : cf w s (sI s' 10 i f v) := ⟨h.1, h.2.1.I hi, h.2.2.1, fun i' e => ⟨by
  rw [← (h.2.2.2.1 i' e).1]
  funext k
  exact w3_n _ _ (fun q => by rw [q.2.1, hw] at e; cases e), (h.2.2.2.1 i' e).2⟩, h.2.2.2.2⟩
theorem tfr.L {s s' : rx_S} (h : tfr s s') {i f : Nat} {v : Int64} : tfr s (sL s' 10 i f v) := by
  obtain ⟨a1, a2, a3, a4, a5, a6, a7, a8⟩ := h
  refine ⟨a1, a2, a3, a4, a5, fun r' i' e => ?_, a7, a8⟩
  rw [← a6 r' i' e]
  funext k
  exact sL_p (by omega)
theorem cf.L {w : Nat → Nat → Bool} {s s' : rx_S} (h : cf w s s') {i f : Nat} {v : Int64} (hw : w 100 i = true := by rfl) : cf w s (sL s' 10 i f v) := ⟨h.1, h.2.1.L, h.2.2.1, fun i' e => ⟨(h.2.2.2.1 i' e).1, by
  rw [← (h.2.2.2.1 i' e).2.1]
  funext k
  exact w3_n _ _ (fun q => by rw [q.2.1, hw] at e; cases e), (h.2.2.2.1 i' e).2.2⟩, h.2.2.2.2⟩
theorem tfr.Q {s s' : rx_S} (h : tfr s s') {i f : Nat} {v : Option (Nat × Nat)} : tfr s (sQ s' 10 i f v) := by
  obtain ⟨a1, a2, a3, a4, a5, a6, a7, a8⟩ := h
  refine ⟨a1, a2, a3, a4, a5, a6, a7, fun r i' a e u x => ⟨?_, (a8 r i' a e u x).2⟩⟩
  rw [← (a8 r i' a e u x).1]
  funext k
  exact sQ_p (by omega)
theorem cf.Q {w : Nat → Nat → Bool} {s s' : rx_S} (h : cf w s s') {i f : Nat} {v : Option (Nat × Nat)} (hw : w 100 i = true := by rfl) : cf w s (sQ s' 10 i f v) := by
  refine ⟨h.1, h.2.1.Q, h.2.2.1, fun i' e => ⟨(h.2.2.2.1 i' e).1, (h.2.2.2.1 i' e).2.1, ?_⟩, fun r e1 e2 => ?_, h.2.2.2.2.2.1, h.2.2.2.2.2.2.1, ?_⟩
  · rw [← (h.2.2.2.1 i' e).2.2]
    funext k
    exact w3_n _ _ (fun q => by rw [q.2.1, hw] at e; cases e)
  · rw [← h.2.2.2.2.1 r e1 e2]
    funext a k
    exact sQ_p (by omega)
  · rw [← h.2.2.2.2.2.2.2]
    funext a k
    exact sQ_p (by omega)
theorem OWN_cf {w : Nat → Nat → Bool} {s s' : rx_S} (h : OWN s) (hf : cf w s s') (hw : w 8 1 = false := by rfl) : OWN s' := by
  intro r i r' i' a e e' u u' x x'
  rw [hf.2.2.2.2.2.2.1] at u u'
  have q : ∀ r i, (r = 8 ∨ r = 21 ∨ r = 22) → rX s' r i 1 = rX s r i 1 := by
    intro r i e
    rcases e with rfl | rfl | rfl
    · exact hf.2.2.1 8 1 i hw
    · exact hf.2.1.2.2.2.1 21 1 i rfl
    · exact hf.2.1.2.2.2.1 22 1 i rfl
  rw [q r i e] at x
  rw [q r' i' e'] at x'
  exact h r i r' i' a e e' u u' x x'
theorem rLS_cf {E6 : Nat} {w : Nat → Nat → Bool} {s s' : rx_S} {n : Nat} {f : Nat → Nat × Nat} (h : rLS E6 s 8 3 n f) (hf : cf w s s') (h0 : w 8 0 = false := by rfl) (h1 : w 8 1 = false := by rfl) (h2 : w 8 2 = false := by rfl) : rLS E6 s' 8 3 n f := by
  obtain ⟨⟨mc, g0⟩, g2, g3, g4⟩ := h
  have hY := hf.2.2.2.2.2.1
  have hQ := hf.2.2.2.2.2.2.2
  have hU := hf.2.2.2.2.2.2.1
  refine ⟨⟨mc, (hf.2.2.1 8 0 3 h0).trans g0⟩, (hf.2.2.1 8 2 3 h2).trans g2, g3, ?_⟩
  rcases g4 with ⟨k1, k2⟩ | ⟨a, k1, k2⟩
  · exact Or.inl ⟨k1, (hf.2.2.1 8 1 3 h1).trans k2⟩
  · refine Or.inr ⟨a, (hf.2.2.1 8 1 3 h1).trans k1, ?_⟩
    rw [hU, hY, hQ]; exact k2
theorem CT_cf {E : Nat → Nat} {w : Nat → Nat → Bool} {s s' : rx_S} {τ : tx_T} (h : CT E s τ) (hS : rx_in s) (hf : cf w s s') (h0 : w 8 0 = false := by rfl) (h1 : w 8 1 = false := by rfl) (h2 : w 8 2 = false := by rfl) : CT E s' τ := by
  obtain ⟨n, f, hn, hl⟩ := h.2.2.2.2.2.2.2.2.2.2.2.2
  exact CT_tfr h hS hf.2.1 (OWN_cf h.2.2.2.1 hf h1) ⟨n, f, hn, rLS_cf hl hf h0 h1 h2⟩
