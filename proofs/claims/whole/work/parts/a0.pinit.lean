/-! ===== Objects that are being made ===== -/
def cdX (E6 : Nat) (q : Nat × Nat) : Nat → rx_V := bif Nat.beq q.1 8 then (fun f => bif Nat.beq f 1 then .inl (.ref E6) else .inl (.int 0)) else fun _ => .inl .null
def cdI (q : Nat × Nat) : Nat → Int32 := bif Nat.beq q.1 10 && Nat.beq q.2 1 then (fun k => if k < 4 then -1 else 0) else fun _ => 0
def cdL (q : Nat × Nat) : Nat → Int64 := bif Nat.beq q.1 1 && Nat.beq q.2 28 then (fun k => if k < 4 then -1 else 0) else fun _ => 0
def kU (K : Nat → Bool) (f : Nat) : Nat → Bool := fun g => bif Nat.beq g f then true else K g
theorem kU_s {K : Nat → Bool} {f : Nat} : kU K f f = true := by simp [kU]
theorem kU_n {K : Nat → Bool} {f g : Nat} (h : g ≠ f) : kU K f g = K g := by
  have : Nat.beq g f = false := by
    cases hb : Nat.beq g f
    · rfl
    · exact absurd (Nat.eq_of_beq_eq_true hb) h
  simp [kU, this]
/-- the object r0: its fields of K hold their children, the others V; nothing but P has changed -/
def pK (E6 : Nat) (s0 s : rx_S) (r0 : Nat) (P : Nat → Nat → Prop) (ρ : Nat → Nat × Nat) (K : Nat → Bool) (V : Nat → rx_V) : Prop :=
  efr s0 s P ∧ rA s r0 0 = rA s0 r0 0 ∧ rU s r0 0 = true ∧
  (∀ f, K f = true → rX s r0 0 f = .inr (ρ f) ∧ rU s (ρ f).1 (ρ f).2 = true ∧ rX s (ρ f).1 (ρ f).2 = cdX E6 (ρ f) ∧ rI s (ρ f).1 (ρ f).2 = cdI (ρ f) ∧ rL s (ρ f).1 (ρ f).2 = cdL (ρ f)) ∧
  (∀ f, K f = false → rX s r0 0 f = V f) ∧
  (∀ r i, P r i → ¬ (r = r0 ∧ i = 0) → (∀ f, K f = true → ρ f ≠ (r, i)) → rU s r i = false)
theorem efr.I {s s' : rx_S} {P : Nat → Nat → Prop} (h : efr s s' P) {r i k : Nat} {v : Int32} (hp : P r i) : efr s (sI s' r i k v) P := fun a b e => by
  obtain ⟨a1, a2, a3, a4, a5, a6, a7⟩ := h a b e
  refine ⟨a1, a2, a3, a4, ?_, a6, a7⟩
  rw [← a5]
  funext c
  exact sI_p (fun q => e (by rw [q.1, q.2]; exact hp))
theorem efr.L {s s' : rx_S} {P : Nat → Nat → Prop} (h : efr s s' P) {r i k : Nat} {v : Int64} (hp : P r i) : efr s (sL s' r i k v) P := fun a b e => by
  obtain ⟨a1, a2, a3, a4, a5, a6, a7⟩ := h a b e
  refine ⟨a1, a2, a3, a4, a5, ?_, a7⟩
  rw [← a6]
  funext c
  exact sL_p (fun q => e (by rw [q.1, q.2]; exact hp))
section
variable {E6 : Nat} {s0 s : rx_S} {r0 : Nat} {P : Nat → Nat → Prop} {ρ : Nat → Nat × Nat} {K : Nat → Bool} {V : Nat → rx_V}
theorem pK_rf (hu : rU s r0 0 = true) (hn : ∀ r i, P r i → ¬ (r = r0 ∧ i = 0) → rU s r i = false) : pK E6 s s r0 P ρ (fun _ => false) (rX s r0 0) :=
  ⟨efr.rf _ _, rfl, hu, (fun f h => by cases h), fun f _ => rfl, fun r i h1 h2 _ => hn r i h1 h2⟩
theorem pK_free (h : pK E6 s0 s r0 P ρ K V) (hinj : ∀ f g, ρ f = ρ g → f = g) {f rc ic : Nat} (hq : ρ f = (rc, ic)) (hp : P rc ic) (hne : ¬ (rc = r0 ∧ ic = 0)) (hK : K f = false) : rU s rc ic = false :=
  h.2.2.2.2.2 rc ic hp hne (fun g hg e => by have := hinj g f (e.trans hq.symm); rw [this, hK] at hg; cases hg)
theorem pK_add (h : pK E6 s0 s r0 P ρ K V) (hinj : ∀ f g, ρ f = ρ g → f = g) (hp0 : P r0 0) (h0 : ∀ f, ρ f ≠ (r0, 0)) {f rc ic : Nat} (hq : ρ f = (rc, ic)) (hp : P rc ic) {s' : rx_S} (e : efr s s' (fun r i => (r = r0 ∧ i = 0) ∨ (r = rc ∧ i = ic))) (hA : rA s' r0 0 = rA s r0 0) (hU : rU s' r0 0 = true) (hX1 : rX s' r0 0 f = .inr (rc, ic)) (hX2 : ∀ g, g ≠ f → rX s' r0 0 g = rX s r0 0 g) (hu : rU s' rc ic = true) (d1 : rX s' rc ic = cdX E6 (rc, ic)) (d2 : rI s' rc ic = cdI (rc, ic)) (d3 : rL s' rc ic = cdL (rc, ic)) : pK E6 s0 s' r0 P ρ (kU K f) V := by
  obtain ⟨h1, h2, h3, h4, h5, h6⟩ := h
  refine ⟨efr.tr h1 (fun r i hn => e r i (fun q => hn (by rcases q with q | q <;> rw [q.1, q.2] <;> assumption))), hA.trans h2, hU, fun g hg => ?_, fun g hg => ?_, fun r i q1 q2 q3 => ?_⟩
  · by_cases eg : g = f
    · rw [eg, hq]
      exact ⟨hX1, hu, d1, d2, d3⟩
    · rw [kU_n eg] at hg
      obtain ⟨a1, a2, a3, a4, a5⟩ := h4 g hg
      have hn : ¬ (((ρ g).1 = r0 ∧ (ρ g).2 = 0) ∨ ((ρ g).1 = rc ∧ (ρ g).2 = ic)) := fun q => by
        rcases q with q | q
        · exact h0 g (Prod.ext q.1 q.2)
        · exact eg (hinj g f ((Prod.ext q.1 q.2 : ρ g = (rc, ic)).trans hq.symm))
      obtain ⟨b1, b2, b3, b4, b5, b6, b7⟩ := e _ _ hn
      exact ⟨(hX2 g eg).trans a1, b2.trans a2, b4.trans a3, b5.trans a4, b6.trans a5⟩
  · have eg : g ≠ f := fun q => by rw [q, kU_s] at hg; cases hg
    rw [kU_n eg] at hg
    exact (hX2 g eg).trans (h5 g hg)
  · have hn : ¬ (r = rc ∧ i = ic) := fun q => q3 f kU_s (by rw [hq, q.1, q.2])
    obtain ⟨b1, b2, -⟩ := e r i (fun q => q.elim q2 hn)
    exact b2.trans (h6 r i q1 q2 (fun g hg => q3 g (by by_cases eg : g = f; rw [eg]; exact kU_s; rw [kU_n eg]; exact hg)))
/-- an array -/
theorem pK_arr (h : pK E6 s0 s r0 P ρ K V) (hinj : ∀ f g, ρ f = ρ g → f = g) (hp0 : P r0 0) (h0 : ∀ f, ρ f ≠ (r0, 0)) {f rc ic a n : Nat} (hq : ρ f = (rc, ic)) (hp : P rc ic) (c1 : cdX E6 (rc, ic) = fun _ => .inl .null) (c2 : cdI (rc, ic) = fun _ => 0) (c3 : cdL (rc, ic) = fun _ => 0) : pK E6 s0 (sX (sNw s rc ic a n (fun _ => .null)) r0 0 f (.inr (rc, ic))) r0 P ρ (kU K f) V := by
  have hne : ¬ (rc = r0 ∧ ic = 0) := fun q => h0 f (by rw [hq, q.1, q.2])
  have hne' : ¬ (r0 = rc ∧ 0 = ic) := fun q => hne ⟨q.1.symm, q.2.symm⟩
  refine pK_add h hinj hp0 h0 hq hp (efr.X (efr.N (efr.rf _ _) (Or.inr ⟨rfl, rfl⟩)) (Or.inl ⟨rfl, rfl⟩)) ?_ ?_ sX_s (fun g hg => ?_) ?_ ?_ ?_ ?_
  · show rA (sNw s rc ic a n (fun _ => .null)) r0 0 = _
    rw [Nw_A, if_neg hne']
  · show rU (sNw s rc ic a n (fun _ => .null)) r0 0 = _
    exact Nw_mono h.2.2.1
  · rw [sX_p (fun q => hg q.2.2), Nw_X, if_neg hne']
  · show rU (sNw s rc ic a n (fun _ => .null)) rc ic = _
    exact Nw_s
  · rw [c1]; funext g
    rw [sX_p (fun q => hne ⟨q.1, q.2.1⟩), Nw_X, if_pos ⟨rfl, rfl⟩]
  · rw [c2]; funext g
    exact (Nw_I (s := s) (a := a) (n := n) (g := fun _ => .null) rc ic g).trans (if_pos ⟨rfl, rfl⟩)
  · rw [c3]; funext g
    exact (Nw_L (s := s) (a := a) (n := n) (g := fun _ => .null) rc ic g).trans (if_pos ⟨rfl, rfl⟩)
/-- a list -/
theorem pK_lst (h : pK E6 s0 s r0 P ρ K V) (hinj : ∀ f g, ρ f = ρ g → f = g) (hp0 : P r0 0) (h0 : ∀ f, ρ f ≠ (r0, 0)) {f ic a : Nat} (h8 : r0 ≠ 8) (hq : ρ f = (8, ic)) (hp : P 8 ic) : pK E6 s0 (sX (sX (sX (sNw s 8 ic a 0 gLst) 8 ic 0 (.inl (.int 0))) 8 ic 1 (.inl (.ref E6))) r0 0 f (.inr (8, ic))) r0 P ρ (kU K f) V := by
  have hne' : ¬ (r0 = 8 ∧ 0 = ic) := fun q => h8 q.1
  refine pK_add h hinj hp0 h0 hq hp (efr.X (efr.X (efr.X (efr.N (efr.rf _ _) (Or.inr ⟨rfl, rfl⟩)) (Or.inr ⟨rfl, rfl⟩)) (Or.inr ⟨rfl, rfl⟩)) (Or.inl ⟨rfl, rfl⟩)) ?_ ?_ sX_s (fun g hg => ?_) ?_ ?_ ?_ ?_
  · show rA (sNw s 8 ic a 0 gLst) r0 0 = _
    rw [Nw_A, if_neg hne']
  · show rU (sNw s 8 ic a 0 gLst) r0 0 = _
    exact Nw_mono h.2.2.1
  · rw [sX_p (fun q => hg q.2.2), sX_p (fun q => h8 q.1), sX_p (fun q => h8 q.1), Nw_X, if_neg hne']
  · show rU (sNw s 8 ic a 0 gLst) 8 ic = _
    exact Nw_s
  · funext g
    rw [sX_p (fun q => h8 q.1.symm)]
    by_cases e1 : g = 1
    · rw [e1, sX_s]; rfl
    · rw [sX_p (fun q => e1 q.2.2)]
      have eb : cdX E6 (8, ic) g = .inl (.int 0) := by
        have : Nat.beq g 1 = false := by
          cases hb : Nat.beq g 1
          · rfl
          · exact absurd (Nat.eq_of_beq_eq_true hb) e1
        show (bif Nat.beq g 1 then _ else _) = _
        rw [this]; rfl
      rw [eb]
      by_cases e2 : g = 0
      · rw [e2, sX_s]
      · rw [sX_p (fun q => e2 q.2.2), Nw_X, if_pos ⟨rfl, rfl⟩]
        congr 1
        match g, e1, e2 with
        | 0, _, e2 => exact absurd rfl e2
        | 1, e1, _ => exact absurd rfl e1
        | g + 2, _, _ => rfl
  · funext g
    exact (Nw_I (s := s) (a := a) (n := 0) (g := gLst) 8 ic g).trans (if_pos ⟨rfl, rfl⟩)
  · funext g
    exact (Nw_L (s := s) (a := a) (n := 0) (g := gLst) 8 ic g).trans (if_pos ⟨rfl, rfl⟩)
/-- an array of four, all -1 -/
theorem pK_bI (h : pK E6 s0 s r0 P ρ K V) (hinj : ∀ f g, ρ f = ρ g → f = g) (hp0 : P r0 0) (h0 : ∀ f, ρ f ≠ (r0, 0)) {f a n : Nat} (h8 : r0 ≠ 10) (hq : ρ f = (10, 1)) (hp : P 10 1) : pK E6 s0 (sX (sI (sI (sI (sI (sNw s 10 1 a n (fun _ => .null)) 10 1 0 (-1)) 10 1 1 (-1)) 10 1 2 (-1)) 10 1 3 (-1)) r0 0 f (.inr (10, 1))) r0 P ρ (kU K f) V := by
  have hne' : ¬ (r0 = 10 ∧ 0 = 1) := fun q => h8 q.1
  refine pK_add h hinj hp0 h0 hq hp (efr.X (efr.I (efr.I (efr.I (efr.I (efr.N (efr.rf _ _) (Or.inr ⟨rfl, rfl⟩)) (Or.inr ⟨rfl, rfl⟩)) (Or.inr ⟨rfl, rfl⟩)) (Or.inr ⟨rfl, rfl⟩)) (Or.inr ⟨rfl, rfl⟩)) (Or.inl ⟨rfl, rfl⟩)) ?_ ?_ sX_s (fun g hg => ?_) ?_ ?_ ?_ ?_
  · show rA (sNw s 10 1 a n (fun _ => .null)) r0 0 = _
    rw [Nw_A, if_neg hne']
  · show rU (sNw s 10 1 a n (fun _ => .null)) r0 0 = _
    exact Nw_mono h.2.2.1
  · rw [sX_p (fun q => hg q.2.2)]
    show rX (sNw s 10 1 a n (fun _ => .null)) r0 0 g = _
    rw [Nw_X, if_neg hne']
  · show rU (sNw s 10 1 a n (fun _ => .null)) 10 1 = _
    exact Nw_s
  · funext g
    rw [sX_p (fun q => h8 q.1.symm)]
    show rX (sNw s 10 1 a n (fun _ => .null)) 10 1 g = _
    rw [Nw_X, if_pos ⟨rfl, rfl⟩]; rfl
  · funext g
    show rI (sI (sI (sI (sI (sNw s 10 1 a n (fun _ => .null)) 10 1 0 (-1)) 10 1 1 (-1)) 10 1 2 (-1)) 10 1 3 (-1)) 10 1 g = if g < 4 then -1 else 0
    rw [sI_at, sI_at, sI_at, sI_at, show rI (sNw s 10 1 a n (fun _ => .null)) 10 1 g = 0 from (Nw_I (s := s) (a := a) (n := n) (g := fun _ => .null) 10 1 g).trans (if_pos ⟨rfl, rfl⟩)]
    by_cases e : g < 4
    · rw [if_pos e]
      repeat' split
      all_goals first | rfl | omega
    · rw [if_neg (show ¬ g = 3 by omega), if_neg (show ¬ g = 2 by omega), if_neg (show ¬ g = 1 by omega), if_neg (show ¬ g = 0 by omega), if_neg e]
  · funext g
    exact (Nw_L (s := s) (a := a) (n := n) (g := fun _ => .null) 10 1 g).trans (if_pos ⟨rfl, rfl⟩)
theorem pK_bL (h : pK E6 s0 s r0 P ρ K V) (hinj : ∀ f g, ρ f = ρ g → f = g) (hp0 : P r0 0) (h0 : ∀ f, ρ f ≠ (r0, 0)) {f a n : Nat} (h8 : r0 ≠ 1) (hq : ρ f = (1, 28)) (hp : P 1 28) : pK E6 s0 (sX (sL (sL (sL (sL (sNw s 1 28 a n (fun _ => .null)) 1 28 0 (-1)) 1 28 1 (-1)) 1 28 2 (-1)) 1 28 3 (-1)) r0 0 f (.inr (1, 28))) r0 P ρ (kU K f) V := by
  have hne' : ¬ (r0 = 1 ∧ 0 = 28) := fun q => h8 q.1
  refine pK_add h hinj hp0 h0 hq hp (efr.X (efr.L (efr.L (efr.L (efr.L (efr.N (efr.rf _ _) (Or.inr ⟨rfl, rfl⟩)) (Or.inr ⟨rfl, rfl⟩)) (Or.inr ⟨rfl, rfl⟩)) (Or.inr ⟨rfl, rfl⟩)) (Or.inr ⟨rfl, rfl⟩)) (Or.inl ⟨rfl, rfl⟩)) ?_ ?_ sX_s (fun g hg => ?_) ?_ ?_ ?_ ?_
  · show rA (sNw s 1 28 a n (fun _ => .null)) r0 0 = _
    rw [Nw_A, if_neg hne']
  · show rU (sNw s 1 28 a n (fun _ => .null)) r0 0 = _
    exact Nw_mono h.2.2.1
  · rw [sX_p (fun q => hg q.2.2)]
    show rX (sNw s 1 28 a n (fun _ => .null)) r0 0 g = _
    rw [Nw_X, if_neg hne']
  · show rU (sNw s 1 28 a n (fun _ => .null)) 1 28 = _
    exact Nw_s
  · funext g
    rw [sX_p (fun q => h8 q.1.symm)]
    show rX (sNw s 1 28 a n (fun _ => .null)) 1 28 g = _
    rw [Nw_X, if_pos ⟨rfl, rfl⟩]; rfl
  · funext g
    exact (Nw_I (s := s) (a := a) (n := n) (g := fun _ => .null) 1 28 g).trans (if_pos ⟨rfl, rfl⟩)
  · funext g
    show rL (sL (sL (sL (sL (sNw s 1 28 a n (fun _ => .null)) 1 28 0 (-1)) 1 28 1 (-1)) 1 28 2 (-1)) 1 28 3 (-1)) 1 28 g = if g < 4 then -1 else 0
    rw [sL_at, sL_at, sL_at, sL_at, show rL (sNw s 1 28 a n (fun _ => .null)) 1 28 g = 0 from (Nw_L (s := s) (a := a) (n := n) (g := fun _ => .null) 1 28 g).trans (if_pos ⟨rfl, rfl⟩)]
    by_cases e : g < 4
    · rw [if_pos e]
      repeat' split
      all_goals first | rfl | omega
    · rw [if_neg (show ¬ g = 3 by omega), if_neg (show ¬ g = 2 by omega), if_neg (show ¬ g = 1 by omega), if_neg (show ¬ g = 0 by omega), if_neg e]
/-- a field that is no child -/
theorem pK_put (h : pK E6 s0 s r0 P ρ K V) (hp0 : P r0 0) (h0 : ∀ f, ρ f ≠ (r0, 0)) {f : Nat} {v : rx_V} (hK : K f = false) : pK E6 s0 (sX s r0 0 f v) r0 P ρ K (fun g => if g = f then v else V g) := by
  obtain ⟨h1, h2, h3, h4, h5, h6⟩ := h
  refine ⟨efr.X h1 hp0, h2, h3, fun g hg => ?_, fun g hg => ?_, h6⟩
  · have hgf : g ≠ f := fun q => by rw [q, hK] at hg; cases hg
    obtain ⟨a1, a2, a3, a4, a5⟩ := h4 g hg
    refine ⟨(sX_p (fun q => hgf q.2.2)).trans a1, a2, ?_, a4, a5⟩
    rw [← a3]; funext c
    exact sX_p (fun q => h0 g (Prod.ext q.1 q.2.1))
  · show rX (sX s r0 0 f v) r0 0 g = if g = f then v else V g
    by_cases e : g = f
    · rw [if_pos e, e]; exact sX_s
    · rw [if_neg e]; exact (sX_p (fun q => e q.2.2)).trans (h5 g hg)
theorem rx_c_n {s : rx_S} {r i a m t n : Nat} {g : Nat → Value} (hk : rx_k r = none) (ht : ∀ y, rx_t y r i = (t, n)) : rx_c (sNw s r i a m g) r i = .inl (t, n, rx_d (sNw s r i a m g) t r i) := by
  simp only [rx_c, hk, ht]
theorem rx_d_0 {s : rx_S} {r i a m : Nat} {g : Nat → Value} : rx_d (sNw s r i a m g) 0 r i = .inl (fun _ => 0) := by
  show Sum.inl (rI (sNw s r i a m g) r i) = _
  congr 1; funext k; exact (Nw_I (s := s) (a := a) (n := m) (g := g) r i k).trans (if_pos ⟨rfl, rfl⟩)
theorem rx_d_3 {s : rx_S} {r i a m : Nat} {g : Nat → Value} : rx_d (sNw s r i a m g) 3 r i = .inl (fun _ => 0) := by
  show Sum.inl (rI (sNw s r i a m g) r i) = _
  congr 1; funext k; exact (Nw_I (s := s) (a := a) (n := m) (g := g) r i k).trans (if_pos ⟨rfl, rfl⟩)
theorem rx_d_1 {s : rx_S} {r i a m : Nat} {g : Nat → Value} : rx_d (sNw s r i a m g) 1 r i = .inr (.inl (fun _ => 0)) := by
  show Sum.inr (Sum.inl (rL (sNw s r i a m g) r i)) = _
  congr 2; funext k; exact (Nw_L (s := s) (a := a) (n := m) (g := g) r i k).trans (if_pos ⟨rfl, rfl⟩)
theorem rx_d_5 {s : rx_S} {r i a m : Nat} {g : Nat → Value} : rx_d (sNw s r i a m g) 5 r i = mx_aq (fun _ => none) := by
  show mx_aq (fun k => rx_o (rA (sNw s r i a m g)) (rQ (sNw s r i a m g) r i k)) = _
  congr 1; funext k; rw [Nw_Q, if_pos ⟨rfl, rfl⟩]; rfl
end
