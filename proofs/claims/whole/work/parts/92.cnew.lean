/-! ===== New sections, symbols, relocations ===== -/
def efr (s s' : rx_S) (P : Nat → Nat → Prop) : Prop := ∀ r i, ¬ P r i → rA s' r i = rA s r i ∧ rU s' r i = rU s r i ∧ rY s' r i = rY s r i ∧ rX s' r i = rX s r i ∧ rI s' r i = rI s r i ∧ rL s' r i = rL s r i ∧ rQ s' r i = rQ s r i
theorem efr.rf (s : rx_S) (P : Nat → Nat → Prop) : efr s s P := fun _ _ _ => ⟨rfl, rfl, rfl, rfl, rfl, rfl, rfl⟩
theorem efr.tr {s s' s'' : rx_S} {P : Nat → Nat → Prop} (h : efr s s' P) (h' : efr s' s'' P) : efr s s'' P := fun r i e => by
  obtain ⟨a1, a2, a3, a4, a5, a6, a7⟩ := h r i e
  obtain ⟨b1, b2, b3, b4, b5, b6, b7⟩ := h' r i e
  exact ⟨b1.trans a1, b2.trans a2, b3.trans a3, b4.trans a4, b5.trans a5, b6.trans a6, b7.trans a7⟩
theorem efr.X {s s' : rx_S} {P : Nat → Nat → Prop} (h : efr s s' P) {r i f : Nat} {v : rx_V} (hp : P r i) : efr s (sX s' r i f v) P := fun a b e => by
  obtain ⟨a1, a2, a3, a4, a5, a6, a7⟩ := h a b e
  refine ⟨a1, a2, a3, ?_, a5, a6, a7⟩
  rw [← a4]
  funext c
  exact sX_p (fun q => e (by rw [q.1, q.2.1]; exact hp))
theorem efr.N {s s' : rx_S} {P : Nat → Nat → Prop} (h : efr s s' P) {r i a n : Nat} {g : Nat → Value} (hp : P r i) : efr s (sNw s' r i a n g) P := fun x y e => by
  obtain ⟨a1, a2, a3, a4, a5, a6, a7⟩ := h x y e
  have hne : ¬ (x = r ∧ y = i) := fun q => e (by rw [q.1, q.2]; exact hp)
  refine ⟨(Nw_A x y).trans ((if_neg hne).trans a1), (Nw_U x y).trans ((if_neg hne).trans a2), (Nw_Y x y).trans ((if_neg hne).trans a3), ?_, ?_, ?_, ?_⟩
  · rw [← a4]; funext c; exact (Nw_X x y c).trans (if_neg hne)
  · rw [← a5]; funext c; exact (Nw_I x y c).trans (if_neg hne)
  · rw [← a6]; funext c; exact (Nw_L x y c).trans (if_neg hne)
  · rw [← a7]; funext c; exact (Nw_Q x y c).trans (if_neg hne)
theorem rLS_efr {E6 : Nat} {s s' : rx_S} {P : Nat → Nat → Prop} {r i n : Nat} {f : Nat → Nat × Nat} (h : rLS E6 s r i n f) (e : efr s s' P) (hp : ¬ P r i) (h9 : ∀ a, ¬ P 9 a) : rLS E6 s' r i n f := by
  have hx : rX s' r i = rX s r i := (e r i hp).2.2.2.1
  have hq : ∀ a, rU s' 9 a = rU s 9 a ∧ rY s' 9 a = rY s 9 a ∧ rQ s' 9 a = rQ s 9 a := fun a => ⟨(e 9 a (h9 a)).2.1, (e 9 a (h9 a)).2.2.1, (e 9 a (h9 a)).2.2.2.2.2.2⟩
  obtain ⟨⟨mc, h0⟩, h2, h3, h4⟩ := h
  refine ⟨⟨mc, by rw [hx]; exact h0⟩, by rw [hx]; exact h2, h3, ?_⟩
  rw [hx]
  rcases h4 with h4 | ⟨a, b, c⟩
  · exact Or.inl h4
  · refine Or.inr ⟨a, b, ?_⟩
    rw [(hq a).1, (hq a).2.1, (hq a).2.2]; exact c
theorem rLS_lfr {E6 : Nat} {s s' : rx_S} {r i r' i' n : Nat} {f : Nat → Nat × Nat} (h : rLS E6 s r' i' n f) (l : lfr s s' r i) (hne : ¬ (r' = r ∧ i' = i)) (h9 : r' ≠ 9) (hd : ∀ a, rX s r' i' 1 = .inr (9, a) → rX s r i 1 ≠ .inr (9, a)) : rLS E6 s' r' i' n f := by
  obtain ⟨l1, l2, l3, l4, l5, l6, l7, l8⟩ := l
  obtain ⟨⟨mc, h0⟩, h2, h3, h4⟩ := h
  refine ⟨⟨mc, (l4 r' i' 0 h9 hne).trans h0⟩, (l4 r' i' 2 h9 hne).trans h2, h3, ?_⟩
  rcases h4 with ⟨a, b⟩ | ⟨a, b, c1, c2⟩
  · exact Or.inl ⟨a, (l4 r' i' 1 h9 hne).trans b⟩
  · refine Or.inr ⟨a, (l4 r' i' 1 h9 hne).trans b, l5 9 a c1, ?_⟩
    rw [(l7 a c1 (hd a b)).1, (l7 a c1 (hd a b)).2]; exact c2
theorem OWN_lfr {b0 z1 z2 : Nat} {O : Nat → Option mx_C} {s s' : rx_S} {G : mx_H} (h : OWN s) (R : rx_R b0 O z1 z2 s G) {r i : Nat} (hr : r = 8 ∨ r = 21 ∨ r = 22) (l : lfr s s' r i) (hu : rU s r i = true) : OWN s' := by
  obtain ⟨l1, l2, l3, l4, l5, l6, l7, l8⟩ := l
  intro a b a' b' c e e' u u' x x'
  rw [(l6 a b (by omega)).1] at u
  rw [(l6 a' b' (by omega)).1] at u'
  by_cases e1 : a = r ∧ b = i
  · obtain ⟨rfl, rfl⟩ := e1
    by_cases e2 : a' = a ∧ b' = b
    · exact ⟨e2.1.symm, e2.2.symm⟩
    · rw [l4 a' b' 1 (by omega) e2] at x'
      rcases l8 c x with x | x
      · exact h _ _ _ _ c e e' u u' x x'
      · have := R.2.2.1 a' b' 1 (9, c) u' x'
        rw [x] at this; cases this
  · rw [l4 a b 1 (by omega) e1] at x
    by_cases e2 : a' = r ∧ b' = i
    · obtain ⟨rfl, rfl⟩ := e2
      rcases l8 c x' with x' | x'
      · exact h _ _ _ _ c e e' u u' x x'
      · have := R.2.2.1 a b 1 (9, c) u x
        rw [x'] at this; cases this
    · rw [l4 a' b' 1 (by omega) e2] at x'
      exact h _ _ _ _ c e e' u u' x x'
theorem OWN_efr {s s' : rx_S} {P : Nat → Nat → Prop} (h : OWN s) (e : efr s s' P) (hp : ∀ r i, (r = 8 ∨ r = 21 ∨ r = 22) → P r i → ∀ a, rX s' r i 1 ≠ .inr (9, a)) : OWN s' := by
  intro a b a' b' c h1 h2 u u' x x'
  have n1 : ¬ P a b := fun q => hp a b h1 q c x
  have n2 : ¬ P a' b' := fun q => hp a' b' h2 q c x'
  obtain ⟨_, a2, _, a4, _⟩ := e a b n1
  obtain ⟨_, b2, _, b4, _⟩ := e a' b' n2
  rw [a2] at u; rw [b2] at u'; rw [a4] at x; rw [b4] at x'
  exact h a b a' b' c h1 h2 u u' x x'
def gSec : Nat → Value
  | 6 => .null
  | 7 => .null
  | 13 => .null
  | 15 => .null
  | 16 => .null
  | 17 => .null
  | 18 => .long 0
  | _ => .int 0
def gLst : Nat → Value
  | 1 => .null
  | _ => .int 0
def gSym : Nat → Value
  | 2 => .null
  | 7 => .null
  | _ => .int 0
def gPat : Nat → Value
  | _ => .int 0
def gRel : Nat → Value
  | 0 => .null
  | 2 => .null
  | 3 => .null
  | _ => .int 0
section
variable {b0 mi z1 z2 : Nat} {E : Nat → Nat} {O : Nat → Option mx_C} {s : rx_S} {G : mx_H} {Q : mx_O → mx_H → Prop}
theorem c5_initB (R : rx_R b0 O z1 z2 s G) {n : Nat} (hus : rU s 20 n = true) (hul : rU s 22 n = false) {num ob kd sz al sd : Int32} {L : mx_L} (l0 : L 0 = some (.ref (rA s 20 n))) (l1 : L 1 = some (.int num)) (l2 : L 2 = some (.int ob)) (l3 : L 3 = some (.int kd)) (l4 : L 4 = some (.int sz)) (l5 : L 5 = some (.int al)) (l6 : L 6 = some (.int sd)) (q : ∀ s' G', rx_R b0 O (z1 + 1) (z2 + 3) s' G' → efr s s' (fun r i => (r = 20 ∨ r = 22) ∧ i = n) → (rU s' 20 n = true ∧ rA s' 20 n = rA s 20 n) → (rX s' 20 n 0 = .inl (.int num) ∧ rX s' 20 n 1 = .inl (.int ob) ∧ rX s' 20 n 2 = .inl (.int kd) ∧ rX s' 20 n 3 = .inl (.int sz) ∧ rX s' 20 n 4 = .inl (.int al) ∧ rX s' 20 n 5 = .inl (.int sd) ∧ rX s' 20 n 6 = rX s 20 n 6 ∧ rX s' 20 n 7 = .inr (22, n) ∧ rX s' 20 n 8 = rX s 20 n 8 ∧ rX s' 20 n 9 = .inl (.int (-1)) ∧ rX s' 20 n 10 = .inl (.int (-1))) → (rU s' 22 n = true ∧ rX s' 22 n 0 = .inl (.int 0) ∧ rX s' 22 n 1 = .inl (.ref (E 6)) ∧ rX s' 22 n 2 = .inl (.int 0)) → Q (.inl none) G') : mx_W (gt_P b0 mi E) mX5_init 15 L [] G Q := by
  refine w_aload_n dX5_init_15 l0 ?_
  refine r_new 22 n gLst dX5_init_16 nt_5_9 R (lb9 rfl) hul ((rx_c_o rfl).trans rfl) (fun G1 R1 => ?_)
  refine w_dup dX5_init_19 rfl ?_
  refine r_spec0 dX5_init_20 mt_5_11 (by decide) (lb rfl) (lb rfl) (lb rfl) (lb rfl) rfl (c_linit R1 rfl (show rU (sNw s 22 n G.2.1 0 gLst) 22 n = true from Nw_s) (fun G2 R2 => ⟨_, rfl, ?_⟩))
  refine r_putr (r := 20) (i := n) (q1 := 22) (q2 := n) dX5_init_23 ft_5_18 R2 rfl (show rU (sNw s 22 n G.2.1 0 gLst) 20 n = true from Nw_mono hus) rfl (lb rfl) (fun _ => ⟨rfl, rfl⟩) rfl rfl rfl (show rU (sNw s 22 n G.2.1 0 gLst) 22 n = true from Nw_s) (fun G2 R2 => ?_)
  refine w_aload_n dX5_init_26 l0 ?_
  refine w_iconst (v := (-1)) dX5_init_27 (by decide) ?_
  refine r_puti (r := 20) (i := n) dX5_init_28 ft_5_21 R2 rfl (show rU (sNw s 22 n G.2.1 0 gLst) 20 n = true from Nw_mono hus) rfl (lb rfl) (fun h => by cases h) rfl rfl (fun G3 R3 => ?_)
  refine w_aload_n dX5_init_31 l0 ?_
  refine w_iconst (v := (-1)) dX5_init_32 (by decide) ?_
  refine r_puti (r := 20) (i := n) dX5_init_33 ft_5_25 R3 rfl (show rU (sNw s 22 n G.2.1 0 gLst) 20 n = true from Nw_mono hus) rfl (lb rfl) (fun h => by cases h) rfl rfl (fun G4 R4 => ?_)
  refine w_aload_n dX5_init_36 l0 ?_
  refine w_iconst (v := (-1)) dX5_init_37 (by decide) ?_
  refine r_puti (r := 20) (i := n) dX5_init_38 ft_5_28 R4 rfl (show rU (sNw s 22 n G.2.1 0 gLst) 20 n = true from Nw_mono hus) rfl (lb rfl) (fun h => by cases h) rfl rfl (fun G5 R5 => ?_)
  refine w_aload_n dX5_init_41 l0 ?_
  refine w_iload_n dX5_init_42 l1 ?_
  refine r_puti (r := 20) (i := n) dX5_init_43 ft_5_31 R5 rfl (show rU (sNw s 22 n G.2.1 0 gLst) 20 n = true from Nw_mono hus) rfl (lb rfl) (fun _ => ⟨rfl, rfl⟩) rfl rfl (fun G6 R6 => ?_)
  refine w_aload_n dX5_init_46 l0 ?_
  refine w_iload_n dX5_init_47 l2 ?_
  refine r_puti (r := 20) (i := n) dX5_init_48 ft_5_34 R6 rfl (show rU (sNw s 22 n G.2.1 0 gLst) 20 n = true from Nw_mono hus) rfl (lb rfl) (fun _ => ⟨rfl, rfl⟩) rfl rfl (fun G7 R7 => ?_)
  refine w_aload_n dX5_init_51 l0 ?_
  refine w_iload_n dX5_init_52 l3 ?_
  refine r_puti (r := 20) (i := n) dX5_init_53 ft_5_37 R7 rfl (show rU (sNw s 22 n G.2.1 0 gLst) 20 n = true from Nw_mono hus) rfl (lb rfl) (fun _ => ⟨rfl, rfl⟩) rfl rfl (fun G8 R8 => ?_)
  refine w_aload_n dX5_init_56 l0 ?_
  refine w_iload dX5_init_57 l4 ?_
  refine r_puti (r := 20) (i := n) dX5_init_59 ft_5_40 R8 rfl (show rU (sNw s 22 n G.2.1 0 gLst) 20 n = true from Nw_mono hus) rfl (lb rfl) (fun _ => ⟨rfl, rfl⟩) rfl rfl (fun G9 R9 => ?_)
  refine w_aload_n dX5_init_62 l0 ?_
  refine w_iload dX5_init_63 l5 ?_
  refine r_puti (r := 20) (i := n) dX5_init_65 ft_5_43 R9 rfl (show rU (sNw s 22 n G.2.1 0 gLst) 20 n = true from Nw_mono hus) rfl (lb rfl) (fun _ => ⟨rfl, rfl⟩) rfl rfl (fun G10 R10 => ?_)
  refine w_aload_n dX5_init_68 l0 ?_
  refine w_iload dX5_init_69 l6 ?_
  refine r_puti (r := 20) (i := n) dX5_init_71 ft_5_46 R10 rfl (show rU (sNw s 22 n G.2.1 0 gLst) 20 n = true from Nw_mono hus) rfl (lb rfl) (fun _ => ⟨rfl, rfl⟩) rfl rfl (fun G11 R11 => ?_)
  refine w_ret dX5_init_74 rfl ?_
  refine q _ _ R11 ?_ ⟨(show rU (sNw s 22 n G.2.1 0 gLst) 20 n = true from Nw_mono hus), rfl⟩ ⟨?_, ?_, ?_, ?_, ?_, ?_, ?_, ?_, ?_, ?_, ?_⟩ ⟨(show rU (sNw s 22 n G.2.1 0 gLst) 22 n = true from Nw_s), ?_, ?_, ?_⟩
  · refine efr.X (efr.X (efr.X (efr.X (efr.X (efr.X (efr.X (efr.X (efr.X (efr.X (efr.X (efr.X (efr.N (efr.rf s _) ⟨Or.inr rfl, rfl⟩) ⟨Or.inr rfl, rfl⟩) ⟨Or.inr rfl, rfl⟩) ⟨Or.inl rfl, rfl⟩) ⟨Or.inl rfl, rfl⟩) ⟨Or.inl rfl, rfl⟩) ⟨Or.inl rfl, rfl⟩) ⟨Or.inl rfl, rfl⟩) ⟨Or.inl rfl, rfl⟩) ⟨Or.inl rfl, rfl⟩) ⟨Or.inl rfl, rfl⟩) ⟨Or.inl rfl, rfl⟩) ⟨Or.inl rfl, rfl⟩
  · rw [sX_p (by omega), sX_p (by omega), sX_p (by omega), sX_p (by omega), sX_p (by omega), sX_s]
  · rw [sX_p (by omega), sX_p (by omega), sX_p (by omega), sX_p (by omega), sX_s]
  · rw [sX_p (by omega), sX_p (by omega), sX_p (by omega), sX_s]
  · rw [sX_p (by omega), sX_p (by omega), sX_s]
  · rw [sX_p (by omega), sX_s]
  · rw [sX_s]
  · rw [sX_p (by omega), sX_p (by omega), sX_p (by omega), sX_p (by omega), sX_p (by omega), sX_p (by omega), sX_p (by omega), sX_p (by omega), sX_p (by omega), sX_p (by omega), sX_p (by omega), sX_p (by omega), Nw_X, if_neg (by omega)]
  · rw [sX_p (by omega), sX_p (by omega), sX_p (by omega), sX_p (by omega), sX_p (by omega), sX_p (by omega), sX_p (by omega), sX_p (by omega), sX_p (by omega), sX_s]
  · rw [sX_p (by omega), sX_p (by omega), sX_p (by omega), sX_p (by omega), sX_p (by omega), sX_p (by omega), sX_p (by omega), sX_p (by omega), sX_p (by omega), sX_p (by omega), sX_p (by omega), sX_p (by omega), Nw_X, if_neg (by omega)]
  · rw [sX_p (by omega), sX_p (by omega), sX_p (by omega), sX_p (by omega), sX_p (by omega), sX_p (by omega), sX_p (by omega), sX_p (by omega), sX_s]
  · rw [sX_p (by omega), sX_p (by omega), sX_p (by omega), sX_p (by omega), sX_p (by omega), sX_p (by omega), sX_p (by omega), sX_s]
  · rw [sX_p (by omega), sX_p (by omega), sX_p (by omega), sX_p (by omega), sX_p (by omega), sX_p (by omega), sX_p (by omega), sX_p (by omega), sX_p (by omega), sX_p (by omega), sX_p (by omega), sX_s]
  · rw [sX_p (by omega), sX_p (by omega), sX_p (by omega), sX_p (by omega), sX_p (by omega), sX_p (by omega), sX_p (by omega), sX_p (by omega), sX_p (by omega), sX_p (by omega), sX_s]
  · rw [sX_p (by omega), sX_p (by omega), sX_p (by omega), sX_p (by omega), sX_p (by omega), sX_p (by omega), sX_p (by omega), sX_p (by omega), sX_p (by omega), sX_p (by omega), sX_p (by omega), sX_p (by omega), Nw_X, if_pos ⟨rfl, rfl⟩]; rfl
theorem c5_init (R : rx_R b0 O z1 z2 s G) {n : Nat} (hus : rU s 20 n = true) (hul : rU s 21 n = false) (hu2 : rU s 22 n = false) {num ob kd sz al sd : Int32} (q : ∀ s' G', rx_R b0 O (z1 + 2) (z2 + 6) s' G' → efr s s' (fun r i => (r = 20 ∨ r = 21 ∨ r = 22) ∧ i = n) → (rU s' 20 n = true ∧ rA s' 20 n = rA s 20 n) → (rX s' 20 n 0 = .inl (.int num) ∧ rX s' 20 n 1 = .inl (.int ob) ∧ rX s' 20 n 2 = .inl (.int kd) ∧ rX s' 20 n 3 = .inl (.int sz) ∧ rX s' 20 n 4 = .inl (.int al) ∧ rX s' 20 n 5 = .inl (.int sd) ∧ rX s' 20 n 6 = .inr (21, n) ∧ rX s' 20 n 7 = .inr (22, n) ∧ rX s' 20 n 8 = rX s 20 n 8 ∧ rX s' 20 n 9 = .inl (.int (-1)) ∧ rX s' 20 n 10 = .inl (.int (-1))) → (rU s' 21 n = true ∧ rX s' 21 n 0 = .inl (.int 0) ∧ rX s' 21 n 1 = .inl (.ref (E 6)) ∧ rX s' 21 n 2 = .inl (.int 0)) → (rU s' 22 n = true ∧ rX s' 22 n 0 = .inl (.int 0) ∧ rX s' 22 n 1 = .inl (.ref (E 6)) ∧ rX s' 22 n 2 = .inl (.int 0)) → Q (.inl none) G') : mx_W (gt_P b0 mi E) mX5_init 0 (mx_en 0 [.ref (rA s 20 n), .int num, .int ob, .int kd, .int sz, .int al, .int sd]) [] G Q := by
  refine w_aload_n dX5_init_0 rfl ?_
  refine w_obj dX5_init_1 mt_5_3 (lb rfl) (lb rfl) (lb rfl) ?_
  refine w_aload_n dX5_init_4 rfl ?_
  refine r_new 21 n gLst dX5_init_5 nt_5_9 R (lb9 rfl) hul ((rx_c_o rfl).trans rfl) (fun G1 R1 => ?_)
  refine w_dup dX5_init_8 rfl ?_
  refine r_spec0 dX5_init_9 mt_5_11 (by decide) (lb rfl) (lb rfl) (lb rfl) (lb rfl) rfl (c_linit R1 rfl (show rU (sNw s 21 n G.2.1 0 gLst) 21 n = true from Nw_s) (fun G2 R2 => ⟨_, rfl, ?_⟩))
  refine r_putr (r := 20) (i := n) (q1 := 21) (q2 := n) dX5_init_12 ft_5_12 R2 rfl (show rU (sNw s 21 n G.2.1 0 gLst) 20 n = true from Nw_mono hus) rfl (lb rfl) (fun _ => ⟨rfl, rfl⟩) rfl rfl rfl (show rU (sNw s 21 n G.2.1 0 gLst) 21 n = true from Nw_s) (fun G2 R2 => ?_)
  have EA : efr s (sX (sX (sX (sNw s 21 n G.2.1 0 gLst) 21 n 0 (.inl (.int 0))) 21 n 1 (.inl (.ref (E 6)))) 20 n 6 (.inr (21, n))) (fun r i => (r = 20 ∨ r = 21 ∨ r = 22) ∧ i = n) := efr.X (efr.X (efr.X (efr.N (efr.rf s _) ⟨Or.inr (Or.inl rfl), rfl⟩) ⟨Or.inr (Or.inl rfl), rfl⟩) ⟨Or.inr (Or.inl rfl), rfl⟩) ⟨Or.inl rfl, rfl⟩
  have x6 : rX (sX (sX (sX (sNw s 21 n G.2.1 0 gLst) 21 n 0 (.inl (.int 0))) 21 n 1 (.inl (.ref (E 6)))) 20 n 6 (.inr (21, n))) 20 n 6 = .inr (21, n) := by rw [sX_s]
  have x8 : rX (sX (sX (sX (sNw s 21 n G.2.1 0 gLst) 21 n 0 (.inl (.int 0))) 21 n 1 (.inl (.ref (E 6)))) 20 n 6 (.inr (21, n))) 20 n 8 = rX s 20 n 8 := by rw [sX_p (by omega), sX_p (by omega), sX_p (by omega), Nw_X, if_neg (by omega)]
  have y0 : rX (sX (sX (sX (sNw s 21 n G.2.1 0 gLst) 21 n 0 (.inl (.int 0))) 21 n 1 (.inl (.ref (E 6)))) 20 n 6 (.inr (21, n))) 21 n 0 = .inl (.int 0) := by rw [sX_p (by omega), sX_p (by omega), sX_s]
  have y1 : rX (sX (sX (sX (sNw s 21 n G.2.1 0 gLst) 21 n 0 (.inl (.int 0))) 21 n 1 (.inl (.ref (E 6)))) 20 n 6 (.inr (21, n))) 21 n 1 = .inl (.ref (E 6)) := by rw [sX_p (by omega), sX_s]
  have y2 : rX (sX (sX (sX (sNw s 21 n G.2.1 0 gLst) 21 n 0 (.inl (.int 0))) 21 n 1 (.inl (.ref (E 6)))) 20 n 6 (.inr (21, n))) 21 n 2 = .inl (.int 0) := by rw [sX_p (by omega), sX_p (by omega), sX_p (by omega), Nw_X, if_pos ⟨rfl, rfl⟩]; rfl
  have yu : rU (sX (sX (sX (sNw s 21 n G.2.1 0 gLst) 21 n 0 (.inl (.int 0))) 21 n 1 (.inl (.ref (E 6)))) 20 n 6 (.inr (21, n))) 21 n = true := (show rU (sNw s 21 n G.2.1 0 gLst) 21 n = true from Nw_s)
  have xu : rU (sX (sX (sX (sNw s 21 n G.2.1 0 gLst) 21 n 0 (.inl (.int 0))) 21 n 1 (.inl (.ref (E 6)))) 20 n 6 (.inr (21, n))) 20 n = true := (show rU (sNw s 21 n G.2.1 0 gLst) 20 n = true from Nw_mono hus)
  have xf : rU (sX (sX (sX (sNw s 21 n G.2.1 0 gLst) 21 n 0 (.inl (.int 0))) 21 n 1 (.inl (.ref (E 6)))) 20 n 6 (.inr (21, n))) 22 n = false := (show rU (sNw s 21 n G.2.1 0 gLst) 22 n = false from (Nw_U 22 n).trans ((if_neg (by omega)).trans hu2))
  have xa : rA (sX (sX (sX (sNw s 21 n G.2.1 0 gLst) 21 n 0 (.inl (.int 0))) 21 n 1 (.inl (.ref (E 6)))) 20 n 6 (.inr (21, n))) 20 n = rA s 20 n := rfl
  obtain ⟨sA, es⟩ : ∃ sA, sA = (sX (sX (sX (sNw s 21 n G.2.1 0 gLst) 21 n 0 (.inl (.int 0))) 21 n 1 (.inl (.ref (E 6)))) 20 n 6 (.inr (21, n))) := ⟨_, rfl⟩
  rw [← es] at R2 EA x6 x8 y0 y1 y2 yu xu xf xa
  refine c5_initB R2 xu xf (by rw [xa]; rfl) rfl rfl rfl rfl rfl rfl (fun s' G' R' e' u' fS fP => ?_)
  obtain ⟨f0, f1, f2, f3, f4, f5, f6, f7, f8, f9, f10⟩ := fS
  have e21 := e' 21 n (by omega)
  refine q s' G' (rx_w R' (by omega) (by show z2 + 3 + 3 ≤ z2 + 6; omega)) (EA.tr (fun r i hp => e' r i (by omega))) ⟨u'.1, u'.2.trans xa⟩ ⟨f0, f1, f2, f3, f4, f5, f6.trans x6, f7, f8.trans x8, f9, f10⟩ ⟨e21.2.1.trans yu, (congrFun e21.2.2.2.1 0).trans y0, (congrFun e21.2.2.2.1 1).trans y1, (congrFun e21.2.2.2.1 2).trans y2⟩ fP
theorem c12_init (R : rx_R b0 O z1 z2 s G) {k : Nat} (hus : rU s 23 k = true) {m v : Int32} (q : ∀ s' G', rx_R b0 O z1 z2 s' G' → efr s s' (fun r i => r = 23 ∧ i = k) → (rU s' 23 k = true ∧ rA s' 23 k = rA s 23 k) → (rX s' 23 k 0 = .inl (.int m) ∧ rX s' 23 k 1 = .inl (.int v)) → Q (.inl none) G') : mx_W (gt_P b0 mi E) mX12_init 0 (mx_en 0 [.ref (rA s 23 k), .int m, .int v]) [] G Q := by
  refine w_aload_n dX12_init_0 rfl ?_
  refine w_obj dX12_init_1 mt_11_1 (lb rfl) (lb rfl) (lb rfl) ?_
  refine w_aload_n dX12_init_4 rfl ?_
  refine w_iload_n dX12_init_5 rfl ?_
  refine r_puti  dX12_init_6 ft_11_7 R rfl hus rfl (lb rfl) (fun _ => ⟨rfl, rfl⟩) rfl rfl (fun G1 R1 => ?_)
  refine w_aload_n dX12_init_9 rfl ?_
  refine w_iload_n dX12_init_10 rfl ?_
  refine r_puti  dX12_init_11 ft_11_13 R1 rfl hus rfl (lb rfl) (fun h => by cases h) rfl rfl (fun G2 R2 => ?_)
  refine w_ret dX12_init_14 rfl ?_
  refine q _ _ R2 (efr.X (efr.X (efr.rf s _) ⟨rfl, rfl⟩) ⟨rfl, rfl⟩) ⟨hus, rfl⟩ ⟨?_, ?_⟩
  · rw [sX_p (by omega), sX_s]
  · rw [sX_s]
theorem c6_init (R : rx_R b0 O z1 z2 s G) {k : Nat} (hus : rU s 24 k = true) {ob nm off sort x : Int32} {o : Option Nat} (ho : ∀ j, o = some j → rU s 20 j = true) (q : ∀ s' G', rx_R b0 O z1 z2 s' G' → efr s s' (fun r i => r = 24 ∧ i = k) → (rU s' 24 k = true ∧ rA s' 24 k = rA s 24 k) → (rX s' 24 k 0 = .inl (.int ob) ∧ rX s' 24 k 1 = .inl (.int nm) ∧ rX s' 24 k 2 = oV o ∧ rX s' 24 k 3 = .inl (.int off) ∧ rX s' 24 k 4 = .inl (.int sort) ∧ rX s' 24 k 5 = .inl (.int (stI x)) ∧ rX s' 24 k 6 = .inl (.int (spI x))) → Q (.inl none) G') : mx_W (gt_P b0 mi E) mX6_init 0 (mx_en 0 [.ref (rA s 24 k), .int ob, .int nm, rx_v (rA s) (oV o), .int off, .int sort, .int x]) [] G Q := by
  cases o with
  | none =>
    refine w_aload_n dX6_init_0 rfl ?_
    refine w_obj dX6_init_1 mt_6_3 (lb rfl) (lb rfl) (lb rfl) ?_
    refine w_aload_n dX6_init_4 rfl ?_
    refine w_iload_n dX6_init_5 rfl ?_
    refine r_puti  dX6_init_6 ft_6_9 R rfl hus rfl (lb rfl) (fun _ => ⟨rfl, rfl⟩) rfl rfl (fun G1 R1 => ?_)
    refine w_aload_n dX6_init_9 rfl ?_
    refine w_iload_n dX6_init_10 rfl ?_
    refine r_puti  dX6_init_11 ft_6_15 R1 rfl hus rfl (lb rfl) (fun _ => ⟨rfl, rfl⟩) rfl rfl (fun G2 R2 => ?_)
    refine w_aload_n dX6_init_14 rfl ?_
    refine w_aload_nN dX6_init_15 rfl ?_
    refine r_puti  dX6_init_16 ft_6_18 R2 rfl hus rfl (lb rfl) (fun _ => ⟨rfl, rfl⟩) rfl rfl (fun G3 R3 => ?_)
    refine w_aload_n dX6_init_19 rfl ?_
    refine w_iload dX6_init_20 rfl ?_
    refine r_puti  dX6_init_22 ft_6_22 R3 rfl hus rfl (lb rfl) (fun _ => ⟨rfl, rfl⟩) rfl rfl (fun G4 R4 => ?_)
    refine w_aload_n dX6_init_25 rfl ?_
    refine w_iload dX6_init_26 rfl ?_
    refine r_puti  dX6_init_28 ft_6_25 R4 rfl hus rfl (lb rfl) (fun _ => ⟨rfl, rfl⟩) rfl rfl (fun G5 R5 => ?_)
    refine w_iload dX6_init_31 rfl ?_
    refine w_bipush (v := (-10)) dX6_init_33 (by decide) ?_
    refine r_icmp_gti (t := 42) dX6_init_35 rfl (fun h35 => ?_) (fun h35 => ?_)
    ·
      refine w_iconst (v := 0) dX6_init_42 (by decide) ?_
      refine w_istore dX6_init_43 (lb rfl) ?_
      refine w_iload dX6_init_45 rfl ?_
      refine w_if_ne (t := 61) dX6_init_47 rfl (fun h => absurd h (by decide)) (fun _ => ?_)
      refine w_iload dX6_init_50 rfl ?_
      refine w_bipush (v := (-2)) dX6_init_52 (by decide) ?_
      refine r_icmp_gti (t := 61) dX6_init_54 rfl (fun h54 => ?_) (fun h54 => ?_)
      ·
        refine w_iconst (v := 0) dX6_init_61 (by decide) ?_
        refine w_istore dX6_init_62 (lb rfl) ?_
        refine w_aload_n dX6_init_64 rfl ?_
        refine w_iload dX6_init_65 rfl ?_
        refine w_if_eq (t := 78) dX6_init_67 rfl (fun _ => ?_) (fun h => absurd (by decide) h)
        refine w_iconst (v := (-1)) dX6_init_78 (by decide) ?_
        refine r_puti  dX6_init_79 ft_6_28 R5 rfl hus rfl (lb rfl) (fun _ => ⟨rfl, rfl⟩) rfl rfl (fun G6 R6 => ?_)
        refine w_aload_n dX6_init_82 rfl ?_
        refine w_iload dX6_init_83 rfl ?_
        refine w_if_eq (t := 96) dX6_init_85 rfl (fun _ => ?_) (fun h => absurd (by decide) h)
        refine w_iconst (v := (-1)) dX6_init_96 (by decide) ?_
        refine r_puti  dX6_init_97 ft_6_31 R6 rfl hus rfl (lb rfl) (fun _ => ⟨rfl, rfl⟩) rfl rfl (fun G7 R7 => ?_)
        refine w_ret dX6_init_100 rfl ?_
        have m10 : (-10 : Int32).toInt = -10 := by decide
        have m2 : (-2 : Int32).toInt = -2 := by decide
        refine q _ _ R7 ?_ ⟨hus, rfl⟩ ⟨?_, ?_, ?_, ?_, ?_, ?_, ?_⟩
        · refine efr.X (efr.X (efr.X (efr.X (efr.X (efr.X (efr.X (efr.rf s _) ⟨rfl, rfl⟩) ⟨rfl, rfl⟩) ⟨rfl, rfl⟩) ⟨rfl, rfl⟩) ⟨rfl, rfl⟩) ⟨rfl, rfl⟩) ⟨rfl, rfl⟩
        · rw [sX_p (by omega), sX_p (by omega), sX_p (by omega), sX_p (by omega), sX_p (by omega), sX_p (by omega), sX_s]
        · rw [sX_p (by omega), sX_p (by omega), sX_p (by omega), sX_p (by omega), sX_p (by omega), sX_s]
        · rw [sX_p (by omega), sX_p (by omega), sX_p (by omega), sX_p (by omega), sX_s]; rfl
        · rw [sX_p (by omega), sX_p (by omega), sX_p (by omega), sX_s]
        · rw [sX_p (by omega), sX_p (by omega), sX_s]
        · rw [sX_p (by omega), sX_s]
          unfold stI; rw [if_neg (by omega), if_neg (by omega)]
        · rw [sX_s]
          unfold spI; rw [if_neg (by omega)]
      ·
        refine w_iconst (v := 1) dX6_init_57 (by decide) ?_
        refine w_goto (t := 62) dX6_init_58 rfl ?_
        refine w_istore dX6_init_62 (lb rfl) ?_
        refine w_aload_n dX6_init_64 rfl ?_
        refine w_iload dX6_init_65 rfl ?_
        refine w_if_eq (t := 78) dX6_init_67 rfl (fun h => absurd h (by decide)) (fun _ => ?_)
        refine w_bipush (v := (-2)) dX6_init_70 (by decide) ?_
        refine w_iload dX6_init_72 rfl ?_
        refine w_isub dX6_init_74 ?_
        refine w_goto (t := 79) dX6_init_75 rfl ?_
        refine r_puti  dX6_init_79 ft_6_28 R5 rfl hus rfl (lb rfl) (fun _ => ⟨rfl, rfl⟩) rfl rfl (fun G8 R8 => ?_)
        refine w_aload_n dX6_init_82 rfl ?_
        refine w_iload dX6_init_83 rfl ?_
        refine w_if_eq (t := 96) dX6_init_85 rfl (fun _ => ?_) (fun h => absurd (by decide) h)
        refine w_iconst (v := (-1)) dX6_init_96 (by decide) ?_
        refine r_puti  dX6_init_97 ft_6_31 R8 rfl hus rfl (lb rfl) (fun _ => ⟨rfl, rfl⟩) rfl rfl (fun G9 R9 => ?_)
        refine w_ret dX6_init_100 rfl ?_
        have m10 : (-10 : Int32).toInt = -10 := by decide
        have m2 : (-2 : Int32).toInt = -2 := by decide
        refine q _ _ R9 ?_ ⟨hus, rfl⟩ ⟨?_, ?_, ?_, ?_, ?_, ?_, ?_⟩
        · refine efr.X (efr.X (efr.X (efr.X (efr.X (efr.X (efr.X (efr.rf s _) ⟨rfl, rfl⟩) ⟨rfl, rfl⟩) ⟨rfl, rfl⟩) ⟨rfl, rfl⟩) ⟨rfl, rfl⟩) ⟨rfl, rfl⟩) ⟨rfl, rfl⟩
        · rw [sX_p (by omega), sX_p (by omega), sX_p (by omega), sX_p (by omega), sX_p (by omega), sX_p (by omega), sX_s]
        · rw [sX_p (by omega), sX_p (by omega), sX_p (by omega), sX_p (by omega), sX_p (by omega), sX_s]
        · rw [sX_p (by omega), sX_p (by omega), sX_p (by omega), sX_p (by omega), sX_s]; rfl
        · rw [sX_p (by omega), sX_p (by omega), sX_p (by omega), sX_s]
        · rw [sX_p (by omega), sX_p (by omega), sX_s]
        · rw [sX_p (by omega), sX_s]
          unfold stI; rw [if_neg (by omega), if_pos (by omega)]
        · rw [sX_s]
          unfold spI; rw [if_neg (by omega)]
    ·
      refine w_iconst (v := 1) dX6_init_38 (by decide) ?_
      refine w_goto (t := 43) dX6_init_39 rfl ?_
      refine w_istore dX6_init_43 (lb rfl) ?_
      refine w_iload dX6_init_45 rfl ?_
      refine w_if_ne (t := 61) dX6_init_47 rfl (fun _ => ?_) (fun h => absurd (by decide) h)
      refine w_iconst (v := 0) dX6_init_61 (by decide) ?_
      refine w_istore dX6_init_62 (lb rfl) ?_
      refine w_aload_n dX6_init_64 rfl ?_
      refine w_iload dX6_init_65 rfl ?_
      refine w_if_eq (t := 78) dX6_init_67 rfl (fun _ => ?_) (fun h => absurd (by decide) h)
      refine w_iconst (v := (-1)) dX6_init_78 (by decide) ?_
      refine r_puti  dX6_init_79 ft_6_28 R5 rfl hus rfl (lb rfl) (fun _ => ⟨rfl, rfl⟩) rfl rfl (fun G10 R10 => ?_)
      refine w_aload_n dX6_init_82 rfl ?_
      refine w_iload dX6_init_83 rfl ?_
      refine w_if_eq (t := 96) dX6_init_85 rfl (fun h => absurd h (by decide)) (fun _ => ?_)
      refine w_bipush (v := (-10)) dX6_init_88 (by decide) ?_
      refine w_iload dX6_init_90 rfl ?_
      refine w_isub dX6_init_92 ?_
      refine w_goto (t := 97) dX6_init_93 rfl ?_
      refine r_puti  dX6_init_97 ft_6_31 R10 rfl hus rfl (lb rfl) (fun _ => ⟨rfl, rfl⟩) rfl rfl (fun G11 R11 => ?_)
      refine w_ret dX6_init_100 rfl ?_
      have m10 : (-10 : Int32).toInt = -10 := by decide
      have m2 : (-2 : Int32).toInt = -2 := by decide
      refine q _ _ R11 ?_ ⟨hus, rfl⟩ ⟨?_, ?_, ?_, ?_, ?_, ?_, ?_⟩
      · refine efr.X (efr.X (efr.X (efr.X (efr.X (efr.X (efr.X (efr.rf s _) ⟨rfl, rfl⟩) ⟨rfl, rfl⟩) ⟨rfl, rfl⟩) ⟨rfl, rfl⟩) ⟨rfl, rfl⟩) ⟨rfl, rfl⟩) ⟨rfl, rfl⟩
      · rw [sX_p (by omega), sX_p (by omega), sX_p (by omega), sX_p (by omega), sX_p (by omega), sX_p (by omega), sX_s]
      · rw [sX_p (by omega), sX_p (by omega), sX_p (by omega), sX_p (by omega), sX_p (by omega), sX_s]
      · rw [sX_p (by omega), sX_p (by omega), sX_p (by omega), sX_p (by omega), sX_s]; rfl
      · rw [sX_p (by omega), sX_p (by omega), sX_p (by omega), sX_s]
      · rw [sX_p (by omega), sX_p (by omega), sX_s]
      · rw [sX_p (by omega), sX_s]
        unfold stI; rw [if_pos (by omega)]
      · rw [sX_s]
        unfold spI; rw [if_pos (by omega)]
  | some j =>
    refine w_aload_n dX6_init_0 rfl ?_
    refine w_obj dX6_init_1 mt_6_3 (lb rfl) (lb rfl) (lb rfl) ?_
    refine w_aload_n dX6_init_4 rfl ?_
    refine w_iload_n dX6_init_5 rfl ?_
    refine r_puti  dX6_init_6 ft_6_9 R rfl hus rfl (lb rfl) (fun _ => ⟨rfl, rfl⟩) rfl rfl (fun G1 R1 => ?_)
    refine w_aload_n dX6_init_9 rfl ?_
    refine w_iload_n dX6_init_10 rfl ?_
    refine r_puti  dX6_init_11 ft_6_15 R1 rfl hus rfl (lb rfl) (fun _ => ⟨rfl, rfl⟩) rfl rfl (fun G2 R2 => ?_)
    refine w_aload_n dX6_init_14 rfl ?_
    refine w_aload_n dX6_init_15 rfl ?_
    refine r_putr  dX6_init_16 ft_6_18 R2 rfl hus rfl (lb rfl) (fun _ => ⟨rfl, rfl⟩) rfl rfl rfl (ho j rfl) (fun G3 R3 => ?_)
    refine w_aload_n dX6_init_19 rfl ?_
    refine w_iload dX6_init_20 rfl ?_
    refine r_puti  dX6_init_22 ft_6_22 R3 rfl hus rfl (lb rfl) (fun _ => ⟨rfl, rfl⟩) rfl rfl (fun G4 R4 => ?_)
    refine w_aload_n dX6_init_25 rfl ?_
    refine w_iload dX6_init_26 rfl ?_
    refine r_puti  dX6_init_28 ft_6_25 R4 rfl hus rfl (lb rfl) (fun _ => ⟨rfl, rfl⟩) rfl rfl (fun G5 R5 => ?_)
    refine w_iload dX6_init_31 rfl ?_
    refine w_bipush (v := (-10)) dX6_init_33 (by decide) ?_
    refine r_icmp_gti (t := 42) dX6_init_35 rfl (fun h35 => ?_) (fun h35 => ?_)
    ·
      refine w_iconst (v := 0) dX6_init_42 (by decide) ?_
      refine w_istore dX6_init_43 (lb rfl) ?_
      refine w_iload dX6_init_45 rfl ?_
      refine w_if_ne (t := 61) dX6_init_47 rfl (fun h => absurd h (by decide)) (fun _ => ?_)
      refine w_iload dX6_init_50 rfl ?_
      refine w_bipush (v := (-2)) dX6_init_52 (by decide) ?_
      refine r_icmp_gti (t := 61) dX6_init_54 rfl (fun h54 => ?_) (fun h54 => ?_)
      ·
        refine w_iconst (v := 0) dX6_init_61 (by decide) ?_
        refine w_istore dX6_init_62 (lb rfl) ?_
        refine w_aload_n dX6_init_64 rfl ?_
        refine w_iload dX6_init_65 rfl ?_
        refine w_if_eq (t := 78) dX6_init_67 rfl (fun _ => ?_) (fun h => absurd (by decide) h)
        refine w_iconst (v := (-1)) dX6_init_78 (by decide) ?_
        refine r_puti  dX6_init_79 ft_6_28 R5 rfl hus rfl (lb rfl) (fun _ => ⟨rfl, rfl⟩) rfl rfl (fun G6 R6 => ?_)
        refine w_aload_n dX6_init_82 rfl ?_
        refine w_iload dX6_init_83 rfl ?_
        refine w_if_eq (t := 96) dX6_init_85 rfl (fun _ => ?_) (fun h => absurd (by decide) h)
        refine w_iconst (v := (-1)) dX6_init_96 (by decide) ?_
        refine r_puti  dX6_init_97 ft_6_31 R6 rfl hus rfl (lb rfl) (fun _ => ⟨rfl, rfl⟩) rfl rfl (fun G7 R7 => ?_)
        refine w_ret dX6_init_100 rfl ?_
        have m10 : (-10 : Int32).toInt = -10 := by decide
        have m2 : (-2 : Int32).toInt = -2 := by decide
        refine q _ _ R7 ?_ ⟨hus, rfl⟩ ⟨?_, ?_, ?_, ?_, ?_, ?_, ?_⟩
        · refine efr.X (efr.X (efr.X (efr.X (efr.X (efr.X (efr.X (efr.rf s _) ⟨rfl, rfl⟩) ⟨rfl, rfl⟩) ⟨rfl, rfl⟩) ⟨rfl, rfl⟩) ⟨rfl, rfl⟩) ⟨rfl, rfl⟩) ⟨rfl, rfl⟩
        · rw [sX_p (by omega), sX_p (by omega), sX_p (by omega), sX_p (by omega), sX_p (by omega), sX_p (by omega), sX_s]
        · rw [sX_p (by omega), sX_p (by omega), sX_p (by omega), sX_p (by omega), sX_p (by omega), sX_s]
        · rw [sX_p (by omega), sX_p (by omega), sX_p (by omega), sX_p (by omega), sX_s]; rfl
        · rw [sX_p (by omega), sX_p (by omega), sX_p (by omega), sX_s]
        · rw [sX_p (by omega), sX_p (by omega), sX_s]
        · rw [sX_p (by omega), sX_s]
          unfold stI; rw [if_neg (by omega), if_neg (by omega)]
        · rw [sX_s]
          unfold spI; rw [if_neg (by omega)]
      ·
        refine w_iconst (v := 1) dX6_init_57 (by decide) ?_
        refine w_goto (t := 62) dX6_init_58 rfl ?_
        refine w_istore dX6_init_62 (lb rfl) ?_
        refine w_aload_n dX6_init_64 rfl ?_
        refine w_iload dX6_init_65 rfl ?_
        refine w_if_eq (t := 78) dX6_init_67 rfl (fun h => absurd h (by decide)) (fun _ => ?_)
        refine w_bipush (v := (-2)) dX6_init_70 (by decide) ?_
        refine w_iload dX6_init_72 rfl ?_
        refine w_isub dX6_init_74 ?_
        refine w_goto (t := 79) dX6_init_75 rfl ?_
        refine r_puti  dX6_init_79 ft_6_28 R5 rfl hus rfl (lb rfl) (fun _ => ⟨rfl, rfl⟩) rfl rfl (fun G8 R8 => ?_)
        refine w_aload_n dX6_init_82 rfl ?_
        refine w_iload dX6_init_83 rfl ?_
        refine w_if_eq (t := 96) dX6_init_85 rfl (fun _ => ?_) (fun h => absurd (by decide) h)
        refine w_iconst (v := (-1)) dX6_init_96 (by decide) ?_
        refine r_puti  dX6_init_97 ft_6_31 R8 rfl hus rfl (lb rfl) (fun _ => ⟨rfl, rfl⟩) rfl rfl (fun G9 R9 => ?_)
        refine w_ret dX6_init_100 rfl ?_
        have m10 : (-10 : Int32).toInt = -10 := by decide
        have m2 : (-2 : Int32).toInt = -2 := by decide
        refine q _ _ R9 ?_ ⟨hus, rfl⟩ ⟨?_, ?_, ?_, ?_, ?_, ?_, ?_⟩
        · refine efr.X (efr.X (efr.X (efr.X (efr.X (efr.X (efr.X (efr.rf s _) ⟨rfl, rfl⟩) ⟨rfl, rfl⟩) ⟨rfl, rfl⟩) ⟨rfl, rfl⟩) ⟨rfl, rfl⟩) ⟨rfl, rfl⟩) ⟨rfl, rfl⟩
        · rw [sX_p (by omega), sX_p (by omega), sX_p (by omega), sX_p (by omega), sX_p (by omega), sX_p (by omega), sX_s]
        · rw [sX_p (by omega), sX_p (by omega), sX_p (by omega), sX_p (by omega), sX_p (by omega), sX_s]
        · rw [sX_p (by omega), sX_p (by omega), sX_p (by omega), sX_p (by omega), sX_s]; rfl
        · rw [sX_p (by omega), sX_p (by omega), sX_p (by omega), sX_s]
        · rw [sX_p (by omega), sX_p (by omega), sX_s]
        · rw [sX_p (by omega), sX_s]
          unfold stI; rw [if_neg (by omega), if_pos (by omega)]
        · rw [sX_s]
          unfold spI; rw [if_neg (by omega)]
    ·
      refine w_iconst (v := 1) dX6_init_38 (by decide) ?_
      refine w_goto (t := 43) dX6_init_39 rfl ?_
      refine w_istore dX6_init_43 (lb rfl) ?_
      refine w_iload dX6_init_45 rfl ?_
      refine w_if_ne (t := 61) dX6_init_47 rfl (fun _ => ?_) (fun h => absurd (by decide) h)
      refine w_iconst (v := 0) dX6_init_61 (by decide) ?_
      refine w_istore dX6_init_62 (lb rfl) ?_
      refine w_aload_n dX6_init_64 rfl ?_
      refine w_iload dX6_init_65 rfl ?_
      refine w_if_eq (t := 78) dX6_init_67 rfl (fun _ => ?_) (fun h => absurd (by decide) h)
      refine w_iconst (v := (-1)) dX6_init_78 (by decide) ?_
      refine r_puti  dX6_init_79 ft_6_28 R5 rfl hus rfl (lb rfl) (fun _ => ⟨rfl, rfl⟩) rfl rfl (fun G10 R10 => ?_)
      refine w_aload_n dX6_init_82 rfl ?_
      refine w_iload dX6_init_83 rfl ?_
      refine w_if_eq (t := 96) dX6_init_85 rfl (fun h => absurd h (by decide)) (fun _ => ?_)
      refine w_bipush (v := (-10)) dX6_init_88 (by decide) ?_
      refine w_iload dX6_init_90 rfl ?_
      refine w_isub dX6_init_92 ?_
      refine w_goto (t := 97) dX6_init_93 rfl ?_
      refine r_puti  dX6_init_97 ft_6_31 R10 rfl hus rfl (lb rfl) (fun _ => ⟨rfl, rfl⟩) rfl rfl (fun G11 R11 => ?_)
      refine w_ret dX6_init_100 rfl ?_
      have m10 : (-10 : Int32).toInt = -10 := by decide
      have m2 : (-2 : Int32).toInt = -2 := by decide
      refine q _ _ R11 ?_ ⟨hus, rfl⟩ ⟨?_, ?_, ?_, ?_, ?_, ?_, ?_⟩
      · refine efr.X (efr.X (efr.X (efr.X (efr.X (efr.X (efr.X (efr.rf s _) ⟨rfl, rfl⟩) ⟨rfl, rfl⟩) ⟨rfl, rfl⟩) ⟨rfl, rfl⟩) ⟨rfl, rfl⟩) ⟨rfl, rfl⟩) ⟨rfl, rfl⟩
      · rw [sX_p (by omega), sX_p (by omega), sX_p (by omega), sX_p (by omega), sX_p (by omega), sX_p (by omega), sX_s]
      · rw [sX_p (by omega), sX_p (by omega), sX_p (by omega), sX_p (by omega), sX_p (by omega), sX_s]
      · rw [sX_p (by omega), sX_p (by omega), sX_p (by omega), sX_p (by omega), sX_s]; rfl
      · rw [sX_p (by omega), sX_p (by omega), sX_p (by omega), sX_s]
      · rw [sX_p (by omega), sX_p (by omega), sX_s]
      · rw [sX_p (by omega), sX_s]
        unfold stI; rw [if_pos (by omega)]
      · rw [sX_s]
        unfold spI; rw [if_pos (by omega)]
theorem c4_init (R : rx_R b0 O z1 z2 s G) {k i y t : Nat} (hus : rU s 25 k = true) (hui : rU s 20 i = true) (huy : rU s 24 y = true) {z a : Int32} (q : ∀ s' G', rx_R b0 O z1 z2 s' G' → efr s s' (fun r i => r = 25 ∧ i = k) → (rU s' 25 k = true ∧ rA s' 25 k = rA s 25 k) → (rX s' 25 k 0 = .inr (20, i) ∧ rX s' 25 k 1 = .inl (.int z) ∧ rX s' 25 k 2 = .inl (.ref (E t)) ∧ rX s' 25 k 3 = .inr (24, y) ∧ rX s' 25 k 4 = .inl (.int a)) → Q (.inl none) G') : mx_W (gt_P b0 mi E) mX4_init 0 (mx_en 0 [.ref (rA s 25 k), .ref (rA s 20 i), .int z, .ref (E t), .ref (rA s 24 y), .int a]) [] G Q := by
  refine w_aload_n dX4_init_0 rfl ?_
  refine w_obj dX4_init_1 mt_4_3 (lb rfl) (lb rfl) (lb rfl) ?_
  refine w_aload_n dX4_init_4 rfl ?_
  refine w_iconst (v := (-1)) dX4_init_5 (by decide) ?_
  refine r_puti  dX4_init_6 ft_4_9 R rfl hus rfl (lb rfl) (fun h => by cases h) rfl rfl (fun G1 R1 => ?_)
  refine w_aload_n dX4_init_9 rfl ?_
  refine w_aload_n dX4_init_10 rfl ?_
  refine r_putr  dX4_init_11 ft_4_15 R1 rfl hus rfl (lb rfl) (fun _ => ⟨rfl, rfl⟩) rfl rfl rfl hui (fun G2 R2 => ?_)
  refine w_aload_n dX4_init_14 rfl ?_
  refine w_iload_n dX4_init_15 rfl ?_
  refine r_puti  dX4_init_16 ft_4_19 R2 rfl hus rfl (lb rfl) (fun _ => ⟨rfl, rfl⟩) rfl rfl (fun G3 R3 => ?_)
  refine w_aload_n dX4_init_19 rfl ?_
  refine w_aload_n dX4_init_20 rfl ?_
  refine r_puti  dX4_init_21 ft_4_22 R3 rfl hus rfl (lb rfl) (fun _ => ⟨rfl, rfl⟩) rfl rfl (fun G4 R4 => ?_)
  refine w_aload_n dX4_init_24 rfl ?_
  refine w_aload dX4_init_25 rfl ?_
  refine r_putr  dX4_init_27 ft_4_26 R4 rfl hus rfl (lb rfl) (fun _ => ⟨rfl, rfl⟩) rfl rfl rfl huy (fun G5 R5 => ?_)
  refine w_aload_n dX4_init_30 rfl ?_
  refine w_iload dX4_init_31 rfl ?_
  refine r_puti  dX4_init_33 ft_4_30 R5 rfl hus rfl (lb rfl) (fun _ => ⟨rfl, rfl⟩) rfl rfl (fun G6 R6 => ?_)
  refine w_ret dX4_init_36 rfl ?_
  refine q _ _ R6 ?_ ⟨hus, rfl⟩ ⟨?_, ?_, ?_, ?_, ?_⟩
  · refine efr.X (efr.X (efr.X (efr.X (efr.X (efr.X (efr.rf s _) ⟨rfl, rfl⟩) ⟨rfl, rfl⟩) ⟨rfl, rfl⟩) ⟨rfl, rfl⟩) ⟨rfl, rfl⟩) ⟨rfl, rfl⟩
  · rw [sX_p (by omega), sX_p (by omega), sX_p (by omega), sX_p (by omega), sX_s]
  · rw [sX_p (by omega), sX_p (by omega), sX_p (by omega), sX_s]
  · rw [sX_p (by omega), sX_p (by omega), sX_s]
  · rw [sX_p (by omega), sX_s]
  · rw [sX_s]
end
