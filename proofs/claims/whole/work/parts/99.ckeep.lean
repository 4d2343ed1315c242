/-! ===== The class keeps ===== -/
def wK (r f : Nat) : Bool := (Nat.beq r 20 && (Nat.beq f 12 || Nat.beq f 13)) || (Nat.beq r 8 || Nat.beq r 9)
def kf (s s' : rx_S) : Prop := rA s' = rA s ∧ tfr s s' ∧ OWN s' ∧ (∀ r f i, wK r f = false → rX s' r i f = rX s r i f) ∧ (∀ i, rI s' 10 i = rI s 10 i ∧ rL s' 10 i = rL s 10 i ∧ rQ s' 10 i = rQ s 10 i)
theorem kf.rf {s : rx_S} (h : OWN s) : kf s s := ⟨rfl, tfr.rf s, h, fun _ _ _ _ => rfl, fun _ => ⟨rfl, rfl, rfl⟩⟩
theorem kf.tr {s s' s'' : rx_S} (h : kf s s') (h' : kf s' s'') : kf s s'' := ⟨h'.1.trans h.1, h.2.1.tr h'.2.1, h'.2.2.1, fun r f i e => (h'.2.2.2.1 r f i e).trans (h.2.2.2.1 r f i e), fun i => ⟨(h'.2.2.2.2 i).1.trans (h.2.2.2.2 i).1, (h'.2.2.2.2 i).2.1.trans (h.2.2.2.2 i).2.1, (h'.2.2.2.2 i).2.2.trans (h.2.2.2.2 i).2.2⟩⟩
theorem kf.inn {s s' : rx_S} (h : kf s s') (hS : rx_in s) : rx_in s' := fun r i e => h.2.1.2.1 r i (hS r i e)
theorem kf.X {s s' : rx_S} (h : kf s s') {i f : Nat} {v : rx_V} (hf : f = 12 ∨ f = 13) : kf s (sX s' 20 i f v) := by
  refine ⟨h.1, h.2.1.X (by rcases hf with rfl | rfl <;> rfl), OWN_X h.2.2.1 (by omega) (by omega), fun r' f' i' e => (sX_p (fun q => ?_)).trans (h.2.2.2.1 r' f' i' e), h.2.2.2.2⟩
  rw [q.1, q.2.2] at e
  rcases hf with rfl | rfl <;> cases e
/-- a list's growth or end is such a change, if it is the rows' -/
theorem kf.l {b0 z1 z2 : Nat} {O : Nat → Option mx_C} {s s' s'' : rx_S} {G : mx_H} (h : kf s s') (hS : rx_in s') (R : rx_R b0 O z1 z2 s' G) (l : lfr s' s'' 8 3) : kf s s'' := by
  have ho := OWN_lfr h.2.2.1 R (Or.inl rfl) l (hS _ _ rfl)
  obtain ⟨l1, l2, l3, l4, l5, l6, l7, l8⟩ := l
  refine h.tr ⟨l1, ⟨l1, l5, fun r i e => (l6 r i e).1, fun r f i e => ?_, fun r i _ => by rw [l2], fun r i _ => by rw [l3], fun i => (l6 23 i (by omega)).2.2, fun r i a e u x => ?_⟩, ho, fun r f i e => ?_, fun i => ⟨by rw [l2], by rw [l3], (l6 10 i (by omega)).2.1⟩⟩
  · refine l4 r i f (fun q => by rw [q] at e; cases e) (fun q => by rw [q.1, q.2] at e; cases e)
  · refine l7 a (R.2.2.1 r i 1 (9, a) u x) (fun y => ?_)
    have := h.2.2.1 r i 8 3 a (by omega) (Or.inl rfl) u (hS _ _ rfl) x y
    omega
  · refine l4 r i f (fun q => by rw [q] at e; revert e; unfold wK; simp) (fun q => by rw [q.1] at e; revert e; unfold wK; simp)
theorem rLS_congr {E6 : Nat} {s : rx_S} {r i n : Nat} {f g : Nat → Nat × Nat} (h : rLS E6 s r i n f) (e : ∀ j, j < n → f j = g j) : rLS E6 s r i n g := by
  obtain ⟨h1, h2, h3, h4⟩ := h
  refine ⟨h1, h2, fun j hj => by rw [← e j hj]; exact h3 j hj, ?_⟩
  rcases h4 with h4 | ⟨a, b1, b2, b3, b4, b5, b6, b7⟩
  · exact Or.inl h4
  · exact Or.inr ⟨a, b1, b2, b3, b4, b5, fun j hj => by rw [← e j hj]; exact b6 j hj, b7⟩
def KC (E : Nat → Nat) (s : rx_S) (τ : tx_T) (Q : kQ) : Prop := rLS (E 6) s 8 3 Q.length (fun i => (20, (Q.getD i (0, 0)).1)) ∧ (∀ x, x < tN τ 1 → rX s 20 x 12 = .inl (.int (krk Q x))) ∧ (∀ x, x < tN τ 1 → rX s 20 x 13 = oV (kbO Q x))
def HL (s : rx_S) (τ : tx_T) : Prop := ∀ a, a < tN τ 1 → rX s 20 a 11 = .inl (.int (b32 (lostB τ a)))
theorem HL_kf {s s' : rx_S} {τ : tx_T} (h : HL s τ) (f : kf s s') : HL s' τ := fun a ha => (f.2.2.2.1 20 11 a rfl).trans (h a ha)
theorem NC_kf {s s' : rx_S} {τ : tx_T} (h : NC s τ) (f : kf s s') : NC s' τ := ⟨HL_kf h.1 f, fun m hm => by rw [(f.2.2.2.2 3).2.2]; exact h.2.1 m hm, fun j hj => ⟨(f.2.2.2.1 24 7 j rfl).trans (h.2.2 j hj).1, (f.2.2.2.1 24 8 j rfl).trans (h.2.2 j hj).2⟩⟩
theorem CT_kf {E : Nat → Nat} {s s' : rx_S} {τ : tx_T} {Q : kQ} (h : CT E s τ) (hS : rx_in s) (f : kf s s') (hK : KC E s' τ Q) (hl : Q.length ≤ 60) : CT E s' τ := CT_tfr h hS f.2.1 f.2.2.1 ⟨_, _, hl, hK.1⟩
section
variable {b0 mi z1 z2 : Nat} {E : Nat → Nat} {O : Nat → Option mx_C} {s : rx_S} {G : mx_H} {Q : mx_O → mx_H → Prop}
theorem c1_admit0 {a : Nat} {v : Value} (q : Q (.inl none) G) : mx_W (gt_P b0 mi E) mX1_admit 0 (mx_en 0 [.ref a, .null, v]) [] G Q := by
  refine w_aload_nN dX1_admit_0 rfl ?_
  refine r_nullT (t := 43) dX1_admit_1 rfl ?_
  exact w_ret dX1_admit_43 rfl q
theorem c1_admit {Q9 : kQ} (R : rx_R b0 O (z1 + Q9.length) (z2 + 100 * Q9.length) s G) (hS : rx_in s) {τ : tx_T} (hT : CT E s τ) (hV : TV τ) (hE : WE b0 O E) (hL : HL s τ) (hK : KC E s τ Q9) (hv : kV τ Q9) {x : Nat} (hx : x < tN τ 1) {o : Option Nat} (ho : ∀ j, o = some j → j < tN τ 1) (q : ∀ s' G', rx_R b0 O (z1 + (kadd τ Q9 x (oI o)).length) (z2 + 100 * (kadd τ Q9 x (oI o)).length) s' G' → kf s s' → KC E s' τ (kadd τ Q9 x (oI o)) → Q (.inl none) G')  : mx_W (gt_P b0 mi E) mX1_admit 0 (mx_en 0 [.ref (rA s 5 0), .ref (rA s 20 x), rx_v (rA s) (oV o)]) [] G Q := by
  have hlen := kV_len hv
  have hV0 := hV.1
  have hus := cT_Su hT hx
  obtain ⟨⟨h6, c6, hO6⟩, _⟩ := id hE
  cases o with
  | none =>
    refine w_aload_n dX1_admit_0 rfl ?_
    refine r_nullF (t := 43) dX1_admit_1 rfl ?_
    refine w_aload_n dX1_admit_4 rfl ?_
    refine r_geti  dX1_admit_5 ft_1_85 R rfl hus rfl (lb rfl) (hL x hx) ?_
    refine r_if_neP (t := 43) dX1_admit_8 rfl (fun h8 => ?_) (fun h8 => ?_)
    ·
      refine w_ret dX1_admit_43 rfl ?_
      rw [kadd_no (Or.inr (b32_ne h8))] at q; exact q _ _ R (kf.rf hT.2.2.2.1) hK
    ·
      refine w_aload_n dX1_admit_11 rfl ?_
      refine r_inv0  dX1_admit_12 mt_1_72 R rfl hus rfl (lb rfl) (lb rfl) (lb rfl) (lb rfl) rfl (c5_isKept R hus (hK.2.1 x hx) (fun e12 => ⟨_, rfl, ?_⟩) (fun e12 => ⟨_, rfl, ?_⟩))
      ·
        refine w_if_ne (t := 43) dX1_admit_15 rfl (fun _ => ?_) (fun h => absurd (by decide) h)
        refine w_ret dX1_admit_43 rfl ?_
        rw [kadd_no (Or.inl (by cases ek : kin Q9 x with | true => rfl | false => exact absurd ((krk_kin (by omega) x).mpr ek) e12))] at q; exact q _ _ R (kf.rf hT.2.2.2.1) hK
      ·
        refine w_if_ne (t := 43) dX1_admit_15 rfl (fun h => absurd h (by decide)) (fun _ => ?_)
        have hk0 : kin Q9 x = false := (krk_kin (by omega) x).mp (Classical.not_not.mp e12)
        have hl0 : lostB τ x = false := b32_eq h8
        rw [kadd_yes hk0 hl0] at q
        have fk : kf s (sX (sX s 20 x 12 (.inl (.int (nI Q9.length)))) 20 x 13 (.inl .null)) := ((kf.rf hT.2.2.2.1).X (Or.inl rfl)).X (Or.inr rfl)
        refine w_aload_n dX1_admit_18 rfl ?_
        refine w_aload_n dX1_admit_19 rfl ?_
        refine r_getr  dX1_admit_20 ft_1_12 R rfl (hS _ _ rfl) rfl (lb rfl) (cT_s hT 5 0 rfl) ?_
        refine r_inv0  dX1_admit_23 mt_1_51 R rfl (hS _ _ rfl) rfl (lb rfl) (lb rfl) (lb rfl) (lb rfl) rfl (c_lsize R rfl (hS _ _ rfl) hK.1.2.1 ⟨_, rfl, ?_⟩)
        refine r_puti  dX1_admit_26 ft_1_92 R rfl hus rfl (lb rfl) (fun h => by cases h) rfl rfl (fun G1 R1 => ?_)
        refine w_aload_n dX1_admit_29 rfl ?_
        refine w_aload_nN dX1_admit_30 rfl ?_
        refine r_puti  dX1_admit_31 ft_1_95 R1 rfl hus rfl (lb rfl) (fun h => by cases h) rfl rfl (fun G2 R2 => ?_)
        refine w_aload_n dX1_admit_34 rfl ?_
        refine r_getr  dX1_admit_35 ft_1_12 R2 rfl (hS _ _ rfl) rfl (lb rfl) (cT_s hT 5 0 rfl) ?_
        have Rb := R2
        refine w_aload_n dX1_admit_38 rfl ?_
        refine r_inv1 (r := 8) (i := 3) dX1_admit_39 mt_1_101 R2 rfl (hS 8 3 rfl) rfl (lb rfl) (lb rfl) (lb rfl) (lb rfl) rfl (c_ladd (s := (sX (sX s 20 x 12 (.inl (.int (nI Q9.length)))) 20 x 13 (.inl .null))) (r := 8) (i := 3) R2 rfl (hS 8 3 rfl) (rLS_X (rLS_X hK.1 (by omega)) (by omega)) (by omega) (e := (20, x)) hus (Or.inl rfl) h6 hO6 (fun s3 G3 R3 l3 r3 => ⟨_, rfl, ?_⟩))
        refine w_pop dX1_admit_42 rfl ?_
        refine w_ret dX1_admit_43 rfl ?_
        refine q _ _ (rx_w R3 (by rw [List.length_append]; exact Nat.le_refl _) (by rw [List.length_append]; show _ ≤ z2 + 100 * (Q9.length + 1); omega)) (fk.l hS Rb l3) ⟨?_, fun y hy => ?_, fun y hy => ?_⟩
        · rw [List.length_append]
          refine rLS_congr r3 (fun i hi => ?_)
          have hi2 : i < Q9.length + 1 := hi
          by_cases e : i = Q9.length
          · rw [if_pos e, e]; simp [List.getD]
          · rw [if_neg e]
            have : (Q9 ++ [(x, oI none)]).getD i (0, 0) = Q9.getD i (0, 0) := by
              simp only [List.getD]; rw [List.getElem?_append_left (by omega)]
            rw [this]
        · refine (l3.2.2.2.1 20 y 12 (by omega) (by omega)).trans ?_
          rw [krk_app y hk0]
          by_cases e : y = x
          · rw [if_pos e, e]; exact (sX_p (by omega)).trans sX_s
          · rw [if_neg e]; exact (sX_p (by omega)).trans ((sX_p (by omega)).trans (hK.2.1 y hy))
        · refine (l3.2.2.2.1 20 y 13 (by omega) (by omega)).trans ?_
          rw [kbO_app y hk0 (fun j hj => by have := ho j hj; omega)]
          by_cases e : y = x
          · rw [if_pos e, e]; exact sX_s
          · rw [if_neg e]; exact (sX_p (by omega)).trans ((sX_p (by omega)).trans (hK.2.2 y hy))
  | some j =>
    refine w_aload_n dX1_admit_0 rfl ?_
    refine r_nullF (t := 43) dX1_admit_1 rfl ?_
    refine w_aload_n dX1_admit_4 rfl ?_
    refine r_geti  dX1_admit_5 ft_1_85 R rfl hus rfl (lb rfl) (hL x hx) ?_
    refine r_if_neP (t := 43) dX1_admit_8 rfl (fun h8 => ?_) (fun h8 => ?_)
    ·
      refine w_ret dX1_admit_43 rfl ?_
      rw [kadd_no (Or.inr (b32_ne h8))] at q; exact q _ _ R (kf.rf hT.2.2.2.1) hK
    ·
      refine w_aload_n dX1_admit_11 rfl ?_
      refine r_inv0  dX1_admit_12 mt_1_72 R rfl hus rfl (lb rfl) (lb rfl) (lb rfl) (lb rfl) rfl (c5_isKept R hus (hK.2.1 x hx) (fun e12 => ⟨_, rfl, ?_⟩) (fun e12 => ⟨_, rfl, ?_⟩))
      ·
        refine w_if_ne (t := 43) dX1_admit_15 rfl (fun _ => ?_) (fun h => absurd (by decide) h)
        refine w_ret dX1_admit_43 rfl ?_
        rw [kadd_no (Or.inl (by cases ek : kin Q9 x with | true => rfl | false => exact absurd ((krk_kin (by omega) x).mpr ek) e12))] at q; exact q _ _ R (kf.rf hT.2.2.2.1) hK
      ·
        refine w_if_ne (t := 43) dX1_admit_15 rfl (fun h => absurd h (by decide)) (fun _ => ?_)
        have hk0 : kin Q9 x = false := (krk_kin (by omega) x).mp (Classical.not_not.mp e12)
        have hl0 : lostB τ x = false := b32_eq h8
        rw [kadd_yes hk0 hl0] at q
        have fk : kf s (sX (sX s 20 x 12 (.inl (.int (nI Q9.length)))) 20 x 13 (.inr (20, j))) := ((kf.rf hT.2.2.2.1).X (Or.inl rfl)).X (Or.inr rfl)
        refine w_aload_n dX1_admit_18 rfl ?_
        refine w_aload_n dX1_admit_19 rfl ?_
        refine r_getr  dX1_admit_20 ft_1_12 R rfl (hS _ _ rfl) rfl (lb rfl) (cT_s hT 5 0 rfl) ?_
        refine r_inv0  dX1_admit_23 mt_1_51 R rfl (hS _ _ rfl) rfl (lb rfl) (lb rfl) (lb rfl) (lb rfl) rfl (c_lsize R rfl (hS _ _ rfl) hK.1.2.1 ⟨_, rfl, ?_⟩)
        refine r_puti  dX1_admit_26 ft_1_92 R rfl hus rfl (lb rfl) (fun h => by cases h) rfl rfl (fun G1 R1 => ?_)
        refine w_aload_n dX1_admit_29 rfl ?_
        refine w_aload_n dX1_admit_30 rfl ?_
        refine r_putr  dX1_admit_31 ft_1_95 R1 rfl hus rfl (lb rfl) (fun h => by cases h) rfl rfl rfl (cT_Su hT (ho j rfl)) (fun G2 R2 => ?_)
        refine w_aload_n dX1_admit_34 rfl ?_
        refine r_getr  dX1_admit_35 ft_1_12 R2 rfl (hS _ _ rfl) rfl (lb rfl) (cT_s hT 5 0 rfl) ?_
        have Rb := R2
        refine w_aload_n dX1_admit_38 rfl ?_
        refine r_inv1 (r := 8) (i := 3) dX1_admit_39 mt_1_101 R2 rfl (hS 8 3 rfl) rfl (lb rfl) (lb rfl) (lb rfl) (lb rfl) rfl (c_ladd (s := (sX (sX s 20 x 12 (.inl (.int (nI Q9.length)))) 20 x 13 (.inr (20, j)))) (r := 8) (i := 3) R2 rfl (hS 8 3 rfl) (rLS_X (rLS_X hK.1 (by omega)) (by omega)) (by omega) (e := (20, x)) hus (Or.inl rfl) h6 hO6 (fun s3 G3 R3 l3 r3 => ⟨_, rfl, ?_⟩))
        refine w_pop dX1_admit_42 rfl ?_
        refine w_ret dX1_admit_43 rfl ?_
        refine q _ _ (rx_w R3 (by rw [List.length_append]; exact Nat.le_refl _) (by rw [List.length_append]; show _ ≤ z2 + 100 * (Q9.length + 1); omega)) (fk.l hS Rb l3) ⟨?_, fun y hy => ?_, fun y hy => ?_⟩
        · rw [List.length_append]
          refine rLS_congr r3 (fun i hi => ?_)
          have hi2 : i < Q9.length + 1 := hi
          by_cases e : i = Q9.length
          · rw [if_pos e, e]; simp [List.getD]
          · rw [if_neg e]
            have : (Q9 ++ [(x, oI (some j))]).getD i (0, 0) = Q9.getD i (0, 0) := by
              simp only [List.getD]; rw [List.getElem?_append_left (by omega)]
            rw [this]
        · refine (l3.2.2.2.1 20 y 12 (by omega) (by omega)).trans ?_
          rw [krk_app y hk0]
          by_cases e : y = x
          · rw [if_pos e, e]; exact (sX_p (by omega)).trans sX_s
          · rw [if_neg e]; exact (sX_p (by omega)).trans ((sX_p (by omega)).trans (hK.2.1 y hy))
        · refine (l3.2.2.2.1 20 y 13 (by omega) (by omega)).trans ?_
          rw [kbO_app y hk0 (fun j hj => by have := ho j hj; omega)]
          by_cases e : y = x
          · rw [if_pos e, e]; exact sX_s
          · rw [if_neg e]; exact (sX_p (by omega)).trans ((sX_p (by omega)).trans (hK.2.2 y hy))
theorem c1_admitV {Q9 : kQ} (R : rx_R b0 O (z1 + Q9.length) (z2 + 100 * Q9.length) s G) (hS : rx_in s) {τ : tx_T} (hT : CT E s τ) (hV : TV τ) (hE : WE b0 O E) (hL : HL s τ) (hK : KC E s τ Q9) (hv : kV τ Q9) {o2 o : Option Nat} (ho2 : ∀ j, o2 = some j → j < tN τ 1) (ho : ∀ j, o = some j → j < tN τ 1) (q : ∀ s' G', rx_R b0 O (z1 + (kao τ Q9 o2 (oI o)).length) (z2 + 100 * (kao τ Q9 o2 (oI o)).length) s' G' → kf s s' → KC E s' τ (kao τ Q9 o2 (oI o)) → Q (.inl none) G') : mx_W (gt_P b0 mi E) mX1_admit 0 (mx_en 0 [.ref (rA s 5 0), rx_v (rA s) (oV o2), rx_v (rA s) (oV o)]) [] G Q := by
  cases o2 with
  | none => exact c1_admit0 (q _ _ R (kf.rf hT.2.2.2.1) hK)
  | some x => exact c1_admit R hS hT hV hE hL hK hv (ho2 x rfl) ho q
theorem c1_aset_l {s0 : rx_S} {τ : tx_T} (hT0 : CT E s0 τ) (hS0 : rx_in s0) (hV : TV τ) (hE : WE b0 O E) (hL0 : HL s0 τ) {Q0 : kQ} (hv0 : kV τ Q0) {x : Nat} (hx : x < tN τ 1) {v : Int32}  : ∀ (d : Nat) (t : Nat) (L : mx_L) (s : rx_S) (G : mx_H), tN τ 1 - t < d → rx_R b0 O (z1 + (kset τ Q0 x v t).length) (z2 + 100 * (kset τ Q0 x v t).length) s G → t ≤ tN τ 1 → kf s0 s → KC E s τ (kset τ Q0 x v t) → L 0 = some (.ref (rA s 5 0)) → L 1 = some (.int v) → L 2 = some (.ref (rA s 20 x)) → L 3 = some (.ref (rA s 8 0)) → L 4 = some (.int (nI t)) → (∀ s' G', rx_R b0 O (z1 + (kset τ Q0 x v (tN τ 1)).length) (z2 + 100 * (kset τ Q0 x v (tN τ 1)).length) s' G' → kf s0 s' → KC E s' τ (kset τ Q0 x v (tN τ 1)) → Q (.inl none) G') → mx_W (gt_P b0 mi E) mX1_admitSet 3 L [] G Q := by
  intro d
  induction d with
  | zero => intro t L s G hd; exact absurd hd (Nat.not_lt_zero _)
  | succ d ih =>
    intro t L s G hd R ht hf hK h0 h1v h2 h3 h4 kx
    have hV0 := hV.1
    have hv : kV τ (kset τ Q0 x v t) := kV_set hv0 ht
    have hlen := kV_len hv
    have hS := hf.inn hS0
    have hT := CT_kf hT0 hS0 hf hK (by omega)
    have hL := HL_kf hL0 hf
    refine w_iload dX1_admitSet_3 h4 ?_
    refine w_aload_n dX1_admitSet_5 h3 ?_
    refine r_inv0  dX1_admitSet_6 mt_1_51 R rfl (hS _ _ rfl) rfl (lb rfl) (lb rfl) (lb rfl) (lb rfl) rfl (c_lsize R rfl (hS _ _ rfl) (cT_l0 hT).2.1 ⟨_, rfl, ?_⟩)
    refine r_icmp_gen (t := 48) dX1_admitSet_9 rfl (by omega) (by omega) (fun h9 => ?_) (fun h9 => ?_)
    ·
      refine w_ret dX1_admitSet_48 rfl ?_
      obtain rfl : t = tN τ 1 := by omega
      exact kx _ _ R hf hK
    ·
      have htn : t < tN τ 1 := by omega
      refine w_aload_n dX1_admitSet_12 h3 ?_
      refine w_iload dX1_admitSet_13 h4 ?_
      refine r_inv1  dX1_admitSet_15 mt_1_55 R rfl (hS _ _ rfl) rfl (lb rfl) (lb rfl) (lb rfl) (lb rfl) rfl (c_lget R rfl (hS _ _ rfl) (cT_l0 hT) htn ⟨_, rfl, ?_⟩)
      refine r_cast dX1_admitSet_18 qt_1_59 R rfl (cT_Su hT htn) rfl (by decide) ?_
      refine r_geti  dX1_admitSet_21 ft_1_121 R rfl (cT_Su hT htn) rfl (lb rfl) (cT_S hT htn 9 rfl) ?_
      refine w_iload_n dX1_admitSet_24 h1v ?_
      refine r_icmp_neP (t := 42) dX1_admitSet_25 rfl (fun h25 => ?_) (fun h25 => ?_)
      ·
        refine w_iinc dX1_admitSet_42 h4 (nI_1 _) (lb rfl) ?_
        refine w_goto (t := 3) dX1_admitSet_45 rfl ?_
        have e9 : kset τ Q0 x v (t + 1) = kset τ Q0 x v t := by show (bif tT τ 9 t == v then _ else _) = _; rw [show (tT τ 9 t == v) = false from by simpa using h25]; rfl
        exact ih (t + 1) _ _ _ (by omega) (by rw [e9]; exact R) (by omega) hf (by rw [e9]; exact hK) h0 h1v h2 h3 rfl kx
      ·
        refine w_aload_n dX1_admitSet_28 h0 ?_
        refine w_aload_n dX1_admitSet_29 h3 ?_
        refine w_iload dX1_admitSet_30 h4 ?_
        refine r_inv1  dX1_admitSet_32 mt_1_55 R rfl (hS _ _ rfl) rfl (lb rfl) (lb rfl) (lb rfl) (lb rfl) rfl (c_lget R rfl (hS _ _ rfl) (cT_l0 hT) htn ⟨_, rfl, ?_⟩)
        refine r_cast dX1_admitSet_35 qt_1_59 R rfl (cT_Su hT htn) rfl (by decide) ?_
        refine w_aload_n dX1_admitSet_38 h2 ?_
        refine r_inv2  dX1_admitSet_39 mt_1_47 R rfl (hS _ _ rfl) rfl (lb rfl) (lb rfl) (lb rfl) (lb rfl) rfl (c1_admit R hS hT hV hE hL hK hv htn (o := some x) (fun j e => by cases e; exact hx) (fun s1 G1 R1 f1 K1 => ⟨_, rfl, ?_⟩))
        refine w_iinc dX1_admitSet_42 h4 (nI_1 _) (lb rfl) ?_
        refine w_goto (t := 3) dX1_admitSet_45 rfl ?_
        have e9 : kset τ Q0 x v (t + 1) = kadd τ (kset τ Q0 x v t) t (oI (some x)) := by show (bif tT τ 9 t == v then _ else _) = _; rw [show (tT τ 9 t == v) = true from by simpa using h25]; rfl
        exact ih (t + 1) _ _ _ (by omega) (by rw [e9]; exact R1) (by omega) (hf.tr f1) (by rw [e9]; exact K1) (by rw [f1.1]; exact h0) h1v (by rw [f1.1]; exact h2) (by rw [f1.1]; exact h3) rfl kx
theorem c1_agrp_l {s0 : rx_S} {τ : tx_T} (hT0 : CT E s0 τ) (hS0 : rx_in s0) (hV : TV τ) (hE : WE b0 O E) (hL0 : HL s0 τ) {Q0 : kQ} (hv0 : kV τ Q0) {x : Nat} (hx : x < tN τ 1)  : ∀ (d : Nat) (t : Nat) (L : mx_L) (s : rx_S) (G : mx_H), tN τ 1 - t < d → rx_R b0 O (z1 + (kgrp τ Q0 x t).length) (z2 + 100 * (kgrp τ Q0 x t).length) s G → t ≤ tN τ 1 → kf s0 s → KC E s τ (kgrp τ Q0 x t) → L 0 = some (.ref (rA s 5 0)) → L 1 = some (.ref (rA s 20 x)) → L 2 = some (.ref (rA s 8 0)) → L 3 = some (.int (nI t)) → (∀ s' G', rx_R b0 O (z1 + (kgrp τ Q0 x (tN τ 1)).length) (z2 + 100 * (kgrp τ Q0 x (tN τ 1)).length) s' G' → kf s0 s' → KC E s' τ (kgrp τ Q0 x (tN τ 1)) → Q (.inl none) G') → mx_W (gt_P b0 mi E) mX1_admitGroup 2 L [] G Q := by
  intro d
  induction d with
  | zero => intro t L s G hd; exact absurd hd (Nat.not_lt_zero _)
  | succ d ih =>
    intro t L s G hd R ht hf hK h0 h1 h2 h3 kx
    have hV0 := hV.1
    have hv : kV τ (kgrp τ Q0 x t) := kV_grp hv0 ht
    have hlen := kV_len hv
    have hS := hf.inn hS0
    have hT := CT_kf hT0 hS0 hf hK (by omega)
    have hL := HL_kf hL0 hf
    refine w_iload_n dX1_admitGroup_2 h3 ?_
    refine w_aload_n dX1_admitGroup_3 h2 ?_
    refine r_inv0  dX1_admitGroup_4 mt_1_51 R rfl (hS _ _ rfl) rfl (lb rfl) (lb rfl) (lb rfl) (lb rfl) rfl (c_lsize R rfl (hS _ _ rfl) (cT_l0 hT).2.1 ⟨_, rfl, ?_⟩)
    refine r_icmp_gen (t := 47) dX1_admitGroup_7 rfl (by omega) (by omega) (fun h7 => ?_) (fun h7 => ?_)
    ·
      refine w_ret dX1_admitGroup_47 rfl ?_
      obtain rfl : t = tN τ 1 := by omega
      exact kx _ _ R hf hK
    ·
      have htn : t < tN τ 1 := by omega
      refine w_aload_n dX1_admitGroup_10 h2 ?_
      refine w_iload_n dX1_admitGroup_11 h3 ?_
      refine r_inv1  dX1_admitGroup_12 mt_1_55 R rfl (hS _ _ rfl) rfl (lb rfl) (lb rfl) (lb rfl) (lb rfl) rfl (c_lget R rfl (hS _ _ rfl) (cT_l0 hT) htn ⟨_, rfl, ?_⟩)
      refine r_cast dX1_admitGroup_15 qt_1_59 R rfl (cT_Su hT htn) rfl (by decide) ?_
      refine r_geti  dX1_admitGroup_18 ft_1_115 R rfl (cT_Su hT htn) rfl (lb rfl) (cT_S hT htn 10 rfl) ?_
      refine w_aload_n dX1_admitGroup_21 h1 ?_
      refine r_geti  dX1_admitGroup_22 ft_1_115 R rfl (cT_Su hT hx) rfl (lb rfl) (cT_S hT hx 10 rfl) ?_
      refine r_icmp_neP (t := 41) dX1_admitGroup_25 rfl (fun h25 => ?_) (fun h25 => ?_)
      ·
        refine w_iinc dX1_admitGroup_41 h3 (nI_1 _) (lb rfl) ?_
        refine w_goto (t := 2) dX1_admitGroup_44 rfl ?_
        have e9 : kgrp τ Q0 x (t + 1) = kgrp τ Q0 x t := by show (bif tT τ 10 t == tT τ 10 x then _ else _) = _; rw [show (tT τ 10 t == tT τ 10 x) = false from by simpa using h25]; rfl
        exact ih (t + 1) _ _ _ (by omega) (by rw [e9]; exact R) (by omega) hf (by rw [e9]; exact hK) h0 h1 h2 rfl kx
      ·
        refine w_aload_n dX1_admitGroup_28 h0 ?_
        refine w_aload_n dX1_admitGroup_29 h2 ?_
        refine w_iload_n dX1_admitGroup_30 h3 ?_
        refine r_inv1  dX1_admitGroup_31 mt_1_55 R rfl (hS _ _ rfl) rfl (lb rfl) (lb rfl) (lb rfl) (lb rfl) rfl (c_lget R rfl (hS _ _ rfl) (cT_l0 hT) htn ⟨_, rfl, ?_⟩)
        refine r_cast dX1_admitGroup_34 qt_1_59 R rfl (cT_Su hT htn) rfl (by decide) ?_
        refine w_aload_n dX1_admitGroup_37 h1 ?_
        refine r_inv2  dX1_admitGroup_38 mt_1_47 R rfl (hS _ _ rfl) rfl (lb rfl) (lb rfl) (lb rfl) (lb rfl) rfl (c1_admit R hS hT hV hE hL hK hv htn (o := some x) (fun j e => by cases e; exact hx) (fun s1 G1 R1 f1 K1 => ⟨_, rfl, ?_⟩))
        refine w_iinc dX1_admitGroup_41 h3 (nI_1 _) (lb rfl) ?_
        refine w_goto (t := 2) dX1_admitGroup_44 rfl ?_
        have e9 : kgrp τ Q0 x (t + 1) = kadd τ (kgrp τ Q0 x t) t (oI (some x)) := by show (bif tT τ 10 t == tT τ 10 x then _ else _) = _; rw [show (tT τ 10 t == tT τ 10 x) = true from by simpa using h25]; rfl
        exact ih (t + 1) _ _ _ (by omega) (by rw [e9]; exact R1) (by omega) (hf.tr f1) (by rw [e9]; exact K1) (by rw [f1.1]; exact h0) (by rw [f1.1]; exact h1) (by rw [f1.1]; exact h2) rfl kx
theorem c1_aset {Q9 : kQ} (R : rx_R b0 O (z1 + Q9.length) (z2 + 100 * Q9.length) s G) (hS : rx_in s) {τ : tx_T} (hT : CT E s τ) (hV : TV τ) (hE : WE b0 O E) (hL : HL s τ) (hK : KC E s τ Q9) (hv : kV τ Q9) {x : Nat} (hx : x < tN τ 1) {v : Int32} (q : ∀ s' G', rx_R b0 O (z1 + (kset τ Q9 x v (tN τ 1)).length) (z2 + 100 * (kset τ Q9 x v (tN τ 1)).length) s' G' → kf s s' → KC E s' τ (kset τ Q9 x v (tN τ 1)) → Q (.inl none) G')  : mx_W (gt_P b0 mi E) mX1_admitSet 0 (mx_en 0 [.ref (rA s 5 0), .int v, .ref (rA s 20 x), .ref (rA s 8 0)]) [] G Q := by
  refine w_iconst (v := nI 0) dX1_admitSet_0 (by decide) ?_
  refine w_istore dX1_admitSet_1 (lb rfl) ?_
  exact c1_aset_l hT hS hV hE hL hv hx _ 0 _ s _ (Nat.lt_succ_self _) R (Nat.zero_le _) (kf.rf hT.2.2.2.1) hK rfl rfl rfl rfl rfl q
theorem c1_agrp {Q9 : kQ} (R : rx_R b0 O (z1 + Q9.length) (z2 + 100 * Q9.length) s G) (hS : rx_in s) {τ : tx_T} (hT : CT E s τ) (hV : TV τ) (hE : WE b0 O E) (hL : HL s τ) (hK : KC E s τ Q9) (hv : kV τ Q9) {x : Nat} (hx : x < tN τ 1) (q : ∀ s' G', rx_R b0 O (z1 + (kgrp τ Q9 x (tN τ 1)).length) (z2 + 100 * (kgrp τ Q9 x (tN τ 1)).length) s' G' → kf s s' → KC E s' τ (kgrp τ Q9 x (tN τ 1)) → Q (.inl none) G')  : mx_W (gt_P b0 mi E) mX1_admitGroup 0 (mx_en 0 [.ref (rA s 5 0), .ref (rA s 20 x), .ref (rA s 8 0)]) [] G Q := by
  refine w_iconst (v := nI 0) dX1_admitGroup_0 (by decide) ?_
  refine w_istore_n dX1_admitGroup_1 (lb rfl) ?_
  exact c1_agrp_l hT hS hV hE hL hv hx _ 0 _ s _ (Nat.lt_succ_self _) R (Nat.zero_le _) (kf.rf hT.2.2.2.1) hK rfl rfl rfl rfl q
theorem c1_beg1 {s0 : rx_S} {τ : tx_T} (hT0 : CT E s0 τ) (hS0 : rx_in s0) (hV : TV τ) {f0 : Nat → Nat × Nat}  : ∀ (d : Nat) (t : Nat) (L : mx_L) (s : rx_S) (G : mx_H), tN τ 1 - t < d → rx_R b0 O z1 z2 s G → t ≤ tN τ 1 → kf s0 s → rLS (E 6) s 8 3 0 f0 → (∀ a, a < t → rX s 20 a 12 = .inl (.int (-1)) ∧ rX s 20 a 13 = .inl .null) → L 0 = some (.ref (rA s 5 0)) → L 1 = some (.ref (rA s 8 0)) → L 2 = some (.int (nI t)) → (∀ (L : mx_L) (s : rx_S) (G : mx_H), rx_R b0 O z1 z2 s G → kf s0 s → KC E s τ [] → L 0 = some (.ref (rA s 5 0)) → L 1 = some (.ref (rA s 8 0)) → mx_W (gt_P b0 mi E) mX1_begin 47 L [] G Q) → mx_W (gt_P b0 mi E) mX1_begin 9 L [] G Q := by
  intro d
  induction d with
  | zero => intro t L s G hd; exact absurd hd (Nat.not_lt_zero _)
  | succ d ih =>
    intro t L s G hd R ht hf hr hz h0 h1 h2 kx
    have hV0 := hV.1
    have hS := hf.inn hS0
    have hT := CT_tfr hT0 hS0 hf.2.1 hf.2.2.1 ⟨_, _, Nat.zero_le _, hr⟩
    refine w_iload_n dX1_begin_9 h2 ?_
    refine w_aload_n dX1_begin_10 h1 ?_
    refine r_inv0  dX1_begin_11 mt_1_51 R rfl (hS _ _ rfl) rfl (lb rfl) (lb rfl) (lb rfl) (lb rfl) rfl (c_lsize R rfl (hS _ _ rfl) (cT_l0 hT).2.1 ⟨_, rfl, ?_⟩)
    refine r_icmp_gen (t := 47) dX1_begin_14 rfl (by omega) (by omega) (fun h14 => ?_) (fun h14 => ?_)
    ·
      obtain rfl : t = tN τ 1 := by omega
      exact kx _ _ _ R hf ⟨rLS_congr hr (fun j hj => absurd hj (Nat.not_lt_zero _)), fun x hx => (hz x hx).1, fun x hx => (hz x hx).2⟩ h0 h1
    ·
      have htn : t < tN τ 1 := by omega
      have hus := cT_Su hT htn
      refine w_aload_n dX1_begin_17 h1 ?_
      refine w_iload_n dX1_begin_18 h2 ?_
      refine r_inv1  dX1_begin_19 mt_1_55 R rfl (hS _ _ rfl) rfl (lb rfl) (lb rfl) (lb rfl) (lb rfl) rfl (c_lget R rfl (hS _ _ rfl) (cT_l0 hT) htn ⟨_, rfl, ?_⟩)
      refine r_cast dX1_begin_22 qt_1_59 R rfl hus rfl (by decide) ?_
      refine w_iconst (v := (-1)) dX1_begin_25 (by decide) ?_
      refine r_puti  dX1_begin_26 ft_1_92 R rfl hus rfl (lb rfl) (fun h => by cases h) rfl rfl (fun G1 R1 => ?_)
      refine w_aload_n dX1_begin_29 h1 ?_
      refine w_iload_n dX1_begin_30 h2 ?_
      refine r_inv1  dX1_begin_31 mt_1_55 R1 rfl (hS 8 0 rfl) rfl (lb rfl) (lb rfl) (lb rfl) (lb rfl) rfl (c_lget (s := sX s 20 t 12 (.inl (.int (-1)))) R1 rfl (hS 8 0 rfl) (rLS_X (cT_l0 hT) (by omega)) htn ⟨_, rfl, ?_⟩)
      refine r_cast dX1_begin_34 qt_1_59 R1 rfl hus rfl (by decide) ?_
      refine w_null dX1_begin_37 ?_
      refine r_puti  dX1_begin_38 ft_1_95 R1 rfl hus rfl (lb rfl) (fun h => by cases h) rfl rfl (fun G2 R2 => ?_)
      refine w_iinc dX1_begin_41 h2 (nI_1 _) (lb rfl) ?_
      refine w_goto (t := 9) dX1_begin_44 rfl ?_
      exact ih (t + 1) _ _ _ (by omega) R2 (by omega) ((hf.X (Or.inl rfl)).X (Or.inr rfl)) (rLS_X (rLS_X hr (by omega)) (by omega)) (fun a ha => by
        by_cases e : a = t
        · rw [e]; exact ⟨(sX_p (by omega)).trans sX_s, sX_s⟩
        · exact ⟨(sX_p (by omega)).trans ((sX_p (by omega)).trans (hz a (by omega)).1), (sX_p (by omega)).trans ((sX_p (by omega)).trans (hz a (by omega)).2)⟩) h0 h1 rfl kx
theorem c1_beg2 {s0 : rx_S} {τ : tx_T} (hT0 : CT E s0 τ) (hS0 : rx_in s0) (hV : TV τ) (hE : WE b0 O E) (hL0 : HL s0 τ)  : ∀ (d : Nat) (t : Nat) (L : mx_L) (s : rx_S) (G : mx_H), tN τ 1 - t < d → rx_R b0 O (z1 + (kp1 τ t).length) (z2 + 100 * (kp1 τ t).length) s G → t ≤ tN τ 1 → kf s0 s → KC E s τ (kp1 τ t) → L 0 = some (.ref (rA s 5 0)) → L 1 = some (.ref (rA s 8 0)) → L 2 = some (.int (nI t)) → (∀ s' G', rx_R b0 O (z1 + (kp1 τ (tN τ 1)).length) (z2 + 100 * (kp1 τ (tN τ 1)).length) s' G' → kf s0 s' → KC E s' τ (kp1 τ (tN τ 1)) → Q (.inl none) G') → mx_W (gt_P b0 mi E) mX1_begin 49 L [] G Q := by
  intro d
  induction d with
  | zero => intro t L s G hd; exact absurd hd (Nat.not_lt_zero _)
  | succ d ih =>
    intro t L s G hd R ht hf hK h0 h1 h2 kx
    have hV0 := hV.1
    have hv : kV τ (kp1 τ t) := kV_1 ht
    have hlen := kV_len hv
    have hS := hf.inn hS0
    have hT := CT_kf hT0 hS0 hf hK (by omega)
    have hL := HL_kf hL0 hf
    refine w_iload_n dX1_begin_49 h2 ?_
    refine w_aload_n dX1_begin_50 h1 ?_
    refine r_inv0  dX1_begin_51 mt_1_51 R rfl (hS _ _ rfl) rfl (lb rfl) (lb rfl) (lb rfl) (lb rfl) rfl (c_lsize R rfl (hS _ _ rfl) (cT_l0 hT).2.1 ⟨_, rfl, ?_⟩)
    refine r_icmp_gen (t := 90) dX1_begin_54 rfl (by omega) (by omega) (fun h54 => ?_) (fun h54 => ?_)
    ·
      refine w_ret dX1_begin_90 rfl ?_
      obtain rfl : t = tN τ 1 := by omega
      exact kx _ _ R hf hK
    ·
      have htn : t < tN τ 1 := by omega
      have hus := cT_Su hT htn
      refine w_aload_n dX1_begin_57 h1 ?_
      refine w_iload_n dX1_begin_58 h2 ?_
      refine r_inv1  dX1_begin_59 mt_1_55 R rfl (hS _ _ rfl) rfl (lb rfl) (lb rfl) (lb rfl) (lb rfl) rfl (c_lget R rfl (hS _ _ rfl) (cT_l0 hT) htn ⟨_, rfl, ?_⟩)
      refine r_cast dX1_begin_62 qt_1_59 R rfl hus rfl (by decide) ?_
      refine r_geti  dX1_begin_65 ft_1_98 R rfl (cT_Su hT htn) rfl (lb rfl) (cT_S hT htn 8 rfl) ?_
      refine w_if_eq (t := 84) dX1_begin_68 rfl (fun h68 => ?_) (fun h68 => ?_)
      ·
        refine w_iinc dX1_begin_84 h2 (nI_1 _) (lb rfl) ?_
        refine w_goto (t := 49) dX1_begin_87 rfl ?_
        have e9 : kp1 τ (t + 1) = kp1 τ t := by show (bif tT τ 8 t == 0 then _ else _) = _; rw [show (tT τ 8 t == 0) = true from by simpa using h68]; rfl
        exact ih (t + 1) _ _ _ (by omega) (by rw [e9]; exact R) (by omega) hf (by rw [e9]; exact hK) h0 h1 rfl kx
      ·
        refine w_aload_n dX1_begin_71 h0 ?_
        refine w_aload_n dX1_begin_72 h1 ?_
        refine w_iload_n dX1_begin_73 h2 ?_
        refine r_inv1  dX1_begin_74 mt_1_55 R rfl (hS _ _ rfl) rfl (lb rfl) (lb rfl) (lb rfl) (lb rfl) rfl (c_lget R rfl (hS _ _ rfl) (cT_l0 hT) htn ⟨_, rfl, ?_⟩)
        refine r_cast dX1_begin_77 qt_1_59 R rfl hus rfl (by decide) ?_
        refine w_null dX1_begin_80 ?_
        refine r_inv2  dX1_begin_81 mt_1_47 R rfl (hS _ _ rfl) rfl (lb rfl) (lb rfl) (lb rfl) (lb rfl) rfl (c1_admit R hS hT hV hE hL hK hv htn (o := none) (fun j e => by cases e) (fun s1 G1 R1 f1 K1 => ⟨_, rfl, ?_⟩))
        refine w_iinc dX1_begin_84 h2 (nI_1 _) (lb rfl) ?_
        refine w_goto (t := 49) dX1_begin_87 rfl ?_
        have e9 : kp1 τ (t + 1) = kadd τ (kp1 τ t) t (oI none) := by show (bif tT τ 8 t == 0 then _ else _) = _; rw [show (tT τ 8 t == 0) = false from by simpa using h68]; rfl
        exact ih (t + 1) _ _ _ (by omega) (by rw [e9]; exact R1) (by omega) (hf.tr f1) (by rw [e9]; exact K1) (by rw [f1.1]; exact h0) (by rw [f1.1]; exact h1) rfl kx
theorem c1_begin (R : rx_R b0 O z1 z2 s G) (hS : rx_in s) {τ : tx_T} (hT : CT E s τ) (hV : TV τ) (hE : WE b0 O E) (hL : HL s τ) (q : ∀ s' G', rx_R b0 O (z1 + (kp1 τ (tN τ 1)).length) (z2 + 100 * (kp1 τ (tN τ 1)).length) s' G' → kf s s' → KC E s' τ (kp1 τ (tN τ 1)) → Q (.inl none) G')  : mx_W (gt_P b0 mi E) mX1_begin 0 (mx_en 0 [.ref (rA s 5 0), .ref (rA s 8 0)]) [] G Q := by
  obtain ⟨n0, f0, hn0, hr0⟩ := hT.2.2.2.2.2.2.2.2.2.2.2.2
  refine w_aload_n dX1_begin_0 rfl ?_
  refine r_getr  dX1_begin_1 ft_1_12 R rfl (hS _ _ rfl) rfl (lb rfl) (cT_s hT 5 0 rfl) ?_
  refine r_inv0  dX1_begin_4 mt_1_89 R rfl (hS _ _ rfl) rfl (lb rfl) (lb rfl) (lb rfl) (lb rfl) rfl (c_lclear R rfl (hS _ _ rfl) hr0 (by omega) (fun s1 G1 R1 l1 r1 => ⟨_, rfl, ?_⟩))
  have f1 : kf s s1 := (kf.rf hT.2.2.2.1).l hS R l1
  rw [← f1.1]
  refine w_iconst (v := nI 0) dX1_begin_7 (by decide) ?_
  refine w_istore_n dX1_begin_8 (lb rfl) ?_
  refine c1_beg1 hT hS hV _ 0 _ s1 _ (Nat.lt_succ_self _) R1 (Nat.zero_le _) f1 r1 (fun a ha => absurd ha (Nat.not_lt_zero _)) rfl rfl rfl (fun L2 s2 G2 R2 f2 K2 h0 h1 => ?_)
  refine w_iconst (v := nI 0) dX1_begin_47 (by decide) ?_
  refine w_istore_n dX1_begin_48 (lb rfl) ?_
  exact c1_beg2 hT hS hV hE hL _ 0 _ s2 _ (Nat.lt_succ_self _) R2 (Nat.zero_le _) f2 K2 h0 h1 rfl q
theorem c1_fol_l {s0 : rx_S} {τ : tx_T} (hT0 : CT E s0 τ) (hS0 : rx_in s0) (hV : TV τ) (hE : WE b0 O E) (hL0 : HL s0 τ) (hN0 : NC s0 τ) {Q0 : kQ} (hv0 : kV τ Q0) {x : Nat} (hx : x < tN τ 1)  : ∀ (d : Nat) (t : Nat) (L : mx_L) (s : rx_S) (G : mx_H), rlN τ x - t < d → rx_R b0 O (z1 + (ksL τ Q0 x t).length) (z2 + 100 * (ksL τ Q0 x t).length) s G → t ≤ rlN τ x → kf s0 s → KC E s τ (ksL τ Q0 x t) → L 0 = some (.ref (rA s 5 0)) → L 1 = some (.ref (rA s 20 x)) → L 2 = some (.ref (rA s 8 0)) → L 3 = some (.int (nI t)) → (∀ (L : mx_L) (s : rx_S) (G : mx_H), rx_R b0 O (z1 + (ksL τ Q0 x (rlN τ x)).length) (z2 + 100 * (ksL τ Q0 x (rlN τ x)).length) s G → kf s0 s → KC E s τ (ksL τ Q0 x (rlN τ x)) → L 0 = some (.ref (rA s 5 0)) → L 1 = some (.ref (rA s 20 x)) → L 2 = some (.ref (rA s 8 0)) → mx_W (gt_P b0 mi E) mX1_follow 65 L [] G Q) → mx_W (gt_P b0 mi E) mX1_follow 2 L [] G Q := by
  intro d
  induction d with
  | zero => intro t L s G hd; exact absurd hd (Nat.not_lt_zero _)
  | succ d ih =>
    intro t L s G hd R ht hf hK h0 h1 h2 h3 kx
    have hV0 := hV.1
    have hv : kV τ (ksL τ Q0 x t) := kV_L hV hv0 ht
    have hlen := kV_len hv
    have hS := hf.inn hS0
    have hT := CT_kf hT0 hS0 hf hK (by omega)
    have hL := HL_kf hL0 hf
    have hN := NC_kf hN0 hf
    have hr2 : rlN τ x ≤ 200 := Nat.le_trans (cnt_le _ _) hV0.2.2.2.1
    refine w_iload_n dX1_follow_2 h3 ?_
    refine w_aload_n dX1_follow_3 h1 ?_
    refine r_getr  dX1_follow_4 ft_1_105 R rfl (cT_Su hT hx) rfl (lb rfl) (cT_S hT hx 6 rfl) ?_
    refine r_inv0  dX1_follow_7 mt_1_51 R rfl (cT_Lu hT hx) rfl (lb rfl) (lb rfl) (lb rfl) (lb rfl) rfl (c_lsize R rfl (cT_Lu hT hx) (cT_l hT hx).2.1 ⟨_, rfl, ?_⟩)
    refine r_icmp_gen (t := 65) dX1_follow_10 rfl (by omega) (by omega) (fun h10 => ?_) (fun h10 => ?_)
    ·
      obtain rfl : t = rlN τ x := by omega
      exact kx _ _ _ R hf hK h0 h1 h2
    ·
      have htn : t < rlN τ x := by omega
      have hk := (rlG_lt htn).2.1
      have hy0 := rl_y hV htn
      refine w_aload_n dX1_follow_13 h1 ?_
      refine r_getr  dX1_follow_14 ft_1_105 R rfl (cT_Su hT hx) rfl (lb rfl) (cT_S hT hx 6 rfl) ?_
      refine w_iload_n dX1_follow_17 h3 ?_
      refine r_inv1  dX1_follow_18 mt_1_55 R rfl (cT_Lu hT hx) rfl (lb rfl) (lb rfl) (lb rfl) (lb rfl) rfl (c_lget R rfl (cT_Lu hT hx) (cT_l hT hx) htn ⟨_, rfl, ?_⟩)
      refine r_cast dX1_follow_21 qt_1_65 R rfl (cT_Ru hT hk) rfl (by decide) ?_
      refine r_getr  dX1_follow_24 ft_1_67 R rfl (cT_Ru hT hk) rfl (lb rfl) (cT_R hT hk 3 (lb rfl)) ?_
      refine w_astore dX1_follow_27 (lb rfl) ?_
      obtain ⟨y, hy, ey⟩ : ∃ y, y < tN τ 2 ∧ cl (tT τ 24 (rlG τ x t)) = y := ⟨_, hy0, rfl⟩
      rw [ey]
      have huY := cT_Yu hT hy
      have ht7 := (hN.2.2 y hy).1
      refine w_aload_n dX1_follow_29 h0 ?_
      refine w_aload dX1_follow_30 rfl ?_
      refine r_getv  dX1_follow_32 ft_1_82 R rfl huY rfl (lb rfl) ht7 ?_
      refine w_aload_n dX1_follow_35 h1 ?_
      refine r_inv2  dX1_follow_36 mt_1_47 R rfl (hS _ _ rfl) rfl (lb rfl) (by cases tgS τ y <;> exact lb rfl) (lb rfl) (lb rfl) (by cases tgS τ y <;> rfl) (c1_admitV (o2 := tgS τ y) (o := some x) R hS hT hV hE hL hK hv (fun j hj => (tgS_lt hV hy hj).2.2) (fun j e => by cases e; exact hx) (fun s1 G1 R1 f1 K1 => ⟨_, rfl, ?_⟩))
      have hv1 : kV τ (kao τ (ksL τ Q0 x t) (tgS τ y) (oI (some x))) := kV_ao hv (fun j hj => (tgS_lt hV hy hj).2.2) _
      have hlen1 := kV_len hv1
      have hS1 := f1.inn hS
      have hT1 := CT_kf hT hS f1 K1 (by omega)
      have hL1 := HL_kf hL f1
      have huY1 := cT_Yu hT1 hy
      have h0a : L 0 = some (.ref (rA s1 5 0)) := by rw [f1.1]; exact h0
      have h1a : L 1 = some (.ref (rA s1 20 x)) := by rw [f1.1]; exact h1
      have h2a : L 2 = some (.ref (rA s1 8 0)) := by rw [f1.1]; exact h2
      rw [← f1.1]
      refine w_aload dX1_follow_39 rfl ?_
      refine r_inv0  dX1_follow_41 mt_1_108 R1 rfl huY1 rfl (lb rfl) (lb rfl) (lb rfl) (lb rfl) rfl (c6_set R1 huY1 (cT_Y hT1 hy 5 (lb rfl)) (cT_Y hT1 hy 6 (lb rfl)) ⟨_, rfl, ?_⟩)
      refine w_iconst (v := (-1)) dX1_follow_44 (by decide) ?_
      refine w_icmp_eq (t := 59) dX1_follow_45 rfl (fun h45 => ?_) (fun h45 => ?_)
      ·
        refine w_iinc dX1_follow_59 h3 (nI_1 _) (lb rfl) ?_
        refine w_goto (t := 2) dX1_follow_62 rfl ?_
        have e9 : ksL τ Q0 x (t + 1) = kao τ (ksL τ Q0 x t) (tgS τ y) (oI (some x)) := by show kcb τ (ksL τ Q0 x t) x (cl (tT τ 24 (rlG τ x t))) = _; rw [ey]; exact (kcb_c hV hy).1 h45
        exact ih (t + 1) _ _ _ (by omega) (by rw [e9]; exact R1) (by omega) (hf.tr f1) (by rw [e9]; exact K1) (by rw [f1.1]; exact h0) (by rw [f1.1]; exact h1) (by rw [f1.1]; exact h2) rfl kx
      ·
        refine w_aload_n dX1_follow_48 h0a ?_
        refine w_aload dX1_follow_49 rfl ?_
        refine r_inv0  dX1_follow_51 mt_1_108 R1 rfl huY1 rfl (lb rfl) (lb rfl) (lb rfl) (lb rfl) rfl (c6_set R1 huY1 (cT_Y hT1 hy 5 (lb rfl)) (cT_Y hT1 hy 6 (lb rfl)) ⟨_, rfl, ?_⟩)
        refine w_aload_n dX1_follow_54 h1a ?_
        refine w_aload_n dX1_follow_55 h2a ?_
        refine r_inv3  dX1_follow_56 mt_1_111 R1 rfl (hS1 _ _ rfl) rfl (lb rfl) (lb rfl) (lb rfl) (lb rfl) rfl (c1_aset (s := s1) R1 hS1 hT1 hV hE hL1 K1 hv1 hx (v := seI (tT τ 17 y)) (fun s2 G2 R2 f2 K2 => ⟨_, rfl, ?_⟩))
        refine w_iinc dX1_follow_59 h3 (nI_1 _) (lb rfl) ?_
        refine w_goto (t := 2) dX1_follow_62 rfl ?_
        have e9 : ksL τ Q0 x (t + 1) = kset τ (kao τ (ksL τ Q0 x t) (tgS τ y) (oI (some x))) x (seI (tT τ 17 y)) (tN τ 1) := by show kcb τ (ksL τ Q0 x t) x (cl (tT τ 24 (rlG τ x t))) = _; rw [ey]; exact (kcb_c hV hy).2 h45
        exact ih (t + 1) _ _ _ (by omega) (by rw [e9]; exact R2) (by omega) ((hf.tr f1).tr f2) (by rw [e9]; exact K2) (by rw [f2.1, f1.1]; exact h0) (by rw [f2.1, f1.1]; exact h1) (by rw [f2.1, f1.1]; exact h2) rfl kx
theorem c1_follow {Q9 : kQ} (R : rx_R b0 O (z1 + Q9.length) (z2 + 100 * Q9.length) s G) (hS : rx_in s) {τ : tx_T} (hT : CT E s τ) (hV : TV τ) (hE : WE b0 O E) (hN : NC s τ) (hK : KC E s τ Q9) (hv : kV τ Q9) {x : Nat} (hx : x < tN τ 1) (q : ∀ s' G', rx_R b0 O (z1 + (kst τ Q9 x).length) (z2 + 100 * (kst τ Q9 x).length) s' G' → kf s s' → KC E s' τ (kst τ Q9 x) → Q (.inl none) G')  : mx_W (gt_P b0 mi E) mX1_follow 0 (mx_en 0 [.ref (rA s 5 0), .ref (rA s 20 x), .ref (rA s 8 0)]) [] G Q := by
  refine w_iconst (v := nI 0) dX1_follow_0 (by decide) ?_
  refine w_istore_n dX1_follow_1 (lb rfl) ?_
  refine c1_fol_l hT hS hV hE hN.1 hN hv hx _ 0 _ s _ (Nat.lt_succ_self _) R (Nat.zero_le _) (kf.rf hT.2.2.2.1) hK rfl rfl rfl rfl (fun L s1 G1 R1 f1 K1 h0 h1 h2 => ?_)
  have hv1 : kV τ (ksL τ Q9 x (rlN τ x)) := kV_L hV hv (Nat.le_refl _)
  have hlen1 := kV_len hv1
  have hV0 := hV.1
  have hS1 := f1.inn hS
  have hT1 := CT_kf hT hS f1 K1 (by omega)
  have hL1 := HL_kf hN.1 f1
  rw [kst_L] at q
  refine w_aload_n dX1_follow_65 h1 ?_
  refine r_geti dX1_follow_66 ft_1_115 R1 rfl (cT_Su hT1 hx) rfl (lb rfl) (cT_S hT1 hx 10 rfl) ?_
  refine w_iconst (v := (-1)) dX1_follow_69 (by decide) ?_
  refine w_icmp_eq (t := 79) dX1_follow_70 rfl (fun h70 => ?_) (fun h70 => ?_)
  · rw [ks2_0 h70] at q
    exact w_ret dX1_follow_79 rfl (q _ _ R1 f1 K1)
  · rw [ks2_1 h70] at q
    refine w_aload_n dX1_follow_73 h0 ?_
    refine w_aload_n dX1_follow_74 h1 ?_
    refine w_aload_n dX1_follow_75 h2 ?_
    refine r_inv2 dX1_follow_76 mt_1_118 R1 rfl (hS1 _ _ rfl) rfl (lb rfl) (lb rfl) (lb rfl) (lb rfl) rfl (c1_agrp R1 hS1 hT1 hV hE hL1 K1 hv1 hx (fun s2 G2 R2 f2 K2 => ⟨_, rfl, ?_⟩))
    exact w_ret dX1_follow_79 rfl (q _ _ R2 (f1.tr f2) K2)
theorem c1_find_r {s0 : rx_S} {τ : tx_T} (hT0 : CT E s0 τ) (hS0 : rx_in s0) (hV : TV τ) (hE : WE b0 O E) (hN0 : NC s0 τ)  : ∀ (d : Nat) (t : Nat) (L : mx_L) (s : rx_S) (G : mx_H), tN τ 4 - t < d → rx_R b0 O (z1 + (kp2 τ t).length) (z2 + 100 * (kp2 τ t).length) s G → t ≤ tN τ 4 → kf s0 s → KC E s τ (kp2 τ t) → L 0 = some (.ref (rA s 5 0)) → L 1 = some (.ref (rA s 3 0)) → L 2 = some (.ref (rA s 4 0)) → L 3 = some (.int (nI t)) → (∀ (L : mx_L) (s : rx_S) (G : mx_H), rx_R b0 O (z1 + (kp2 τ (tN τ 4)).length) (z2 + 100 * (kp2 τ (tN τ 4)).length) s G → kf s0 s → KC E s τ (kp2 τ (tN τ 4)) → L 0 = some (.ref (rA s 5 0)) → L 1 = some (.ref (rA s 3 0)) → mx_W (gt_P b0 mi E) mX1_find 60 L [] G Q) → mx_W (gt_P b0 mi E) mX1_find 10 L [] G Q := by
  intro d
  induction d with
  | zero => intro t L s G hd; exact absurd hd (Nat.not_lt_zero _)
  | succ d ih =>
    intro t L s G hd R ht hf hK h0 h1 h2 h3 kx
    have hV0 := hV.1
    have hv : kV τ (kp2 τ t) := kV_2 hV
    have hlen := kV_len hv
    have hS := hf.inn hS0
    have hT := CT_kf hT0 hS0 hf hK (by omega)
    have hN := NC_kf hN0 hf
    have hL := hN.1
    refine w_iload_n dX1_find_10 h3 ?_
    refine w_aload_n dX1_find_11 h1 ?_
    refine r_geti  dX1_find_12 ft_1_27 R rfl (hS _ _ rfl) rfl (lb rfl) hT.2.1.2.1 ?_
    refine r_icmp_gen (t := 60) dX1_find_15 rfl (by omega) (by omega) (fun h15 => ?_) (fun h15 => ?_)
    ·
      have et : t = tN τ 4 := by omega
      rw [et] at R hK
      exact kx _ _ _ R hf hK h0 h1
    ·
      refine w_iload_n dX1_find_18 h3 ?_
      refine w_aload_n dX1_find_19 h1 ?_
      refine r_getr  dX1_find_20 ft_1_31 R rfl (hS _ _ rfl) rfl (lb rfl) (cT_s hT 3 3 rfl) ?_
      refine r_alen  dX1_find_23 R rfl (hS _ _ rfl) rfl rfl (lb rfl) ?_
      refine r_icmp_gen (t := 60) dX1_find_24 rfl (by omega) (by omega) (fun h => by omega) (fun h24 => ?_)
      have htn : t < tN τ 4 := by omega
      obtain ⟨m, hm, em⟩ := nI_ofI (hV.2.2.2.2.1 t htn).1
      have hm64 := (hV.2.2.2.2.1 t htn).2
      rw [em, nI_toInt hm] at hm64
      have hv27 : rI s 10 0 t = nI m := (hT.2.2.2.2.2.2.2.1 t htn).trans em
      refine w_aload_n dX1_find_27 h2 ?_
      refine w_aload_n dX1_find_28 h1 ?_
      refine r_getr  dX1_find_29 ft_1_31 R rfl (hS _ _ rfl) rfl (lb rfl) (cT_s hT 3 3 rfl) ?_
      refine w_iload_n dX1_find_32 h3 ?_
      refine r_iald  dX1_find_33 R rfl (hS _ _ rfl) rfl rfl (by omega) (lb rfl) hv27 ?_
      refine r_inv1  dX1_find_34 mt_1_35 R rfl (hS 4 0 rfl) rfl (lb rfl) (lb rfl) (lb rfl) (lb rfl) rfl (c2_defOfC R hS hT hV (n := m) (by omega) (hN.2.1 m (by omega)) (fun ed => ⟨_, rfl, ?_⟩) (fun d ed => ⟨_, rfl, ?_⟩))
      ·
        refine w_astoreN dX1_find_37 (lb rfl) ?_
        refine w_aloadN dX1_find_39 rfl ?_
        refine r_nullT (t := 54) dX1_find_41 rfl ?_
        refine w_iinc dX1_find_54 h3 (nI_1 _) (lb rfl) ?_
        refine w_goto (t := 10) dX1_find_57 rfl ?_
        have e9 : kp2 τ (t + 1) = kp2 τ t := by show (match defO τ (tT τ 27 t) with | none => _ | some d => _) = _; rw [em, ed]; rfl
        exact ih (t + 1) _ _ _ (by omega) (by rw [e9]; exact R) (by omega) hf (by rw [e9]; exact hK) h0 h1 h2 rfl kx
      ·
        have hdn := (defO_lt ed).1
        have hds := isD_sec hV hdn (defO_lt ed).2
        refine w_astore dX1_find_37 (lb rfl) ?_
        refine w_aload dX1_find_39 rfl ?_
        refine r_nullF (t := 54) dX1_find_41 rfl ?_
        refine w_aload_n dX1_find_44 h0 ?_
        refine w_aload dX1_find_45 rfl ?_
        refine r_getv  dX1_find_47 ft_1_41 R rfl (cT_Yu hT hdn) rfl (lb rfl) (show rX s 24 d 2 = oV (hmO (tT τ 17 d)) from cT_Y hT hdn 2 (lb rfl)) ?_
        refine w_null dX1_find_50 ?_
        refine r_inv2  dX1_find_51 mt_1_47 R rfl (hS _ _ rfl) rfl (lb rfl) (by cases hmO (tT τ 17 d) <;> exact lb rfl) (lb rfl) (lb rfl) (by cases hmO (tT τ 17 d) <;> rfl) (c1_admitV (o2 := hmO (tT τ 17 d)) (o := none) R hS hT hV hE hL hK hv (fun j hj => by rw [show hmO (tT τ 17 d) = some (cl (tT τ 17 d)) from if_pos hds.1] at hj; cases hj; exact hds.2) (fun j e => by cases e) (fun s1 G1 R1 f1 K1 => ⟨_, rfl, ?_⟩))
        refine w_iinc dX1_find_54 h3 (nI_1 _) (lb rfl) ?_
        refine w_goto (t := 10) dX1_find_57 rfl ?_
        have e9 : kp2 τ (t + 1) = kao τ (kp2 τ t) (hmO (tT τ 17 d)) (oI none) := by
          show (match defO τ (tT τ 27 t) with | none => _ | some d => _) = _
          rw [em, ed, show hmO (tT τ 17 d) = some (cl (tT τ 17 d)) from if_pos hds.1]; rfl
        exact ih (t + 1) _ _ _ (by omega) (by rw [e9]; exact R1) (by omega) (hf.tr f1) (by rw [e9]; exact K1) (by rw [f1.1]; exact h0) (by rw [f1.1]; exact h1) (by rw [f1.1]; exact h2) rfl kx
theorem c1_find_q {s0 : rx_S} {τ : tx_T} (hT0 : CT E s0 τ) (hS0 : rx_in s0) (hV : TV τ) (hE : WE b0 O E) (hN0 : NC s0 τ)  : ∀ (d : Nat) (t : Nat) (Q9 : kQ) (L : mx_L) (s : rx_S) (G : mx_H), 61 - t < d → rx_R b0 O (z1 + (Q9).length) (z2 + 100 * (Q9).length) s G → t ≤ 61 → kR τ = kit τ (61 - t) t Q9 → kV τ Q9 → kf s0 s → KC E s τ Q9 → L 0 = some (.ref (rA s 5 0)) → L 1 = some (.ref (rA s 3 0)) → L 3 = some (.int (nI t)) → (∀ s' G', rx_R b0 O (z1 + (kR τ).length) (z2 + 100 * (kR τ).length) s' G' → kf s0 s' → KC E s' τ (kR τ) → Q (.inl none) G') → mx_W (gt_P b0 mi E) mX1_find 62 L [] G Q := by
  intro d
  induction d with
  | zero => intro t Q9 L s G hd; exact absurd hd (Nat.not_lt_zero _)
  | succ d ih =>
    intro t Q9 L s G hd R ht hq hv hf hK h0 h1 h3 kx
    have hV0 := hV.1
    have hlen := kV_len hv
    have hS := hf.inn hS0
    have hT := CT_kf hT0 hS0 hf hK (by omega)
    have hN := NC_kf hN0 hf
    have hL := hN.1
    refine w_iload_n dX1_find_62 h3 ?_
    refine w_aload_n dX1_find_63 h0 ?_
    refine r_getr  dX1_find_64 ft_1_12 R rfl (hS _ _ rfl) rfl (lb rfl) (cT_s hT 5 0 rfl) ?_
    refine r_inv0  dX1_find_67 mt_1_51 R rfl (hS _ _ rfl) rfl (lb rfl) (lb rfl) (lb rfl) (lb rfl) rfl (c_lsize R rfl (hS _ _ rfl) hK.1.2.1 ⟨_, rfl, ?_⟩)
    refine r_icmp_gen (t := 104) dX1_find_70 rfl (by omega) (by omega) (fun h70 => ?_) (fun h70 => ?_)
    ·
      refine w_ret dX1_find_104 rfl ?_
      have eq : kR τ = Q9 := hq.trans (kit_end (by omega))
      rw [← eq] at R hK
      exact kx _ _ R hf hK
    ·
      refine w_iload_n dX1_find_73 h3 ?_
      refine w_bipush (v := nI 60) dX1_find_74 (by decide) ?_
      refine r_icmp_gen (t := 104) dX1_find_76 rfl (by omega) (by omega) (fun h76 => ?_) (fun h76 => ?_)
      ·
        refine w_ret dX1_find_104 rfl ?_
        have eq : kR τ = Q9 := hq.trans (kit_end (by omega))
        rw [← eq] at R hK
        exact kx _ _ R hf hK
      ·
        have htn : t < Q9.length := by omega
        have hg : (Q9.getD t (0, 0)).1 < tN τ 1 := by rw [List.getD_eq_getElem?_getD, List.getElem?_eq_getElem htn]; exact hv.1 t htn
        have eg : (Q9.getD t (0, 0)).1 = (Q9[t]).1 := by rw [List.getD_eq_getElem?_getD, List.getElem?_eq_getElem htn]; rfl
        refine w_aload_n dX1_find_79 h0 ?_
        refine w_aload_n dX1_find_80 h0 ?_
        refine r_getr  dX1_find_81 ft_1_12 R rfl (hS _ _ rfl) rfl (lb rfl) (cT_s hT 5 0 rfl) ?_
        refine w_iload_n dX1_find_84 h3 ?_
        refine r_inv1  dX1_find_85 mt_1_55 R rfl (hS _ _ rfl) rfl (lb rfl) (lb rfl) (lb rfl) (lb rfl) rfl (c_lget R rfl (hS _ _ rfl) hK.1 htn ⟨_, rfl, ?_⟩)
        refine r_cast dX1_find_88 qt_1_59 R rfl (cT_Su hT hg) rfl (by decide) ?_
        refine w_aload_n dX1_find_91 h1 ?_
        refine r_getr  dX1_find_92 ft_1_18 R rfl (hS _ _ rfl) rfl (lb rfl) (cT_s hT 3 0 rfl) ?_
        refine r_inv2  dX1_find_95 mt_1_61 R rfl (hS _ _ rfl) rfl (lb rfl) (lb rfl) (lb rfl) (lb rfl) rfl (c1_follow R hS hT hV hE hN hK hv hg (fun s1 G1 R1 f1 K1 => ⟨_, rfl, ?_⟩))
        refine w_iinc dX1_find_98 h3 (nI_1 _) (lb rfl) ?_
        refine w_goto (t := 62) dX1_find_101 rfl ?_
        exact ih (t + 1) (kst τ Q9 (Q9.getD t (0, 0)).1) _ _ _ (by omega) R1 (by omega) (by rw [hq, show 61 - t = (61 - (t + 1)) + 1 by omega, kit_step htn, eg]) (kst_V hV hv _) (hf.tr f1) K1 (by rw [f1.1]; exact h0) (by rw [f1.1]; exact h1) rfl kx
theorem c1_find (R : rx_R b0 O z1 z2 s G) (hS : rx_in s) {τ : tx_T} (hT : CT E s τ) (hV : TV τ) (hE : WE b0 O E) (hN : NC s τ) (q : ∀ s' G', rx_R b0 O (z1 + (kR τ).length) (z2 + 100 * (kR τ).length) s' G' → kf s s' → KC E s' τ (kR τ) → Q (.inl none) G')  : mx_W (gt_P b0 mi E) mX1_find 0 (mx_en 0 [.ref (rA s 5 0), .ref (rA s 3 0), .ref (rA s 4 0)]) [] G Q := by
  refine w_aload_n dX1_find_0 rfl ?_
  refine w_aload_n dX1_find_1 rfl ?_
  refine r_getr  dX1_find_2 ft_1_18 R rfl (hS _ _ rfl) rfl (lb rfl) (cT_s hT 3 0 rfl) ?_
  refine r_inv1  dX1_find_5 mt_1_23 R rfl (hS _ _ rfl) rfl (lb rfl) (lb rfl) (lb rfl) (lb rfl) rfl (c1_begin R hS hT hV hE hN.1 (fun s1 G1 R1 f1 K1 => ⟨_, rfl, ?_⟩))
  rw [← f1.1]
  refine w_iconst (v := nI 0) dX1_find_8 (by decide) ?_
  refine w_istore_n dX1_find_9 (lb rfl) ?_
  refine c1_find_r hT hS hV hE hN _ 0 _ s1 _ (Nat.lt_succ_self _) R1 (Nat.zero_le _) f1 K1 rfl rfl rfl rfl (fun L2 s2 G2 R2 f2 K2 h0 h1 => ?_)
  refine w_iconst (v := nI 0) dX1_find_60 (by decide) ?_
  refine w_istore_n dX1_find_61 (lb rfl) ?_
  exact c1_find_q hT hS hV hE hN _ 0 _ _ s2 _ (Nat.lt_succ_self _) R2 (by omega) rfl (kV_2 hV) f2 K2 h0 h1 rfl q
theorem c1_nw_l {s : rx_S} {G : mx_H} (R : rx_R b0 O z1 z2 s G) (hS : rx_in s) {τ : tx_T} (hT : CT E s τ) (hV : TV τ) (hN : NC s τ) (hk12 : ∀ x, x < tN τ 1 → rX s 20 x 12 = .inl (.int (krk (kR τ) x))) (hv : kV τ (kR τ))  (q : Q (.inl (some (.int (oI (fst1 (f3B τ) (tN τ 3)))))) G) : ∀ (d : Nat) (t : Nat) (L : mx_L), tN τ 3 - t < d → t ≤ tN τ 3 → (∀ a, a < t → (f3B τ) a = false) → L 1 = some (.ref (rA s 8 2)) → L 2 = some (.int (nI t)) → mx_W (gt_P b0 mi E) mX1_firstNowhere 2 L [] G Q := by
  intro d
  induction d with
  | zero => intro t L hd; exact absurd hd (Nat.not_lt_zero _)
  | succ d ih =>
    intro t L hd ht hb h1 h2
    have hV0 := hV.1
    have hlen := kV_len hv
    refine w_iload_n dX1_firstNowhere_2 h2 ?_
    refine w_aload_n dX1_firstNowhere_3 h1 ?_
    refine r_inv0  dX1_firstNowhere_4 mt_1_51 R rfl (hS _ _ rfl) rfl (lb rfl) (lb rfl) (lb rfl) (lb rfl) rfl (c_lsize R rfl (hS _ _ rfl) (cT_l2 hT).2.1 ⟨_, rfl, ?_⟩)
    refine r_icmp_gen (t := 60) dX1_firstNowhere_7 rfl (by omega) (by omega) (fun h7 => ?_) (fun h7 => ?_)
    ·
      refine w_iconst (v := (-1)) dX1_firstNowhere_60 (by decide) ?_
      refine w_iret dX1_firstNowhere_61 rfl rfl ?_
      obtain rfl : t = tN τ 3 := by omega
      rw [show fst1 (f3B τ) _ = none from fst1_none.mpr hb] at q; exact q
    ·
      have htn : t < tN τ 3 := by omega
      have hr4 := hV.2.2.2.1 t htn
      have hcx := clI hr4.1.1
      have hcy := clI hr4.2.2.2.1.1
      have hx : cl (tT τ 21 t) < tN τ 1 := by omega
      have hy : cl (tT τ 24 t) < tN τ 2 := by omega
      have huY := cT_Yu hT hy
      have hus := cT_Su hT hx
      have a4 := aim_4 hV hy
      refine w_aload_n dX1_firstNowhere_10 h1 ?_
      refine w_iload_n dX1_firstNowhere_11 h2 ?_
      refine r_inv1  dX1_firstNowhere_12 mt_1_55 R rfl (hS _ _ rfl) rfl (lb rfl) (lb rfl) (lb rfl) (lb rfl) rfl (c_lget R rfl (hS _ _ rfl) (cT_l2 hT) htn ⟨_, rfl, ?_⟩)
      refine r_cast dX1_firstNowhere_15 qt_1_65 R rfl (cT_Ru hT htn) rfl (by decide) ?_
      refine w_astore_n dX1_firstNowhere_18 (lb rfl) ?_
      refine w_aload_n dX1_firstNowhere_19 rfl ?_
      refine r_getr  dX1_firstNowhere_20 ft_1_67 R rfl (cT_Ru hT htn) rfl (lb rfl) (cT_R hT htn 3 (lb rfl)) ?_
      refine w_astore dX1_firstNowhere_23 (lb rfl) ?_
      refine w_aload_n dX1_firstNowhere_25 rfl ?_
      refine r_getr  dX1_firstNowhere_26 ft_1_71 R rfl (cT_Ru hT htn) rfl (lb rfl) (cT_R hT htn 0 (lb rfl)) ?_
      refine r_inv0  dX1_firstNowhere_29 mt_1_72 R rfl hus rfl (lb rfl) (lb rfl) (lb rfl) (lb rfl) rfl (c5_isKept R hus (hk12 _ hx) (fun e29 => ⟨_, rfl, ?_⟩) (fun e29 => ⟨_, rfl, ?_⟩))
      ·
        refine w_if_eq (t := 54) dX1_firstNowhere_32 rfl (fun h => absurd h (by decide)) (fun _ => ?_)
        refine w_aload dX1_firstNowhere_35 rfl ?_
        refine r_geti  dX1_firstNowhere_37 ft_1_76 R rfl (cT_Yu hT hy) rfl (lb rfl) (cT_Y hT hy 4 (lb rfl)) ?_
        refine w_iconst (v := 2) dX1_firstNowhere_40 (by decide) ?_
        refine w_icmp_eq (t := 54) dX1_firstNowhere_41 rfl (fun h41 => ?_) (fun h41 => ?_)
        ·
          refine w_iinc dX1_firstNowhere_54 h2 (nI_1 _) (lb rfl) ?_
          refine w_goto (t := 2) dX1_firstNowhere_57 rfl ?_
          have hF : (f3B τ) t = false := by
            unfold f3B; rw [h41]; simp
          exact ih (t + 1) _ (by omega) (by omega) (fun a ha => by
            by_cases e : a = t
            · rw [e]; exact hF
            · exact hb a (by omega)) h1 rfl
        ·
          refine w_aload dX1_firstNowhere_44 rfl ?_
          refine r_inv0  dX1_firstNowhere_46 mt_1_79 R rfl huY rfl (lb rfl) (lb rfl) (lb rfl) (lb rfl) rfl (c6_nowhere R huY (cT_Y hT hy 5 (lb rfl)) (cT_Y hT hy 6 (lb rfl)) (hN.2.2 _ hy).1 (fun e46 => ⟨_, rfl, ?_⟩) (fun e46 => ⟨_, rfl, ?_⟩))
          ·
            refine w_if_eq (t := 54) dX1_firstNowhere_49 rfl (fun h => absurd h (by decide)) (fun _ => ?_)
            refine w_iload_n dX1_firstNowhere_52 h2 ?_
            refine w_iret dX1_firstNowhere_53 rfl rfl ?_
            have hF : (f3B τ) t = true := by
                have hk : kin (kR τ) (cl (tT τ 21 t)) = true := (by cases ek : kin (kR τ) (cl (tT τ 21 t)) with | true => rfl | false => exact absurd ((krk_kin (by omega) _).mpr ek) e29)
                have ha : aimI τ (cl (tT τ 24 t)) = 0 := by
                  rcases a4 with a | a | a | a
                  · exact a.1
                  · have := e46.1; rw [a.2.2.2.2.1] at this; cases this
                  · exact absurd (a.2.2.2.1.symm.trans e46.2) a.2.2.2.2.1
                  · exact absurd (a.2.2.2.1.symm.trans e46.2) a.2.2.2.2.1
                unfold f3B; rw [hk, ha]; simp [h41]
            rw [show fst1 (f3B τ) _ = some t from fst1_some.mpr ⟨htn, hF, hb⟩] at q; exact q
          ·
            refine w_if_eq (t := 54) dX1_firstNowhere_49 rfl (fun _ => ?_) (fun h => absurd (by decide) h)
            refine w_iinc dX1_firstNowhere_54 h2 (nI_1 _) (lb rfl) ?_
            refine w_goto (t := 2) dX1_firstNowhere_57 rfl ?_
            have hF : (f3B τ) t = false := by
              have : ¬ aimI τ (cl (tT τ 24 t)) = 0 := fun e => by
                rcases a4 with a | a | a | a
                · exact e46 ⟨a.2.2.2.2.1, a.2.2.2.1⟩
                · rw [a.1] at e; exact absurd e (by decide)
                · rw [a.1] at e; exact absurd e (by decide)
                · rw [a.1] at e; exact absurd e (by decide)
              unfold f3B; simp [this]
            exact ih (t + 1) _ (by omega) (by omega) (fun a ha => by
              by_cases e : a = t
              · rw [e]; exact hF
              · exact hb a (by omega)) h1 rfl
      ·
        refine w_if_eq (t := 54) dX1_firstNowhere_32 rfl (fun _ => ?_) (fun h => absurd (by decide) h)
        refine w_iinc dX1_firstNowhere_54 h2 (nI_1 _) (lb rfl) ?_
        refine w_goto (t := 2) dX1_firstNowhere_57 rfl ?_
        have hF : (f3B τ) t = false := by
          unfold f3B; rw [(krk_kin (by omega) _).mp (Classical.not_not.mp e29)]; rfl
        exact ih (t + 1) _ (by omega) (by omega) (fun a ha => by
          by_cases e : a = t
          · rw [e]; exact hF
          · exact hb a (by omega)) h1 rfl
theorem c1_il_l {s : rx_S} {G : mx_H} (R : rx_R b0 O z1 z2 s G) (hS : rx_in s) {τ : tx_T} (hT : CT E s τ) (hV : TV τ) (hN : NC s τ) (hk12 : ∀ x, x < tN τ 1 → rX s 20 x 12 = .inl (.int (krk (kR τ) x))) (hv : kV τ (kR τ))  (q : Q (.inl (some (.int (oI (fst1 (f4B τ) (tN τ 3)))))) G) : ∀ (d : Nat) (t : Nat) (L : mx_L), tN τ 3 - t < d → t ≤ tN τ 3 → (∀ a, a < t → (f4B τ) a = false) → L 1 = some (.ref (rA s 8 2)) → L 2 = some (.int (nI t)) → mx_W (gt_P b0 mi E) mX1_firstIntoLost 2 L [] G Q := by
  intro d
  induction d with
  | zero => intro t L hd; exact absurd hd (Nat.not_lt_zero _)
  | succ d ih =>
    intro t L hd ht hb h1 h2
    have hV0 := hV.1
    have hlen := kV_len hv
    refine w_iload_n dX1_firstIntoLost_2 h2 ?_
    refine w_aload_n dX1_firstIntoLost_3 h1 ?_
    refine r_inv0  dX1_firstIntoLost_4 mt_1_51 R rfl (hS _ _ rfl) rfl (lb rfl) (lb rfl) (lb rfl) (lb rfl) rfl (c_lsize R rfl (hS _ _ rfl) (cT_l2 hT).2.1 ⟨_, rfl, ?_⟩)
    refine r_icmp_gen (t := 59) dX1_firstIntoLost_7 rfl (by omega) (by omega) (fun h7 => ?_) (fun h7 => ?_)
    ·
      refine w_iconst (v := (-1)) dX1_firstIntoLost_59 (by decide) ?_
      refine w_iret dX1_firstIntoLost_60 rfl rfl ?_
      obtain rfl : t = tN τ 3 := by omega
      rw [show fst1 (f4B τ) _ = none from fst1_none.mpr hb] at q; exact q
    ·
      have htn : t < tN τ 3 := by omega
      have hr4 := hV.2.2.2.1 t htn
      have hcx := clI hr4.1.1
      have hcy := clI hr4.2.2.2.1.1
      have hx : cl (tT τ 21 t) < tN τ 1 := by omega
      have hy : cl (tT τ 24 t) < tN τ 2 := by omega
      have huY := cT_Yu hT hy
      have hus := cT_Su hT hx
      have a4 := aim_4 hV hy
      refine w_aload_n dX1_firstIntoLost_10 h1 ?_
      refine w_iload_n dX1_firstIntoLost_11 h2 ?_
      refine r_inv1  dX1_firstIntoLost_12 mt_1_55 R rfl (hS _ _ rfl) rfl (lb rfl) (lb rfl) (lb rfl) (lb rfl) rfl (c_lget R rfl (hS _ _ rfl) (cT_l2 hT) htn ⟨_, rfl, ?_⟩)
      refine r_cast dX1_firstIntoLost_15 qt_1_65 R rfl (cT_Ru hT htn) rfl (by decide) ?_
      refine w_astore_n dX1_firstIntoLost_18 (lb rfl) ?_
      refine w_aload_n dX1_firstIntoLost_19 rfl ?_
      have h7 := (hN.2.2 _ hy).1
      cases et : tgS τ (cl (tT τ 24 t)) with
      | none =>
        have hna : ¬ aimI τ (cl (tT τ 24 t)) = 1 := fun e => by rw [tgS_1 hV hy e] at et; cases et
        refine r_getr  dX1_firstIntoLost_20 ft_1_67 R rfl (cT_Ru hT htn) rfl (lb rfl) (cT_R hT htn 3 (lb rfl)) ?_
        refine r_geti  dX1_firstIntoLost_23 ft_1_82 R rfl huY rfl (lb rfl) (h7.trans (congrArg oV et)) ?_
        refine w_astoreN dX1_firstIntoLost_26 (lb rfl) ?_
        refine w_aload_n dX1_firstIntoLost_28 rfl ?_
        refine r_getr  dX1_firstIntoLost_29 ft_1_71 R rfl (cT_Ru hT htn) rfl (lb rfl) (cT_R hT htn 0 (lb rfl)) ?_
        refine r_inv0  dX1_firstIntoLost_32 mt_1_72 R rfl hus rfl (lb rfl) (lb rfl) (lb rfl) (lb rfl) rfl (c5_isKept R hus (hk12 _ hx) (fun e32 => ⟨_, rfl, ?_⟩) (fun e32 => ⟨_, rfl, ?_⟩))
        ·
          refine w_if_eq (t := 53) dX1_firstIntoLost_35 rfl (fun h => absurd h (by decide)) (fun _ => ?_)
          refine w_aloadN dX1_firstIntoLost_38 rfl ?_
          refine r_nullT (t := 53) dX1_firstIntoLost_40 rfl ?_
          refine w_iinc dX1_firstIntoLost_53 h2 (nI_1 _) (lb rfl) ?_
          refine w_goto (t := 2) dX1_firstIntoLost_56 rfl ?_
          have hF : (f4B τ) t = false := by
            unfold f4B; simp [hna]
          exact ih (t + 1) _ (by omega) (by omega) (fun a ha => by
            by_cases e : a = t
            · rw [e]; exact hF
            · exact hb a (by omega)) h1 rfl
        ·
          refine w_if_eq (t := 53) dX1_firstIntoLost_35 rfl (fun _ => ?_) (fun h => absurd (by decide) h)
          refine w_iinc dX1_firstIntoLost_53 h2 (nI_1 _) (lb rfl) ?_
          refine w_goto (t := 2) dX1_firstIntoLost_56 rfl ?_
          have hF : (f4B τ) t = false := by
            unfold f4B; rw [(krk_kin (by omega) _).mp (Classical.not_not.mp e32)]; rfl
          exact ih (t + 1) _ (by omega) (by omega) (fun a ha => by
            by_cases e : a = t
            · rw [e]; exact hF
            · exact hb a (by omega)) h1 rfl
      | some u =>
        have etg := tgS_lt hV hy et
        refine r_getr  dX1_firstIntoLost_20 ft_1_67 R rfl (cT_Ru hT htn) rfl (lb rfl) (cT_R hT htn 3 (lb rfl)) ?_
        refine r_getr  dX1_firstIntoLost_23 ft_1_82 R rfl huY rfl (lb rfl) (h7.trans (congrArg oV et)) ?_
        refine w_astore dX1_firstIntoLost_26 (lb rfl) ?_
        refine w_aload_n dX1_firstIntoLost_28 rfl ?_
        refine r_getr  dX1_firstIntoLost_29 ft_1_71 R rfl (cT_Ru hT htn) rfl (lb rfl) (cT_R hT htn 0 (lb rfl)) ?_
        refine r_inv0  dX1_firstIntoLost_32 mt_1_72 R rfl hus rfl (lb rfl) (lb rfl) (lb rfl) (lb rfl) rfl (c5_isKept R hus (hk12 _ hx) (fun e32 => ⟨_, rfl, ?_⟩) (fun e32 => ⟨_, rfl, ?_⟩))
        ·
          refine w_if_eq (t := 53) dX1_firstIntoLost_35 rfl (fun h => absurd h (by decide)) (fun _ => ?_)
          refine w_aload dX1_firstIntoLost_38 rfl ?_
          refine r_nullF (t := 53) dX1_firstIntoLost_40 rfl ?_
          refine w_aload dX1_firstIntoLost_43 rfl ?_
          refine r_geti  dX1_firstIntoLost_45 ft_1_85 R rfl (cT_Su hT etg.2.2) rfl (lb rfl) (hN.1 u etg.2.2) ?_
          refine w_if_eq (t := 53) dX1_firstIntoLost_48 rfl (fun h48 => ?_) (fun h48 => ?_)
          ·
            refine w_iinc dX1_firstIntoLost_53 h2 (nI_1 _) (lb rfl) ?_
            refine w_goto (t := 2) dX1_firstIntoLost_56 rfl ?_
            have hF : (f4B τ) t = false := by
              unfold f4B; rw [← etg.2.1, b32_eq h48]; simp
            exact ih (t + 1) _ (by omega) (by omega) (fun a ha => by
              by_cases e : a = t
              · rw [e]; exact hF
              · exact hb a (by omega)) h1 rfl
          ·
            refine w_iload_n dX1_firstIntoLost_51 h2 ?_
            refine w_iret dX1_firstIntoLost_52 rfl rfl ?_
            have hF : (f4B τ) t = true := by
              unfold f4B; rw [← etg.2.1, b32_ne h48, etg.1, show kin (kR τ) (cl (tT τ 21 t)) = true from (by cases ek : kin (kR τ) (cl (tT τ 21 t)) with | true => rfl | false => exact absurd ((krk_kin (by omega) _).mpr ek) e32)]; rfl
            rw [show fst1 (f4B τ) _ = some t from fst1_some.mpr ⟨htn, hF, hb⟩] at q; exact q
        ·
          refine w_if_eq (t := 53) dX1_firstIntoLost_35 rfl (fun _ => ?_) (fun h => absurd (by decide) h)
          refine w_iinc dX1_firstIntoLost_53 h2 (nI_1 _) (lb rfl) ?_
          refine w_goto (t := 2) dX1_firstIntoLost_56 rfl ?_
          have hF : (f4B τ) t = false := by
            unfold f4B; rw [(krk_kin (by omega) _).mp (Classical.not_not.mp e32)]; rfl
          exact ih (t + 1) _ (by omega) (by omega) (fun a ha => by
            by_cases e : a = t
            · rw [e]; exact hF
            · exact hb a (by omega)) h1 rfl
theorem c2_rn_l {s : rx_S} {G : mx_H} (R : rx_R b0 O z1 z2 s G) (hS : rx_in s) {τ : tx_T} (hT : CT E s τ) (hV : TV τ) (hN : NC s τ)  (q : Q (.inl (some (.int (oI (fst1 (fun r => (defO τ (tT τ 27 r)).isNone) (tN τ 4)))))) G) : ∀ (d : Nat) (t : Nat) (L : mx_L), tN τ 4 - t < d → t ≤ tN τ 4 → (∀ a, a < t → (fun r => (defO τ (tT τ 27 r)).isNone) a = false) → L 0 = some (.ref (rA s 4 0)) → L 1 = some (.ref (rA s 3 0)) → L 2 = some (.int (nI t)) → mx_W (gt_P b0 mi E) mX2_firstRootNowhere 2 L [] G Q := by
  intro d
  induction d with
  | zero => intro t L hd; exact absurd hd (Nat.not_lt_zero _)
  | succ d ih =>
    intro t L hd ht hb h0 h1 h2
    have hV0 := hV.1
    refine w_iload_n dX2_firstRootNowhere_2 h2 ?_
    refine w_aload_n dX2_firstRootNowhere_3 h1 ?_
    refine r_geti  dX2_firstRootNowhere_4 ft_2_41 R rfl (hS _ _ rfl) rfl (lb rfl) hT.2.1.2.1 ?_
    refine r_icmp_gen (t := 40) dX2_firstRootNowhere_7 rfl (by omega) (by omega) (fun h7 => ?_) (fun h7 => ?_)
    ·
      refine w_iconst (v := (-1)) dX2_firstRootNowhere_40 (by decide) ?_
      refine w_iret dX2_firstRootNowhere_41 rfl rfl ?_
      obtain rfl : t = tN τ 4 := by omega
      rw [show fst1 (fun r => (defO τ (tT τ 27 r)).isNone) _ = none from fst1_none.mpr hb] at q; exact q
    ·
      refine w_iload_n dX2_firstRootNowhere_10 h2 ?_
      refine w_aload_n dX2_firstRootNowhere_11 h1 ?_
      refine r_getr  dX2_firstRootNowhere_12 ft_2_45 R rfl (hS _ _ rfl) rfl (lb rfl) (cT_s hT 3 3 rfl) ?_
      refine r_alen  dX2_firstRootNowhere_15 R rfl (hS _ _ rfl) rfl rfl (lb rfl) ?_
      refine r_icmp_gen (t := 40) dX2_firstRootNowhere_16 rfl (by omega) (by omega) (fun h => by omega) (fun h16 => ?_)
      have htn : t < tN τ 4 := by omega
      obtain ⟨m, hm, em⟩ := nI_ofI (hV.2.2.2.2.1 t htn).1
      have hm64 := (hV.2.2.2.2.1 t htn).2
      rw [em, nI_toInt hm] at hm64
      have hv27 : rI s 10 0 t = nI m := (hT.2.2.2.2.2.2.2.1 t htn).trans em
      refine w_aload_n dX2_firstRootNowhere_19 h0 ?_
      refine w_aload_n dX2_firstRootNowhere_20 h1 ?_
      refine r_getr  dX2_firstRootNowhere_21 ft_2_45 R rfl (hS _ _ rfl) rfl (lb rfl) (cT_s hT 3 3 rfl) ?_
      refine w_iload_n dX2_firstRootNowhere_24 h2 ?_
      refine r_iald  dX2_firstRootNowhere_25 R rfl (hS _ _ rfl) rfl rfl (by omega) (lb rfl) hv27 ?_
      refine r_inv1  dX2_firstRootNowhere_26 mt_2_48 R rfl (hS _ _ rfl) rfl (lb rfl) (lb rfl) (lb rfl) (lb rfl) rfl (c2_defOfC R hS hT hV (n := m) (by omega) (hN.2.1 m (by omega)) (fun ed => ⟨_, rfl, ?_⟩) (fun d2 ed => ⟨_, rfl, ?_⟩))
      ·
        refine r_nnF (t := 34) dX2_firstRootNowhere_29 rfl ?_
        refine w_iload_n dX2_firstRootNowhere_32 h2 ?_
        refine w_iret dX2_firstRootNowhere_33 rfl rfl ?_
        have hF : (fun r => (defO τ (tT τ 27 r)).isNone) t = true := by
          show (defO τ (tT τ 27 t)).isNone = true; rw [em, ed]; rfl
        rw [show fst1 (fun r => (defO τ (tT τ 27 r)).isNone) _ = some t from fst1_some.mpr ⟨htn, hF, hb⟩] at q; exact q
      ·
        refine r_nnT (t := 34) dX2_firstRootNowhere_29 rfl ?_
        refine w_iinc dX2_firstRootNowhere_34 h2 (nI_1 _) (lb rfl) ?_
        refine w_goto (t := 2) dX2_firstRootNowhere_37 rfl ?_
        have hF : (fun r => (defO τ (tT τ 27 r)).isNone) t = false := by
          show (defO τ (tT τ 27 t)).isNone = false; rw [em, ed]; rfl
        exact ih (t + 1) _ (by omega) (by omega) (fun a ha => by
          by_cases e : a = t
          · rw [e]; exact hF
          · exact hb a (by omega)) h0 h1 rfl
theorem c1_nw (R : rx_R b0 O z1 z2 s G) (hS : rx_in s) {τ : tx_T} (hT : CT E s τ) (hV : TV τ) (hN : NC s τ) (hk12 : ∀ x, x < tN τ 1 → rX s 20 x 12 = .inl (.int (krk (kR τ) x))) (hv : kV τ (kR τ)) (q : Q (.inl (some (.int (oI (fst1 (f3B τ) (tN τ 3)))))) G) : mx_W (gt_P b0 mi E) mX1_firstNowhere 0 (mx_en 0 [.ref (rA s 5 0), .ref (rA s 8 2)]) [] G Q := by
  refine w_iconst (v := nI 0) dX1_firstNowhere_0 (by decide) ?_
  refine w_istore_n dX1_firstNowhere_1 (lb rfl) ?_
  exact c1_nw_l R hS hT hV hN hk12 hv q _ 0 _ (Nat.lt_succ_self _) (Nat.zero_le _) (fun a ha => absurd ha (Nat.not_lt_zero _)) rfl rfl
theorem c1_il (R : rx_R b0 O z1 z2 s G) (hS : rx_in s) {τ : tx_T} (hT : CT E s τ) (hV : TV τ) (hN : NC s τ) (hk12 : ∀ x, x < tN τ 1 → rX s 20 x 12 = .inl (.int (krk (kR τ) x))) (hv : kV τ (kR τ)) (q : Q (.inl (some (.int (oI (fst1 (f4B τ) (tN τ 3)))))) G) : mx_W (gt_P b0 mi E) mX1_firstIntoLost 0 (mx_en 0 [.ref (rA s 5 0), .ref (rA s 8 2)]) [] G Q := by
  refine w_iconst (v := nI 0) dX1_firstIntoLost_0 (by decide) ?_
  refine w_istore_n dX1_firstIntoLost_1 (lb rfl) ?_
  exact c1_il_l R hS hT hV hN hk12 hv q _ 0 _ (Nat.lt_succ_self _) (Nat.zero_le _) (fun a ha => absurd ha (Nat.not_lt_zero _)) rfl rfl
theorem c2_rn (R : rx_R b0 O z1 z2 s G) (hS : rx_in s) {τ : tx_T} (hT : CT E s τ) (hV : TV τ) (hN : NC s τ) (q : Q (.inl (some (.int (oI (fst1 (fun r => (defO τ (tT τ 27 r)).isNone) (tN τ 4)))))) G) : mx_W (gt_P b0 mi E) mX2_firstRootNowhere 0 (mx_en 0 [.ref (rA s 4 0), .ref (rA s 3 0)]) [] G Q := by
  refine w_iconst (v := nI 0) dX2_firstRootNowhere_0 (by decide) ?_
  refine w_istore_n dX2_firstRootNowhere_1 (lb rfl) ?_
  exact c2_rn_l R hS hT hV hN  q _ 0 _ (Nat.lt_succ_self _) (Nat.zero_le _) (fun a ha => absurd ha (Nat.not_lt_zero _)) rfl rfl rfl
end
