section
variable {b0 mi z1 z2 : Nat} {E : Nat → Nat} {O : Nat → Option mx_C} {s : rx_S} {G : mx_H} {Q : mx_O → mx_H → Prop}
theorem c0_fi_a {s0 : rx_S} {τ : tx_T} (hT0 : CT E s0 τ) (hS0 : rx_in s0) (hV : TV τ) (hE : WE b0 O E) (hD0 : KD E s0 τ) {v : Int32}  : ∀ (d : Nat) (t : Nat) (L : mx_L) (s : rx_S) (G : mx_H), tN τ 1 - t < d → rx_R b0 O z1 z2 s G → t ≤ tN τ 1 → cf wF s0 s → (∀ x, x < t → rX s 20 x 17 = .inl .null) → rX s 6 0 0 = .inl (.int 0) → L 0 = some (.ref (rA s 6 0)) → L 1 = some (.ref (rA s 8 0)) → L 2 = some (.int v) → L 3 = some (.int (nI t)) → (∀ (L : mx_L) (s : rx_S) (G : mx_H), rx_R b0 O z1 z2 s G → cf wF s0 s → (∀ x, x < tN τ 1 → rX s 20 x 17 = .inl .null) → rX s 6 0 0 = .inl (.int 0) → L 0 = some (.ref (rA s 6 0)) → L 1 = some (.ref (rA s 8 0)) → L 2 = some (.int v) → mx_W (gt_P b0 mi E) mX0_find 33 L [] G Q) → mx_W (gt_P b0 mi E) mX0_find 7 L [] G Q := by
  intro d
  induction d with
  | zero => intro t L s G hd; exact absurd hd (Nat.not_lt_zero _)
  | succ d ih =>
    intro t L s G hd R ht hf hz hc h0 h1 h2 h3 kx
    have hV0 := hV.1
    have hT := CT_cf hT0 hS0 hf
    have hS := hf.inn hS0
    have hD := KD_cf hD0 hf
    have hN := hD.1
    have hvR := (kR_cl hV).2
    have hlen := kV_len hvR
    refine w_iload_n dX0_find_7 h3 ?_
    refine w_aload_n dX0_find_8 h1 ?_
    refine r_inv0  dX0_find_9 mt_0_15 R rfl (hS _ _ rfl) rfl (lb rfl) (lb rfl) (lb rfl) (lb rfl) rfl (c_lsize R rfl (hS _ _ rfl) (cT_l0 hT).2.1 ⟨_, rfl, ?_⟩)
    refine r_icmp_gen (t := 33) dX0_find_12 rfl (by omega) (by omega) (fun h12 => ?_) (fun h12 => ?_)
    ·
      obtain rfl : t = tN τ 1 := by omega
      exact kx _ _ _ R hf hz hc h0 h1 h2
    ·
      have htn : t < tN τ 1 := by omega
      have hus := cT_Su hT htn
      refine w_aload_n dX0_find_15 h1 ?_
      refine w_iload_n dX0_find_16 h3 ?_
      refine r_inv1  dX0_find_17 mt_0_21 R rfl (hS _ _ rfl) rfl (lb rfl) (lb rfl) (lb rfl) (lb rfl) rfl (c_lget R rfl (hS _ _ rfl) (cT_l0 hT) htn ⟨_, rfl, ?_⟩)
      refine r_cast dX0_find_20 qt_0_25 R rfl hus rfl (by decide) ?_
      refine w_null dX0_find_23 ?_
      refine r_puti  dX0_find_24 ft_0_27 R rfl hus rfl (lb rfl) (fun h => by cases h) rfl rfl (fun G1 R1 => ?_)
      refine w_iinc dX0_find_27 h3 (nI_1 _) (lb rfl) ?_
      refine w_goto (t := 7) dX0_find_30 rfl ?_
      exact ih (t + 1) _ _ _ (by omega) R1 (by omega) hf.X (fun x hx => by
        by_cases e : x = t
        · rw [e]; exact sX_s
        · exact (sX_p (by omega)).trans (hz x (by omega))) ((sX_p (by omega)).trans hc) h0 h1 h2 rfl kx
theorem c0_fi_r {s0 : rx_S} {τ : tx_T} (hT0 : CT E s0 τ) (hS0 : rx_in s0) (hV : TV τ) (hE : WE b0 O E) (hD0 : KD E s0 τ)  : ∀ (d : Nat) (r : Nat) (K : Nat → Nat) (p : Bool) (L : mx_L) (s : rx_S) (G : mx_H), 62 - r < d → rx_R b0 O z1 z2 s G → r ≤ 61 → cf wG s0 s → (∀ x, x < tN τ 1 → rX s 20 x 15 = .inr (20, K x)) → KI τ true K → (p = true → r ≤ cnt (fun x => Nat.beq (K x) x) (tN τ 1)) → (p = false → ∀ x, x < tN τ 1 → KF K (PP τ K) x) → L 0 = some (.ref (rA s 6 0)) → L 1 = some (.ref (rA s 8 0)) → L 3 = some (.int (b32 p)) → L 4 = some (.int (nI r)) → (∀ (K : Nat → Nat) (L : mx_L) (s : rx_S) (G : mx_H), rx_R b0 O z1 z2 s G → cf wG s0 s → (∀ x, x < tN τ 1 → rX s 20 x 15 = .inr (20, K x)) → KI τ true K → (∀ x, x < tN τ 1 → KF K (PP τ K) x) → L 0 = some (.ref (rA s 6 0)) → L 1 = some (.ref (rA s 8 0)) → mx_W (gt_P b0 mi E) mX0_find 76 L [] G Q) → mx_W (gt_P b0 mi E) mX0_find 53 L [] G Q := by
  intro d
  induction d with
  | zero => intro r K p L s G hd; exact absurd hd (Nat.not_lt_zero _)
  | succ d ih =>
    intro r K p L s G hd R hr hf hk hI hcn hfx h0 h1 h3 h4 kx
    have hV0 := hV.1
    have hT := CT_cf hT0 hS0 hf
    have hS := hf.inn hS0
    have hD := KD_cf hD0 hf
    have hN := hD.1
    have hvR := (kR_cl hV).2
    have hlen := kV_len hvR
    refine w_iload_n dX0_find_53 h3 ?_
    refine w_if_eq (t := 76) dX0_find_54 rfl (fun h54 => ?_) (fun h54 => ?_)
    ·
      exact kx K _ _ _ R hf hk hI (hfx (b32_eq h54)) h0 h1
    ·
      refine w_iload dX0_find_57 h4 ?_
      refine w_bipush (v := nI 60) dX0_find_59 (by decide) ?_
      refine r_icmp_gtn (t := 76) dX0_find_61 rfl (by omega) (by omega) (fun h => by have := hcn (b32_ne h54); have := cnt_le (fun x => Nat.beq (K x) x) (tN τ 1); omega) (fun h61 => ?_)
      refine w_aload_n dX0_find_64 h0 ?_
      refine w_aload_n dX0_find_65 h1 ?_
      refine r_inv1  dX0_find_66 mt_0_38 R rfl (hS _ _ rfl) rfl (lb rfl) (lb rfl) (lb rfl) (lb rfl) rfl (c0_part hT0 hS0 hV hE hD0 R hf (fun x hx => by have := (hI.1 x hx).1; omega) hk (fun K2 p2 s2 G2 R2 f2 k2 kf2 hp2 => ⟨_, rfl, ?_⟩))
      refine w_istore_n dX0_find_69 (lb rfl) ?_
      refine w_iinc dX0_find_70 h4 (nI_1 _) (lb rfl) ?_
      refine w_goto (t := 53) dX0_find_73 rfl ?_
      refine ih (r + 1) K2 p2 _ _ _ (by omega) R2 (by omega) f2 k2 (KI_part hV hI kf2) (fun e => ?_) (fun e => ?_) (by rw [f2.1, ← hf.1]; exact h0) (by rw [f2.1, ← hf.1]; exact h1) rfl rfl kx
      · obtain ⟨x, hx, hne⟩ := hp2.mp e
        have h1 := KF_more (T := TK τ K) hI.1 kf2 hx hne
        have h2 := hcn (b32_ne h54)
        omega
      · have eK : ∀ y, y < tN τ 1 → K2 y = K y := fun y hy => Classical.byContradiction (fun h => by have := hp2.mpr ⟨y, hy, h⟩; rw [e] at this; cases this)
        intro x hx
        refine KF_P (kf2 x hx) (fun j hj => ?_)
        unfold PP
        rw [eK j (by omega), eK x hx, TK_congr hV eK]
theorem c0_find (R : rx_R b0 O z1 z2 s G) (hS : rx_in s) {τ : tx_T} (hT : CT E s τ) (hV : TV τ) (hE : WE b0 O E) (hD : KD E s τ) {w : Bool} (q : ∀ (s' : rx_S) (G' : mx_H), rx_R b0 O z1 z2 s' G' → cf wF s s' → (∀ x, x < tN τ 1 → rX s' 20 x 17 = oV (inO τ w x)) → rX s' 6 0 0 = .inl (.int (nI (cnt (fun x => (inO τ w x).isSome) (tN τ 1)))) → Q (.inl none) G') : mx_W (gt_P b0 mi E) mX0_find 0 (mx_en 0 [.ref (rA s 6 0), .ref (rA s 8 0), .int (b32 w)]) [] G Q := by
  refine w_aload_n dX0_find_0 rfl ?_
  refine w_iconst (v := 0) dX0_find_1 (by decide) ?_
  refine r_puti  dX0_find_2 ft_0_9 R rfl (hS _ _ rfl) rfl (lb rfl) (fun h => by cases h) rfl rfl (fun G1 R1 => ?_)
  refine w_iconst (v := nI 0) dX0_find_5 (by decide) ?_
  refine w_istore_n dX0_find_6 (lb rfl) ?_
  refine c0_fi_a hT hS hV hE hD _ 0 _ (sX s 6 0 0 (.inl (.int 0))) _ (Nat.lt_succ_self _) R1 (Nat.zero_le _) (cf.rf wF s).X (fun x hx => absurd hx (Nat.not_lt_zero _)) sX_s rfl rfl rfl rfl (fun L2 s2 G2 R2 f2 z2' c2 h0 h1 h2 => ?_)
  refine w_iload_n dX0_find_33 h2 ?_
  have hT2 := CT_cf hT hS f2
  have hS2 := f2.inn hS
  have hD2 := KD_cf hD f2
  cases w with
  | false =>
    refine r_if_neP (t := 38) dX0_find_34 rfl (fun h => absurd rfl h) (fun _ => ?_)
    refine w_ret dX0_find_37 rfl (q _ _ R2 f2 (fun x hx => by rw [inO_f]; exact z2' x hx) ?_)
    rw [c2]
    have : ∀ n, cnt (fun x => (inO τ false x).isSome) n = 0 := by
      intro n
      induction n with
      | zero => rfl
      | succ n ih => rw [cnt, ih, inO_f]; rfl
    rw [this]; rfl
  | true =>
    refine r_if_neP (t := 38) dX0_find_34 rfl (fun _ => ?_) (fun h => absurd h (by decide))
    refine w_aload_n dX0_find_38 h0 ?_
    refine w_aload_n dX0_find_39 h1 ?_
    refine r_inv1 dX0_find_40 mt_0_31 R2 rfl (hS2 _ _ rfl) rfl (lb rfl) (lb rfl) (lb rfl) (lb rfl) rfl (c0_mayFold hT2 hS2 hV hE hD2 R2 (cf.rf wG s2) (fun s3 G3 R3 f3 m3 => ⟨_, rfl, ?_⟩))
    refine w_aload_n (x := rA s3 6 0) dX0_find_43 (by rw [f3.1]; exact h0) ?_
    refine w_aload_n (x := rA s3 8 0) dX0_find_44 (by rw [f3.1]; exact h1) ?_
    refine r_inv1 dX0_find_45 mt_0_35 R3 rfl ((f3.inn hS2) _ _ rfl) rfl (lb rfl) (lb rfl) (lb rfl) (lb rfl) rfl (c0_join hT2 hS2 hV hE hD2 R3 f3 m3 (fun K4 s4 G4 R4 f4 k4 kf4 => ⟨_, rfl, ?_⟩))
    refine w_iconst (v := 1) dX0_find_48 (by decide) ?_
    refine w_istore_n dX0_find_49 (lb rfl) ?_
    refine w_iconst (v := nI 0) dX0_find_50 (by decide) ?_
    refine w_istore dX0_find_51 (lb rfl) ?_
    refine c0_fi_r hT2 hS2 hV hE hD2 _ 0 K4 true _ s4 _ (Nat.lt_succ_self _) R4 (by omega) f4 k4 (KI_join hV kf4) (fun _ => Nat.zero_le _) (fun e => by cases e) (by rw [f4.1]; exact h0) (by rw [f4.1]; exact h1) rfl rfl (fun K5 L5 s5 G5 R5 f5 k5 I5 kf5 h05 h15 => ?_)
    refine w_aload_n dX0_find_76 h05 ?_
    refine w_aload_n dX0_find_77 h15 ?_
    refine r_inv1 dX0_find_78 mt_0_42 R5 rfl ((f5.inn hS2) _ _ rfl) rfl (lb rfl) (lb rfl) (lb rfl) (lb rfl) rfl (c0_foldKin hT2 hS2 hV hE hD2 R5 (f5.w wG_F) (fun x hx => by have := (I5.1 x hx).1; omega) k5 (fun x hx => (f5.2.2.1 20 17 x rfl).trans (z2' x hx)) ((f5.2.2.1 6 0 0 rfl).trans c2) (fun s6 G6 R6 f6 z6 c6 => ⟨_, rfl, ?_⟩))
    have eI : ∀ x, x < tN τ 1 → inO τ true x = if K5 x = x then none else some (K5 x) := fun x hx => KI_end hV I5 kf5 hx
    refine w_ret dX0_find_81 rfl (q _ _ R6 (f2.tr f6) (fun x hx => by rw [eI x hx]; exact z6 x hx) ?_)
    rw [c6, cnt_congr (f := fun x => (inO τ true x).isSome) (g := fun x => !Nat.beq (K5 x) x) (fun x hx => by
      rw [eI x hx]
      by_cases e : K5 x = x
      · rw [if_pos e, e]; simp
      · rw [if_neg e]
        have : Nat.beq (K5 x) x = false := by
          cases e2 : Nat.beq (K5 x) x
          · rfl
          · exact absurd (Nat.eq_of_beq_eq_true e2) e
        rw [this]; rfl)]
end
