/-! ===== The class's bytes of the image ===== -/
theorem lN_i32 {m : Nat} (h : m < 2 ^ 31) : (lN m).toInt32 = nI m := by
  rw [← nI_l h, Int32.toInt32_toInt64]
theorem i64_nat {p : Int64} (h : 0 ≤ p.toInt) : p = lN p.toInt.toNat := by
  rw [lN_ofI, Int.toNat_of_nonneg h, Int64.ofInt_toInt]
theorem lN_div8 (m : Nat) (h : m < 2 ^ 31) : lN m / 8 = lN (m / 8) := by
  show Int64.ofNat m / Int64.ofNat 8 = Int64.ofNat (m / 8)
  exact (Int64.ofNat_div (by omega) (by omega)).symm
theorem lN_rem8 (m : Nat) (h : m < 2 ^ 31) : lN m - lN m / 8 * 8 = lN (m % 8) := by
  rw [lN_div8 m h, show (8 : Int64) = lN 8 from rfl, lN_mul, lN_sub (by omega), show m - m / 8 * 8 = m % 8 by omega]
theorem nI_inj {a b : Nat} (ha : a < 2 ^ 31) (hb : b < 2 ^ 31) (h : nI a = nI b) : a = b := by
  have := congrArg cl h
  rw [show cl (nI a) = a from nI_clamp ha, show cl (nI b) = b from nI_clamp hb] at this
  exact this
section
variable {b0 mi z1 z2 : Nat} {E : Nat → Nat} {O : Nat → Option mx_C} {s : rx_S} {G : mx_H} {Q : mx_O → mx_H → Prop}
theorem c3_byteOf {v : Int64} {j : Int32} (q : Q (.inl (some (.int (sby v j)))) G) : mx_W (gt_P b0 mi E) mX3_byteOf 0 (mx_en 0 [.long v, .int j]) [] G Q := by
  refine w_lload_n dX3_byteOf_0 rfl ?_
  refine w_bipush (v := 8) dX3_byteOf_1 (by decide) ?_
  refine w_iload_n dX3_byteOf_3 rfl ?_
  refine w_imul dX3_byteOf_4 ?_
  refine w_lshr dX3_byteOf_5 ?_
  refine w_l2i dX3_byteOf_6 ?_
  refine w_sipush (v := 255) dX3_byteOf_7 (by decide) ?_
  refine w_iand dX3_byteOf_10 ?_
  exact w_iret dX3_byteOf_11 rfl rfl q
theorem c3_sb_l {s : rx_S} {G : mx_H} (R : rx_R b0 O z1 z2 s G) (hS : rx_in s) {τ : tx_T} (hT : CT E s τ) (hV : TV τ) {w : Bool} (hF : FD E s τ w) (hE : WE b0 O E) (hO : AO τ) {S : vS} (hvi : VI τ w S) (hv : VC s τ S) (hP : PC s τ w S.1) (hES : ES s τ w S.1) {x i : Nat} (hx : x < tN τ 1) (hpl : plB τ w x = true) (hi : i < cl (tT τ 5 x)) (q : Q (.inl (some (.int (byL τ w S x i (rlN τ x))))) G) : ∀ (t : Nat) (L : mx_L), t ≤ rlN τ x → byL τ w S x i (rlN τ x) = byL τ w S x i t → L 0 = some (.ref (rA s 7 0)) → L 1 = some (.ref (rA s 20 x)) → L 2 = some (.int (nI i)) → L 3 = some (.int (nI t - 1)) → mx_W (gt_P b0 mi E) mX3_sectionByte 20 L [] G Q := by
  have hV0 := hV.1
  have hrx : rlN τ x ≤ 200 := Nat.le_trans (cnt_le _ _) hV0.2.2.2.1
  have hzr := (hV.2.1 x hx).2.2.1
  have hzc := clI hzr.1
  have hkk : kin (kR τ) x = true := by unfold plB at hpl; rw [Bool.and_eq_true] at hpl; exact hpl.1
  intro t
  induction t with
  | zero =>
    intro L ht hb h0 h1 h2 h3
    rw [hb] at q
    refine w_iload_n dX3_sectionByte_20 h3 ?_
    refine r_if_lti (t := 69) dX3_sectionByte_21 rfl (fun h21 => ?_) (fun h => absurd (show (nI 0 - 1).toInt < 0 by decide) (by omega))
    refine w_aload_n dX3_sectionByte_69 h1 ?_
    refine w_iload_n dX3_sectionByte_70 h2 ?_
    refine r_inv1  dX3_sectionByte_71 mt_3_237 R rfl (cT_Su hT hx) rfl (lb rfl) (lb rfl) (lb rfl) (lb rfl) rfl (c5_byteAt R hS hT hV hx hi ⟨_, rfl, ?_⟩)
    exact w_iret dX3_sectionByte_74 rfl rfl q
  | succ t ih =>
    intro L ht hb h0 h1 h2 h3
    rw [nI_pred] at h3
    refine w_iload_n dX3_sectionByte_20 h3 ?_
    refine r_if_lti (t := 69) dX3_sectionByte_21 rfl (fun h => by rw [nI_toInt (by omega)] at h; omega) (fun h21 => ?_)
    have htn : t < rlN τ x := by omega
    obtain ⟨k, ek⟩ : ∃ k, rlG τ x t = k := ⟨_, rfl⟩
    have hk : k < tN τ 3 := by rw [← ek]; exact (rlG_lt htn).2.1
    have hkx : tT τ 21 k = nI x := by rw [← ek]; exact (rlG_lt htn).2.2
    have hcx : cl (tT τ 21 k) = x := by rw [hkx]; exact nI_clamp (by omega)
    have rk := hV.2.2.2.1 k hk
    have ctk := clI rk.2.2.1.1
    have etk : nI (cl (tT τ 23 k)) = tT τ 23 k := nIcl rk.2.2.1.1
    have huk := cT_Ru hT hk
    have ei := nI_toInt (n := i) (by omega)
    have hw := tyW_wide (t := cl (tT τ 23 k)) (by omega)
    have hw4 : (tyW (cl (tT τ 23 k))).toInt ≤ 4 := by
      rcases (show cl (tT τ 23 k) = 0 ∨ cl (tT τ 23 k) = 1 ∨ cl (tT τ 23 k) = 2 ∨ cl (tT τ 23 k) = 3 ∨ cl (tT τ 23 k) = 4 by omega) with e | e | e | e | e <;> rw [e] <;> decide
    have hza := t_add (v := tT τ 22 k) (w := tyW (cl (tT τ 23 k))) rk.2.1.1 hw.2 (by omega)
    rw [etk] at hw
    refine w_aload_n dX3_sectionByte_24 h1 ?_
    refine r_getr  dX3_sectionByte_25 ft_3_196 R rfl (cT_Su hT hx) rfl (lb rfl) (cT_S hT hx 6 rfl) ?_
    refine w_iload_n dX3_sectionByte_28 h3 ?_
    refine r_inv1  dX3_sectionByte_29 mt_3_58 R rfl (cT_Lu hT hx) rfl (lb rfl) (lb rfl) (lb rfl) (lb rfl) rfl (c_lget R rfl (cT_Lu hT hx) (cT_l hT hx) htn ⟨_, rfl, ?_⟩)
    show mx_W _ _ _ _ (.ref (rA s 25 (rlG τ x t)) :: _) _ _
    rw [ek]
    refine r_cast dX3_sectionByte_32 qt_3_62 R rfl huk rfl (by decide) ?_
    refine w_astore dX3_sectionByte_35 (lb rfl) ?_
    refine w_aload dX3_sectionByte_37 rfl ?_
    refine w_iload_n dX3_sectionByte_39 h2 ?_
    refine r_inv1  dX3_sectionByte_40 mt_3_226 R rfl huk rfl (lb rfl) (lb rfl) (lb rfl) (lb rfl) rfl (c4_covers R hE.2.2 (t := cl (tT τ 23 k)) (by omega) huk (cT_R hT hk 1 (lb rfl)) (cT_R hT hk 2 (lb rfl)) (fun e40 => ⟨_, rfl, ?_⟩) (fun e40 => ⟨_, rfl, ?_⟩))
    ·
      refine w_if_eq (t := 63) dX3_sectionByte_43 rfl (fun h => absurd h (by decide)) (fun _ => ?_)
      refine w_aload_n dX3_sectionByte_46 h0 ?_
      refine w_aload dX3_sectionByte_47 rfl ?_
      refine r_inv1  dX3_sectionByte_49 mt_3_78 R rfl (hS _ _ rfl) rfl (lb rfl) (lb rfl) (lb rfl) (lb rfl) rfl (c3_aw R hS hT hV hF hE hvi hv hP hES hk (by rw [hcx]; exact hpl) (fun ha => hO k hk (by rw [hcx]; exact hkk) ha) ⟨_, rfl, ?_⟩)
      refine w_iload_n dX3_sectionByte_52 h2 ?_
      refine w_aload dX3_sectionByte_53 rfl ?_
      refine r_geti  dX3_sectionByte_55 ft_3_230 R rfl huk rfl (lb rfl) (cT_R hT hk 1 (lb rfl)) ?_
      refine w_isub dX3_sectionByte_58 ?_
      refine r_stat2 dX3_sectionByte_59 mt_3_233 (lb rfl) (lb rfl) (lb rfl) (lb rfl) rfl (c3_byteOf ⟨_, rfl, ?_⟩)
      refine w_iret dX3_sectionByte_62 rfl rfl ?_
      have e9 : byL τ w S x i (t + 1) = sby (Int64.ofInt (wrI τ w S k)) (nI i - tT τ 22 k) := by
        show (bif decide ((tT τ 22 (rlG τ x t)).toInt ≤ i ∧ (i : Int) < (tT τ 22 (rlG τ x t)).toInt + t_wide (tT τ 23 (rlG τ x t))) then _ else _) = _
        rw [ek, decide_eq_true (show (tT τ 22 k).toInt ≤ i ∧ (i : Int) < (tT τ 22 k).toInt + t_wide (tT τ 23 k) by omega)]; rfl
      rw [hb, e9] at q; exact q
    ·
      refine w_if_eq (t := 63) dX3_sectionByte_43 rfl (fun _ => ?_) (fun h => absurd (by decide) h)
      refine w_iinc dX3_sectionByte_63 h3 (show nI t + Int32.ofInt (-1) = nI t - 1 by rw [Int32.sub_eq_add_neg]; rfl) (lb rfl) ?_
      refine w_goto (t := 20) dX3_sectionByte_66 rfl ?_
      have e9 : byL τ w S x i (t + 1) = byL τ w S x i t := by
        show (bif decide ((tT τ 22 (rlG τ x t)).toInt ≤ i ∧ (i : Int) < (tT τ 22 (rlG τ x t)).toInt + t_wide (tT τ 23 (rlG τ x t))) then _ else _) = _
        rw [ek, decide_eq_false (show ¬ ((tT τ 22 k).toInt ≤ i ∧ (i : Int) < (tT τ 22 k).toInt + t_wide (tT τ 23 k)) by omega)]; rfl
      exact ih _ (by omega) (hb.trans e9) h0 h1 h2 rfl
theorem c3_sbyte (R : rx_R b0 O z1 z2 s G) (hS : rx_in s) {τ : tx_T} (hT : CT E s τ) (hV : TV τ) {w : Bool} (hF : FD E s τ w) (hE : WE b0 O E) (hO : AO τ) {S : vS} (hvi : VI τ w S) (hv : VC s τ S) (hP : PC s τ w S.1) (hES : ES s τ w S.1) {x i : Nat} (hx : x < tN τ 1) (hpl : plB τ w x = true) (hi : i < cl (tT τ 5 x)) (q : Q (.inl (some (.int (byS τ w S x i)))) G) : mx_W (gt_P b0 mi E) mX3_sectionByte 0 (mx_en 0 [.ref (rA s 7 0), .ref (rA s 20 x), .int (nI i)]) [] G Q := by
  refine w_aload_n dX3_sectionByte_0 rfl ?_
  refine r_geti  dX3_sectionByte_1 ft_3_150 R rfl (cT_Su hT hx) rfl (lb rfl) (cT_S hT hx 2 rfl) ?_
  refine w_iconst (v := 3) dX3_sectionByte_4 (by decide) ?_
  refine r_icmp_neP (t := 10) dX3_sectionByte_5 rfl (fun h5 => ?_) (fun h5 => ?_)
  ·
    refine w_aload_n dX3_sectionByte_10 rfl ?_
    refine r_getr  dX3_sectionByte_11 ft_3_196 R rfl (cT_Su hT hx) rfl (lb rfl) (cT_S hT hx 6 rfl) ?_
    refine r_inv0  dX3_sectionByte_14 mt_3_52 R rfl (cT_Lu hT hx) rfl (lb rfl) (lb rfl) (lb rfl) (lb rfl) rfl (c_lsize R rfl (cT_Lu hT hx) (cT_l hT hx).2.1 ⟨_, rfl, ?_⟩)
    refine w_iconst (v := 1) dX3_sectionByte_17 (by decide) ?_
    refine w_isub dX3_sectionByte_18 ?_
    refine w_istore_n dX3_sectionByte_19 (lb rfl) ?_
    unfold byS at q
    rw [if_neg h5, byI_L] at q
    exact c3_sb_l R hS hT hV hF hE hO hvi hv hP hES hx hpl hi q (rlN τ x) _ (Nat.le_refl _) rfl rfl rfl rfl rfl
  ·
    refine w_iconst (v := 0) dX3_sectionByte_8 (by decide) ?_
    refine w_iret dX3_sectionByte_9 rfl rfl ?_
    unfold byS at q; rw [if_pos h5] at q; exact q
theorem c3_vb_l {s : rx_S} {G : mx_H} (R : rx_R b0 O z1 z2 s G) (hS : rx_in s) {τ : tx_T} (hT : CT E s τ) (hV : TV τ) {w : Bool} (hF : FD E s τ w) (hE : WE b0 O E) (hO : AO τ) {S : vS} (hvi : VI τ w S) (hv : VC s τ S) (hP : PC s τ w S.1) (hES : ES s τ w S.1) {x g v i : Nat} (hx : x < tN τ 1) (hpl : plB τ w x = true) (hg : g < S.1.length) (hgx : (S.1[g]).1 = x) (hgv : (S.1.take g).countP (fun e => Nat.beq e.1 x) = v) (hi : i < 8) (hi4 : 4 ≤ i) (q : Q (.inl (some (.int (vby τ w S.1 g i)))) G) : ∀ (d : Nat) (t : Nat) (L : mx_L), rlN τ x - t < d → t ≤ rlN τ x → (∀ j, j < t → ¬ vnI τ S (rlG τ x j) = nI v) → L 0 = some (.ref (rA s 7 0)) → L 1 = some (.ref (rA s 20 x)) → L 2 = some (.int (nI v)) → L 3 = some (.int (nI i)) → L 4 = some (.int (nI t)) → mx_W (gt_P b0 mi E) mX3_veneerByte 20 L [] G Q := by
  intro d
  induction d with
  | zero => intro t L hd; exact absurd hd (Nat.not_lt_zero _)
  | succ d ih =>
    intro t L hd ht hb h0 h1 h2 h3 h4
    have hV0 := hV.1
    have hrx : rlN τ x ≤ 200 := Nat.le_trans (cnt_le _ _) hV0.2.2.2.1
    have hln := vV_len hvi.1
    have hkk : kin (kR τ) x = true := by unfold plB at hpl; rw [Bool.and_eq_true] at hpl; exact hpl.1
    have hv2 : v < 2 ^ 31 := by have := vx_lt hg hgx; have := VI_nv hvi hV x; omega
    refine w_iload dX3_veneerByte_20 h4 ?_
    refine w_aload_n dX3_veneerByte_22 h1 ?_
    refine r_getr  dX3_veneerByte_23 ft_3_196 R rfl (cT_Su hT hx) rfl (lb rfl) (cT_S hT hx 6 rfl) ?_
    refine r_inv0  dX3_veneerByte_26 mt_3_52 R rfl (cT_Lu hT hx) rfl (lb rfl) (lb rfl) (lb rfl) (lb rfl) rfl (c_lsize R rfl (cT_Lu hT hx) (cT_l hT hx).2.1 ⟨_, rfl, ?_⟩)
    refine r_icmp_gen (t := 84) dX3_veneerByte_29 rfl (by omega) (by omega) (fun h29 => ?_) (fun h29 => ?_)
    ·
      refine w_iconst (v := 0) dX3_veneerByte_84 (by decide) ?_
      refine w_iret dX3_veneerByte_85 rfl rfl ?_
      exfalso
      obtain ⟨b1, b2, b3, b4⟩ := hvi.1.1 g hg
      have hr : rlB τ x (S.1[g]).2 = true := by unfold rlB; rw [b3, hgx]; simp
      obtain ⟨r1, r2⟩ := rlG_cnt b2 hr
      have h9 := hb (cnt (rlB τ x) (S.1[g]).2) (by omega)
      rw [r1] at h9
      refine h9 ?_
      unfold vnI
      rw [b4]
      simp only [b3, hgx, show cl (nI x) = x from nI_clamp (by omega), hgv]
    ·
      have htn : t < rlN τ x := by omega
      obtain ⟨k, ek⟩ : ∃ k, rlG τ x t = k := ⟨_, rfl⟩
      have hk : k < tN τ 3 := by rw [← ek]; exact (rlG_lt htn).2.1
      have hkx : tT τ 21 k = nI x := by rw [← ek]; exact (rlG_lt htn).2.2
      have hcx : cl (tT τ 21 k) = x := by rw [hkx]; exact nI_clamp (by omega)
      have rk := hV.2.2.2.1 k hk
      have ctk := clI rk.2.2.1.1
      have etk : nI (cl (tT τ 23 k)) = tT τ 23 k := nIcl rk.2.2.1.1
      have huk := cT_Ru hT hk
      refine w_aload_n dX3_veneerByte_32 h1 ?_
      refine r_getr  dX3_veneerByte_33 ft_3_196 R rfl (cT_Su hT hx) rfl (lb rfl) (cT_S hT hx 6 rfl) ?_
      refine w_iload dX3_veneerByte_36 h4 ?_
      refine r_inv1  dX3_veneerByte_38 mt_3_58 R rfl (cT_Lu hT hx) rfl (lb rfl) (lb rfl) (lb rfl) (lb rfl) rfl (c_lget R rfl (cT_Lu hT hx) (cT_l hT hx) htn ⟨_, rfl, ?_⟩)
      show mx_W _ _ _ _ (.ref (rA s 25 (rlG τ x t)) :: _) _ _
      rw [ek]
      refine r_cast dX3_veneerByte_41 qt_3_62 R rfl huk rfl (by decide) ?_
      refine w_astore dX3_veneerByte_44 (lb rfl) ?_
      refine w_aload dX3_veneerByte_46 rfl ?_
      refine r_geti  dX3_veneerByte_48 ft_3_133 R rfl huk rfl (lb rfl) (hv.2.1 k hk) ?_
      refine w_iload_n dX3_veneerByte_51 h2 ?_
      refine r_icmp_neP (t := 78) dX3_veneerByte_52 rfl (fun h52 => ?_) (fun h52 => ?_)
      ·
        refine w_iinc dX3_veneerByte_78 h4 (nI_1 _) (lb rfl) ?_
        refine w_goto (t := 20) dX3_veneerByte_81 rfl ?_
        exact ih (t + 1) _ (by omega) (by omega) (fun a ha => by
          by_cases e : a = t
          · rw [e, ek]; exact h52
          · exact hb a (by omega)) h0 h1 h2 h3 rfl
      ·
        have cyk := clI rk.2.2.2.1.1
        have hyk : cl (tT τ 24 k) < tN τ 2 := by omega
        refine w_aload_n dX3_veneerByte_55 h0 ?_
        refine w_aload dX3_veneerByte_56 rfl ?_
        refine r_getr  dX3_veneerByte_58 ft_3_207 R rfl (cT_Ru hT hk) rfl (lb rfl) (cT_R hT hk 3 (lb rfl)) ?_
        refine r_inv1  dX3_veneerByte_61 mt_3_222 R rfl (hS _ _ rfl) rfl (lb rfl) (lb rfl) (lb rfl) (lb rfl) rfl (c3_tv R hS hT hV hF (VI_nv hvi hV) hP hES hyk (fun ha => hO k hk (by rw [hcx]; exact hkk) ha) ⟨_, rfl, ?_⟩)
        refine w_aload dX3_veneerByte_64 rfl ?_
        refine r_geti  dX3_veneerByte_66 ft_3_204 R rfl (cT_Ru hT hk) rfl (lb rfl) (cT_R hT hk 4 (lb rfl)) ?_
        refine w_i2l dX3_veneerByte_69 ?_
        refine w_ladd dX3_veneerByte_70 ?_
        refine w_iload_n dX3_veneerByte_71 h3 ?_
        refine w_iconst (v := nI 4) dX3_veneerByte_72 (by decide) ?_
        refine w_isub dX3_veneerByte_73 ?_
        refine r_stat2 dX3_veneerByte_74 mt_3_233 (lb rfl) (lb rfl) (lb rfl) (lb rfl) rfl (c3_byteOf ⟨_, rfl, ?_⟩)
        refine w_iret dX3_veneerByte_77 rfl rfl ?_
        obtain ⟨g2, e2⟩ : ∃ g2, S.2 k = some g2 := by
          cases e : S.2 k with
          | none => rw [(vnI_none (by omega) k).mpr e] at h52; exact absurd h52.symm (nI_m1 hv2)
          | some g2 => exact ⟨g2, rfl⟩
        obtain ⟨hg2, a1, a2, a3⟩ := hvi.2.1 k g2 e2
        have hgl := (hvi.1.1 g2 hg2).1
        have a1 : (S.1[g2]).1 = x := nI_inj (by omega) (by omega) (a1.trans hkx)
        have ec : (S.1.take g2).countP (fun e => Nat.beq e.1 x) = v := by
          have h9 := h52
          unfold vnI at h9
          rw [e2] at h9
          simp only [hcx] at h9
          have hcn : (S.1.take g2).countP (fun e => Nat.beq e.1 x) ≤ S.1.length := Nat.le_trans List.countP_le_length (by rw [List.length_take]; omega)
          exact nI_inj (by omega) hv2 h9
        have egg : g2 = g := vx_in hg2 hg a1 hgx (ec.trans hgv.symm)
        subst egg
        have evv : vvI τ w S.1 (S.1[g2]).2 = vvI τ w S.1 k := vv_same a2 a3
        have e9 : vby τ w S.1 g2 i = sby (Int64.ofInt (vvI τ w S.1 k)) (Int32.ofInt ((i : Int) - 4)) := by
          unfold vby; rw [List.getElem?_eq_getElem hg2]
          show (if (i : Int) = 0 then _ else if (i : Int) < 4 then _ else _) = _
          rw [if_neg (by omega), if_neg (by omega), evv]
        rw [e9] at q
        rw [nI_s4 hi4 (by omega), lN_ofI, i64_ofI, ← Int64.ofInt_add]; exact q
theorem c3_vbyte (R : rx_R b0 O z1 z2 s G) (hS : rx_in s) {τ : tx_T} (hT : CT E s τ) (hV : TV τ) {w : Bool} (hF : FD E s τ w) (hE : WE b0 O E) (hO : AO τ) {S : vS} (hvi : VI τ w S) (hv : VC s τ S) (hP : PC s τ w S.1) (hES : ES s τ w S.1) {x g v i : Nat} (hx : x < tN τ 1) (hpl : plB τ w x = true) (hg : g < S.1.length) (hgx : (S.1[g]).1 = x) (hgv : (S.1.take g).countP (fun e => Nat.beq e.1 x) = v) (hi : i < 8) (q : Q (.inl (some (.int (vby τ w S.1 g i)))) G) : mx_W (gt_P b0 mi E) mX3_veneerByte 0 (mx_en 0 [.ref (rA s 7 0), .ref (rA s 20 x), .int (nI v), .int (nI i)]) [] G Q := by
  refine w_iload_n dX3_veneerByte_0 rfl ?_
  refine w_iconst (v := nI 4) dX3_veneerByte_1 (by decide) ?_
  refine r_icmp_gen (t := 17) dX3_veneerByte_2 rfl (by omega) (by omega) (fun h2 => ?_) (fun h2 => ?_)
  ·
    refine w_iconst (v := nI 0) dX3_veneerByte_17 (by decide) ?_
    refine w_istore dX3_veneerByte_18 (lb rfl) ?_
    exact c3_vb_l R hS hT hV hF hE hO hvi hv hP hES hx hpl hg hgx hgv hi (by omega) q _ 0 _ (Nat.lt_succ_self _) (Nat.zero_le _) (fun a ha => absurd ha (Nat.not_lt_zero _)) rfl rfl rfl rfl rfl
  ·
    refine w_iload_n dX3_veneerByte_5 rfl ?_
    refine r_if_nei (t := 15) dX3_veneerByte_6 rfl (fun h6 => ?_) (fun h6 => ?_)
    ·
      refine w_iconst (v := 0) dX3_veneerByte_15 (by decide) ?_
      refine w_iret dX3_veneerByte_16 rfl rfl ?_
      rw [nI_toInt (by omega)] at h6
      rw [show vby τ w S.1 g i = 0 from by
        unfold vby; rw [List.getElem?_eq_getElem hg]
        show (if (i : Int) = 0 then _ else if (i : Int) < 4 then _ else _) = _
        rw [if_neg (by omega), if_pos (by omega)]] at q; exact q
    ·
      refine w_sipush (v := 234) dX3_veneerByte_9 (by decide) ?_
      refine w_goto (t := 16) dX3_veneerByte_12 rfl ?_
      refine w_iret dX3_veneerByte_16 rfl rfl ?_
      rw [nI_toInt (by omega)] at h6
      rw [show vby τ w S.1 g i = 234 from by
        unfold vby; rw [List.getElem?_eq_getElem hg]
        show (if (i : Int) = 0 then _ else if (i : Int) < 4 then _ else _) = _
        rw [if_pos (by omega)]] at q; exact q
end
