section
variable {b0 mi z1 z2 : Nat} {E : Nat → Nat} {O : Nat → Option mx_C} {s : rx_S} {G : mx_H} {Q : mx_O → mx_H → Prop}
theorem i32e {x y : Int32} (h : x.toInt = y.toInt) : x = y := Int32.toInt_inj.mp h
theorem clI {x : Int32} (h : 0 ≤ x.toInt) : (cl x : Int) = x.toInt := by
  obtain ⟨j, hj, rfl⟩ := nI_ofI h
  rw [show cl (nI j) = j from nI_clamp hj, nI_toInt hj]
theorem clN {j : Nat} (h : j < 2 ^ 31) : cl (nI j) = j := nI_clamp h
/-- an entry of a table of the model is written, and of what was told -/
theorem wu (I : Nat → Nat → Nat → Int32) (T : Nat → Nat → Int32) {f j : Nat} {v : Int32} {i : Nat} (h : i ≠ j → I 1 f i = T f i) : w3 I 1 f j v 1 f i = u2 T f j v f i := by
  rw [w3_if, u2_if]
  by_cases e : i = j
  · rw [if_pos ⟨rfl, rfl, e⟩, if_pos ⟨rfl, e⟩]
  · rw [if_neg (fun q => e q.2.2), if_neg (fun q => e q.2)]; exact h e
theorem c10_mark_x (R : rx_R b0 O z1 z2 s G) (hS : rx_in s) {τ : tx_T} (hT : MR s τ) (hV : TV τ) {x w v : Int32} (hw : (0 ≤ w.toInt → w.toInt ≤ 2 → False)) (qn : ∀ r9, f_mark τ x w v = (r9, none) → Q (.inl (some (.int r9))) G) (qs : ∀ r9 τ', f_mark τ x w v = (r9, some τ') → ∀ s' G', rx_R b0 O z1 z2 s' G' → mfr s s' → MR s' τ' → MT s' → Q (.inl (some (.int r9))) G') : mx_W (gt_P b0 mi E) mX10_mark 0 (mx_en 0 [.ref (rA s 0 0), .int x, .int w, .int v]) [] G Q := by
  obtain ⟨hM, ⟨c1, c2, c13, c14, c20, c26⟩, hsec, hby, hsy, hre, hro, hba⟩ := hT
  have hV0 := hV.1
  refine w_iload_n dX10_mark_0 rfl ?_
  refine w_i2l dX10_mark_1 ?_
  refine w_lconst (v := 0) dX10_mark_2 (by decide) ?_
  refine w_aload_n dX10_mark_3 rfl ?_
  refine r_geti  dX10_mark_4 ft_9_165 R rfl (hS _ _ rfl) rfl (lb rfl) c2 ?_
  refine w_iconst (v := 1) dX10_mark_7 (by decide) ?_
  refine w_isub dX10_mark_8 ?_
  refine w_i2l dX10_mark_9 ?_
  refine r_stat3 dX10_mark_10 mt_9_155 (lb rfl) (lb rfl) (lb rfl) (lb rfl) rfl (c10_inI (Int32.toInt_toInt64 _) (b := 0) (by decide) (t_cnt (by omega)) (fun i10a i10b => ⟨_, rfl, ?_⟩) (fun i10 => ⟨_, rfl, ?_⟩))
  ·
    refine w_if_ne (t := 19) dX10_mark_13 rfl (fun _ => ?_) (fun h => absurd (by decide) h)
    obtain ⟨j, hj, rfl⟩ := nI_ofI i10a
    rw [nI_toInt hj] at i10a i10b
    have hjn : j < tN τ 1 := by omega
    refine w_iload_n dX10_mark_19 rfl ?_
    refine w_i2l dX10_mark_20 ?_
    refine w_lconst (v := 0) dX10_mark_21 (by decide) ?_
    refine w_ldc2 dX10_mark_22 ct_9_178 ?_
    refine r_stat3 dX10_mark_25 mt_9_155 (lb rfl) (lb rfl) (lb rfl) (lb rfl) rfl (c10_inI (Int32.toInt_toInt64 _) (b := 0) (by decide) (c := 2) (by decide) (fun a b => absurd b (hw a)) (fun i25 => ⟨_, rfl, ?_⟩))
    refine w_if_eq (t := 72) dX10_mark_28 rfl (fun _ => ?_) (fun h => absurd (by decide) h)
    refine w_bipush (v := (-102)) dX10_mark_72 (by decide) ?_
    exact w_iret dX10_mark_74 rfl rfl (qn _ (by rw [f_mark, if_neg (Classical.not_not.mpr ⟨by rw [nI_toInt hj]; omega, by rw [nI_toInt hj]; omega⟩), if_neg (fun e => hw (by rw [e]; decide) (by rw [e]; decide)), if_neg (fun e => hw (by rw [e]; decide) (by rw [e]; decide)), if_neg (fun e => hw (by rw [e]; decide) (by rw [e]; decide))]))
  ·
    refine w_if_ne (t := 19) dX10_mark_13 rfl (fun h => absurd h (by decide)) (fun _ => ?_)
    refine w_bipush (v := (-101)) dX10_mark_16 (by decide) ?_
    exact w_iret dX10_mark_18 rfl rfl (qn _ (by rw [f_mark, if_pos (fun e => i10 e.1 (by omega))]))
theorem c10_mark_0 (R : rx_R b0 O z1 z2 s G) (hS : rx_in s) {τ : tx_T} (hT : MR s τ) (hV : TV τ) {x v : Int32} (qn : ∀ r9, f_mark τ x 0 v = (r9, none) → Q (.inl (some (.int r9))) G) (qs : ∀ r9 τ', f_mark τ x 0 v = (r9, some τ') → ∀ s' G', rx_R b0 O z1 z2 s' G' → mfr s s' → MR s' τ' → MT s' → Q (.inl (some (.int r9))) G') : mx_W (gt_P b0 mi E) mX10_mark 0 (mx_en 0 [.ref (rA s 0 0), .int x, .int 0, .int v]) [] G Q := by
  obtain ⟨hM, ⟨c1, c2, c13, c14, c20, c26⟩, hsec, hby, hsy, hre, hro, hba⟩ := hT
  have hV0 := hV.1
  refine w_iload_n dX10_mark_0 rfl ?_
  refine w_i2l dX10_mark_1 ?_
  refine w_lconst (v := 0) dX10_mark_2 (by decide) ?_
  refine w_aload_n dX10_mark_3 rfl ?_
  refine r_geti  dX10_mark_4 ft_9_165 R rfl (hS _ _ rfl) rfl (lb rfl) c2 ?_
  refine w_iconst (v := 1) dX10_mark_7 (by decide) ?_
  refine w_isub dX10_mark_8 ?_
  refine w_i2l dX10_mark_9 ?_
  refine r_stat3 dX10_mark_10 mt_9_155 (lb rfl) (lb rfl) (lb rfl) (lb rfl) rfl (c10_inI (Int32.toInt_toInt64 _) (b := 0) (by decide) (t_cnt (by omega)) (fun i10a i10b => ⟨_, rfl, ?_⟩) (fun i10 => ⟨_, rfl, ?_⟩))
  ·
    refine w_if_ne (t := 19) dX10_mark_13 rfl (fun _ => ?_) (fun h => absurd (by decide) h)
    obtain ⟨j, hj, rfl⟩ := nI_ofI i10a
    rw [nI_toInt hj] at i10a i10b
    have hjn : j < tN τ 1 := by omega
    refine w_iload_n dX10_mark_19 rfl ?_
    refine w_i2l dX10_mark_20 ?_
    refine w_lconst (v := 0) dX10_mark_21 (by decide) ?_
    refine w_ldc2 dX10_mark_22 ct_9_178 ?_
    refine r_stat3 dX10_mark_25 mt_9_155 (lb rfl) (lb rfl) (lb rfl) (lb rfl) rfl (c10_inI (Int32.toInt_toInt64 _) (b := 0) (by decide) (c := 2) (by decide) (fun a b => ⟨_, rfl, ?_⟩) (fun h => absurd (h (by decide) (by decide)) id))
    refine w_if_eq (t := 72) dX10_mark_28 rfl (fun h => absurd h (by decide)) (fun _ => ?_)
    refine w_iload_n dX10_mark_31 rfl ?_
    refine w_i2l dX10_mark_32 ?_
    refine w_iload_n dX10_mark_33 rfl ?_
    refine w_if_ne (t := 41) dX10_mark_34 rfl (fun h => absurd h (by decide)) (fun _ => ?_)
    refine w_lconst (v := 0) dX10_mark_37 (by decide) ?_
    refine w_goto (t := 44) dX10_mark_38 rfl ?_
    refine w_iload_n dX10_mark_44 rfl ?_
    refine w_if_ne (t := 52) dX10_mark_45 rfl (fun h => absurd h (by decide)) (fun _ => ?_)
    refine w_lconst (v := 1) dX10_mark_48 (by decide) ?_
    refine w_goto (t := 66) dX10_mark_49 rfl ?_
    refine r_stat3 dX10_mark_66 mt_9_155 (lb rfl) (lb rfl) (lb rfl) (lb rfl) rfl (c10_inI (Int32.toInt_toInt64 _) (b := 0) (by decide) (c := 1) (by decide) (fun i66a i66b => ⟨_, rfl, ?_⟩) (fun i66 => ⟨_, rfl, ?_⟩))
    ·
      refine w_if_ne (t := 75) dX10_mark_69 rfl (fun _ => ?_) (fun h => absurd (by decide) h)
      refine w_aload_n dX10_mark_75 rfl ?_
      refine r_inv0  dX10_mark_76 mt_9_152 R rfl (hS _ _ rfl) rfl (lb rfl) (lb rfl) (lb rfl) (lb rfl) rfl (c10_told R hS hM (fun _ Rt => ⟨_, rfl, ?_⟩))
      refine w_iload_n dX10_mark_79 rfl ?_
      refine w_if_ne (t := 100) dX10_mark_80 rfl (fun h => absurd h (by decide)) (fun _ => ?_)
      refine w_aload_n dX10_mark_83 rfl ?_
      refine r_getr  dX10_mark_84 ft_9_29 Rt rfl (hS _ _ rfl) rfl (lb rfl) (hM.1 8 (lb rfl) (lb rfl)) ?_
      refine w_iload_n dX10_mark_87 rfl ?_
      refine r_zald  dX10_mark_88 Rt rfl (hS _ _ rfl) rfl rfl (by omega) (lb rfl) ((hsec j hjn).2.2.2.2.1.trans rfl) ?_
      refine w_if_eq (t := 96) dX10_mark_89 rfl (fun h89 => ?_) (fun h89 => ?_)
      ·
        have hk0 : tT τ 8 j = 0 := h89
        refine w_iconst (v := 0) dX10_mark_96 (by decide) ?_
        refine w_goto (t := 120) dX10_mark_97 rfl ?_
        refine w_istore dX10_mark_120 (lb rfl) ?_
        refine w_iload_n dX10_mark_122 rfl ?_
        refine w_if_ne (t := 145) dX10_mark_123 rfl (fun h => absurd h (by decide)) (fun _ => ?_)
        refine w_aload_n dX10_mark_126 rfl ?_
        refine r_getr  dX10_mark_127 ft_9_29 Rt rfl (hS _ _ rfl) rfl (lb rfl) (hM.1 8 (lb rfl) (lb rfl)) ?_
        refine w_iload_n dX10_mark_130 rfl ?_
        refine w_iload_n dX10_mark_131 rfl ?_
        refine w_iconst (v := 1) dX10_mark_132 (by decide) ?_
        refine r_icmp_neP (t := 140) dX10_mark_133 rfl (fun h133 => ?_) (fun h133 => ?_)
        ·
          refine w_iconst (v := 0) dX10_mark_140 (by decide) ?_
          refine r_zast  dX10_mark_141 Rt rfl (hS _ _ rfl) rfl rfl (by omega) (lb rfl) (show vp_nar .boolean 0 = 0 from rfl) (fun G1 R1 => ?_)
          refine w_goto (t := 167) dX10_mark_142 rfl ?_
          refine w_iload dX10_mark_167 rfl ?_
          refine w_iret dX10_mark_169 rfl rfl ?_
          refine qs _ _ (by rw [f_mark, if_neg (Classical.not_not.mpr ⟨by rw [nI_toInt hj]; omega, by rw [nI_toInt hj]; omega⟩), if_pos rfl, if_pos (show iw v 0 1 from ⟨i66a, i66b⟩), clN hj, (show tT τ 8 j = 0 from hk0), if_neg (show ¬ v = 1 from h133)]) _ _ R1 (mfr.told s).I ?_ ⟨rfl, rfl, rfl, rfl⟩
          exact ⟨m_told_F hM, ⟨c1, c2, c13, c14, c20, c26⟩, fun i hi => ⟨(hsec i hi).1, (hsec i hi).2.1, (hsec i hi).2.2.1, (hsec i hi).2.2.2.1, wu s.2.2.2.1 τ.2.1 (fun _ => (hsec i hi).2.2.2.2.1), (hsec i hi).2.2.2.2.2.1, (hsec i hi).2.2.2.2.2.2⟩, hby, hsy, hre, hro, hba⟩
        ·
          refine w_iconst (v := 1) dX10_mark_136 (by decide) ?_
          refine w_goto (t := 141) dX10_mark_137 rfl ?_
          refine r_zast  dX10_mark_141 Rt rfl (hS _ _ rfl) rfl rfl (by omega) (lb rfl) (show vp_nar .boolean 1 = 1 from rfl) (fun G2 R2 => ?_)
          refine w_goto (t := 167) dX10_mark_142 rfl ?_
          refine w_iload dX10_mark_167 rfl ?_
          refine w_iret dX10_mark_169 rfl rfl ?_
          refine qs _ _ (by rw [f_mark, if_neg (Classical.not_not.mpr ⟨by rw [nI_toInt hj]; omega, by rw [nI_toInt hj]; omega⟩), if_pos rfl, if_pos (show iw v 0 1 from ⟨i66a, i66b⟩), clN hj, (show tT τ 8 j = 0 from hk0), if_pos (show v = 1 from h133)]) _ _ R2 (mfr.told s).I ?_ ⟨rfl, rfl, rfl, rfl⟩
          exact ⟨m_told_F hM, ⟨c1, c2, c13, c14, c20, c26⟩, fun i hi => ⟨(hsec i hi).1, (hsec i hi).2.1, (hsec i hi).2.2.1, (hsec i hi).2.2.2.1, wu s.2.2.2.1 τ.2.1 (fun _ => (hsec i hi).2.2.2.2.1), (hsec i hi).2.2.2.2.2.1, (hsec i hi).2.2.2.2.2.2⟩, hby, hsy, hre, hro, hba⟩
      ·
        have hk1 : tT τ 8 j = 1 := by
          have hb := (hV.2.1 j hjn).2.2.2.2.1
          have : (tT τ 8 j).toInt ≠ 0 := fun e => h89 (i32e e)
          exact i32e (show _ = (1 : Int) by omega)
        refine w_iconst (v := 1) dX10_mark_92 (by decide) ?_
        refine w_goto (t := 120) dX10_mark_93 rfl ?_
        refine w_istore dX10_mark_120 (lb rfl) ?_
        refine w_iload_n dX10_mark_122 rfl ?_
        refine w_if_ne (t := 145) dX10_mark_123 rfl (fun h => absurd h (by decide)) (fun _ => ?_)
        refine w_aload_n dX10_mark_126 rfl ?_
        refine r_getr  dX10_mark_127 ft_9_29 Rt rfl (hS _ _ rfl) rfl (lb rfl) (hM.1 8 (lb rfl) (lb rfl)) ?_
        refine w_iload_n dX10_mark_130 rfl ?_
        refine w_iload_n dX10_mark_131 rfl ?_
        refine w_iconst (v := 1) dX10_mark_132 (by decide) ?_
        refine r_icmp_neP (t := 140) dX10_mark_133 rfl (fun h133 => ?_) (fun h133 => ?_)
        ·
          refine w_iconst (v := 0) dX10_mark_140 (by decide) ?_
          refine r_zast  dX10_mark_141 Rt rfl (hS _ _ rfl) rfl rfl (by omega) (lb rfl) (show vp_nar .boolean 0 = 0 from rfl) (fun G3 R3 => ?_)
          refine w_goto (t := 167) dX10_mark_142 rfl ?_
          refine w_iload dX10_mark_167 rfl ?_
          refine w_iret dX10_mark_169 rfl rfl ?_
          refine qs _ _ (by rw [f_mark, if_neg (Classical.not_not.mpr ⟨by rw [nI_toInt hj]; omega, by rw [nI_toInt hj]; omega⟩), if_pos rfl, if_pos (show iw v 0 1 from ⟨i66a, i66b⟩), clN hj, (show tT τ 8 j = 1 from hk1), if_neg (show ¬ v = 1 from h133)]) _ _ R3 (mfr.told s).I ?_ ⟨rfl, rfl, rfl, rfl⟩
          exact ⟨m_told_F hM, ⟨c1, c2, c13, c14, c20, c26⟩, fun i hi => ⟨(hsec i hi).1, (hsec i hi).2.1, (hsec i hi).2.2.1, (hsec i hi).2.2.2.1, wu s.2.2.2.1 τ.2.1 (fun _ => (hsec i hi).2.2.2.2.1), (hsec i hi).2.2.2.2.2.1, (hsec i hi).2.2.2.2.2.2⟩, hby, hsy, hre, hro, hba⟩
        ·
          refine w_iconst (v := 1) dX10_mark_136 (by decide) ?_
          refine w_goto (t := 141) dX10_mark_137 rfl ?_
          refine r_zast  dX10_mark_141 Rt rfl (hS _ _ rfl) rfl rfl (by omega) (lb rfl) (show vp_nar .boolean 1 = 1 from rfl) (fun G4 R4 => ?_)
          refine w_goto (t := 167) dX10_mark_142 rfl ?_
          refine w_iload dX10_mark_167 rfl ?_
          refine w_iret dX10_mark_169 rfl rfl ?_
          refine qs _ _ (by rw [f_mark, if_neg (Classical.not_not.mpr ⟨by rw [nI_toInt hj]; omega, by rw [nI_toInt hj]; omega⟩), if_pos rfl, if_pos (show iw v 0 1 from ⟨i66a, i66b⟩), clN hj, (show tT τ 8 j = 1 from hk1), if_pos (show v = 1 from h133)]) _ _ R4 (mfr.told s).I ?_ ⟨rfl, rfl, rfl, rfl⟩
          exact ⟨m_told_F hM, ⟨c1, c2, c13, c14, c20, c26⟩, fun i hi => ⟨(hsec i hi).1, (hsec i hi).2.1, (hsec i hi).2.2.1, (hsec i hi).2.2.2.1, wu s.2.2.2.1 τ.2.1 (fun _ => (hsec i hi).2.2.2.2.1), (hsec i hi).2.2.2.2.2.1, (hsec i hi).2.2.2.2.2.2⟩, hby, hsy, hre, hro, hba⟩
    ·
      refine w_if_ne (t := 75) dX10_mark_69 rfl (fun h => absurd h (by decide)) (fun _ => ?_)
      refine w_bipush (v := (-102)) dX10_mark_72 (by decide) ?_
      exact w_iret dX10_mark_74 rfl rfl (qn _ (by rw [f_mark, if_neg (Classical.not_not.mpr ⟨by rw [nI_toInt hj]; omega, by rw [nI_toInt hj]; omega⟩), if_pos rfl, if_neg (show ¬ iw v 0 1 from fun e => i66 e.1 e.2)]))
  ·
    refine w_if_ne (t := 19) dX10_mark_13 rfl (fun h => absurd h (by decide)) (fun _ => ?_)
    refine w_bipush (v := (-101)) dX10_mark_16 (by decide) ?_
    exact w_iret dX10_mark_18 rfl rfl (qn _ (by rw [f_mark, if_pos (fun e => i10 e.1 (by omega))]))
theorem c10_mark_1 (R : rx_R b0 O z1 z2 s G) (hS : rx_in s) {τ : tx_T} (hT : MR s τ) (hV : TV τ) {x v : Int32} (qn : ∀ r9, f_mark τ x 1 v = (r9, none) → Q (.inl (some (.int r9))) G) (qs : ∀ r9 τ', f_mark τ x 1 v = (r9, some τ') → ∀ s' G', rx_R b0 O z1 z2 s' G' → mfr s s' → MR s' τ' → MT s' → Q (.inl (some (.int r9))) G') : mx_W (gt_P b0 mi E) mX10_mark 0 (mx_en 0 [.ref (rA s 0 0), .int x, .int 1, .int v]) [] G Q := by
  obtain ⟨hM, ⟨c1, c2, c13, c14, c20, c26⟩, hsec, hby, hsy, hre, hro, hba⟩ := hT
  have hV0 := hV.1
  refine w_iload_n dX10_mark_0 rfl ?_
  refine w_i2l dX10_mark_1 ?_
  refine w_lconst (v := 0) dX10_mark_2 (by decide) ?_
  refine w_aload_n dX10_mark_3 rfl ?_
  refine r_geti  dX10_mark_4 ft_9_165 R rfl (hS _ _ rfl) rfl (lb rfl) c2 ?_
  refine w_iconst (v := 1) dX10_mark_7 (by decide) ?_
  refine w_isub dX10_mark_8 ?_
  refine w_i2l dX10_mark_9 ?_
  refine r_stat3 dX10_mark_10 mt_9_155 (lb rfl) (lb rfl) (lb rfl) (lb rfl) rfl (c10_inI (Int32.toInt_toInt64 _) (b := 0) (by decide) (t_cnt (by omega)) (fun i10a i10b => ⟨_, rfl, ?_⟩) (fun i10 => ⟨_, rfl, ?_⟩))
  ·
    refine w_if_ne (t := 19) dX10_mark_13 rfl (fun _ => ?_) (fun h => absurd (by decide) h)
    obtain ⟨j, hj, rfl⟩ := nI_ofI i10a
    rw [nI_toInt hj] at i10a i10b
    have hjn : j < tN τ 1 := by omega
    refine w_iload_n dX10_mark_19 rfl ?_
    refine w_i2l dX10_mark_20 ?_
    refine w_lconst (v := 0) dX10_mark_21 (by decide) ?_
    refine w_ldc2 dX10_mark_22 ct_9_178 ?_
    refine r_stat3 dX10_mark_25 mt_9_155 (lb rfl) (lb rfl) (lb rfl) (lb rfl) rfl (c10_inI (Int32.toInt_toInt64 _) (b := 0) (by decide) (c := 2) (by decide) (fun a b => ⟨_, rfl, ?_⟩) (fun h => absurd (h (by decide) (by decide)) id))
    refine w_if_eq (t := 72) dX10_mark_28 rfl (fun h => absurd h (by decide)) (fun _ => ?_)
    refine w_iload_n dX10_mark_31 rfl ?_
    refine w_i2l dX10_mark_32 ?_
    refine w_iload_n dX10_mark_33 rfl ?_
    refine w_if_ne (t := 41) dX10_mark_34 rfl (fun _ => ?_) (fun h => absurd (by decide) h)
    refine w_ldc2 dX10_mark_41 ct_9_76 ?_
    refine w_iload_n dX10_mark_44 rfl ?_
    refine w_if_ne (t := 52) dX10_mark_45 rfl (fun _ => ?_) (fun h => absurd (by decide) h)
    refine w_iload_n dX10_mark_52 rfl ?_
    refine w_iconst (v := 1) dX10_mark_53 (by decide) ?_
    refine w_icmp_ne (t := 63) dX10_mark_54 rfl (fun h => absurd h (by decide)) (fun _ => ?_)
    refine w_ldc2 dX10_mark_57 ct_9_180 ?_
    refine w_goto (t := 66) dX10_mark_60 rfl ?_
    refine r_stat3 dX10_mark_66 mt_9_155 (lb rfl) (lb rfl) (lb rfl) (lb rfl) rfl (c10_inI (Int32.toInt_toInt64 _) (b := -1) (by decide) (c := 7) (by decide) (fun i66a i66b => ⟨_, rfl, ?_⟩) (fun i66 => ⟨_, rfl, ?_⟩))
    ·
      refine w_if_ne (t := 75) dX10_mark_69 rfl (fun _ => ?_) (fun h => absurd (by decide) h)
      refine w_aload_n dX10_mark_75 rfl ?_
      refine r_inv0  dX10_mark_76 mt_9_152 R rfl (hS _ _ rfl) rfl (lb rfl) (lb rfl) (lb rfl) (lb rfl) rfl (c10_told R hS hM (fun _ Rt => ⟨_, rfl, ?_⟩))
      refine w_iload_n dX10_mark_79 rfl ?_
      refine w_if_ne (t := 100) dX10_mark_80 rfl (fun _ => ?_) (fun h => absurd (by decide) h)
      refine w_iload_n dX10_mark_100 rfl ?_
      refine w_iconst (v := 1) dX10_mark_101 (by decide) ?_
      refine w_icmp_ne (t := 114) dX10_mark_102 rfl (fun h => absurd h (by decide)) (fun _ => ?_)
      refine w_aload_n dX10_mark_105 rfl ?_
      refine r_getr  dX10_mark_106 ft_9_33 Rt rfl (hS _ _ rfl) rfl (lb rfl) (hM.1 9 (lb rfl) (lb rfl)) ?_
      refine w_iload_n dX10_mark_109 rfl ?_
      refine r_iald  dX10_mark_110 Rt rfl (hS _ _ rfl) rfl rfl (by omega) (lb rfl) (hsec j hjn).2.2.2.2.2.1 ?_
      refine w_goto (t := 120) dX10_mark_111 rfl ?_
      refine w_istore dX10_mark_120 (lb rfl) ?_
      refine w_iload_n dX10_mark_122 rfl ?_
      refine w_if_ne (t := 145) dX10_mark_123 rfl (fun _ => ?_) (fun h => absurd (by decide) h)
      refine w_iload_n dX10_mark_145 rfl ?_
      refine w_iconst (v := 1) dX10_mark_146 (by decide) ?_
      refine w_icmp_ne (t := 160) dX10_mark_147 rfl (fun h => absurd h (by decide)) (fun _ => ?_)
      refine w_aload_n dX10_mark_150 rfl ?_
      refine r_getr  dX10_mark_151 ft_9_33 Rt rfl (hS _ _ rfl) rfl (lb rfl) (hM.1 9 (lb rfl) (lb rfl)) ?_
      refine w_iload_n dX10_mark_154 rfl ?_
      refine w_iload_n dX10_mark_155 rfl ?_
      refine r_iast  dX10_mark_156 Rt rfl (hS _ _ rfl) rfl rfl (by omega) (lb rfl) (fun G1 R1 => ?_)
      refine w_goto (t := 167) dX10_mark_157 rfl ?_
      refine w_iload dX10_mark_167 rfl ?_
      refine w_iret dX10_mark_169 rfl rfl ?_
      refine qs _ _ (by rw [f_mark, if_neg (Classical.not_not.mpr ⟨by rw [nI_toInt hj]; omega, by rw [nI_toInt hj]; omega⟩), if_neg (by decide), if_pos rfl, if_pos (show iw v (-1) 7 from ⟨i66a, i66b⟩), clN hj]) _ _ R1 (mfr.told s).I ?_ ⟨rfl, rfl, rfl, rfl⟩
      exact ⟨m_told_F hM, ⟨c1, c2, c13, c14, c20, c26⟩, fun i hi => ⟨(hsec i hi).1, (hsec i hi).2.1, (hsec i hi).2.2.1, (hsec i hi).2.2.2.1, (hsec i hi).2.2.2.2.1, wu s.2.2.2.1 τ.2.1 (fun _ => (hsec i hi).2.2.2.2.2.1), (hsec i hi).2.2.2.2.2.2⟩, hby, hsy, hre, hro, hba⟩
    ·
      refine w_if_ne (t := 75) dX10_mark_69 rfl (fun h => absurd h (by decide)) (fun _ => ?_)
      refine w_bipush (v := (-102)) dX10_mark_72 (by decide) ?_
      exact w_iret dX10_mark_74 rfl rfl (qn _ (by rw [f_mark, if_neg (Classical.not_not.mpr ⟨by rw [nI_toInt hj]; omega, by rw [nI_toInt hj]; omega⟩), if_neg (by decide), if_pos rfl, if_neg (show ¬ iw v (-1) 7 from fun e => i66 e.1 e.2)]))
  ·
    refine w_if_ne (t := 19) dX10_mark_13 rfl (fun h => absurd h (by decide)) (fun _ => ?_)
    refine w_bipush (v := (-101)) dX10_mark_16 (by decide) ?_
    exact w_iret dX10_mark_18 rfl rfl (qn _ (by rw [f_mark, if_pos (fun e => i10 e.1 (by omega))]))
theorem c10_mark_2 (R : rx_R b0 O z1 z2 s G) (hS : rx_in s) {τ : tx_T} (hT : MR s τ) (hV : TV τ) {x v : Int32} (qn : ∀ r9, f_mark τ x 2 v = (r9, none) → Q (.inl (some (.int r9))) G) (qs : ∀ r9 τ', f_mark τ x 2 v = (r9, some τ') → ∀ s' G', rx_R b0 O z1 z2 s' G' → mfr s s' → MR s' τ' → MT s' → Q (.inl (some (.int r9))) G') : mx_W (gt_P b0 mi E) mX10_mark 0 (mx_en 0 [.ref (rA s 0 0), .int x, .int 2, .int v]) [] G Q := by
  obtain ⟨hM, ⟨c1, c2, c13, c14, c20, c26⟩, hsec, hby, hsy, hre, hro, hba⟩ := hT
  have hV0 := hV.1
  refine w_iload_n dX10_mark_0 rfl ?_
  refine w_i2l dX10_mark_1 ?_
  refine w_lconst (v := 0) dX10_mark_2 (by decide) ?_
  refine w_aload_n dX10_mark_3 rfl ?_
  refine r_geti  dX10_mark_4 ft_9_165 R rfl (hS _ _ rfl) rfl (lb rfl) c2 ?_
  refine w_iconst (v := 1) dX10_mark_7 (by decide) ?_
  refine w_isub dX10_mark_8 ?_
  refine w_i2l dX10_mark_9 ?_
  refine r_stat3 dX10_mark_10 mt_9_155 (lb rfl) (lb rfl) (lb rfl) (lb rfl) rfl (c10_inI (Int32.toInt_toInt64 _) (b := 0) (by decide) (t_cnt (by omega)) (fun i10a i10b => ⟨_, rfl, ?_⟩) (fun i10 => ⟨_, rfl, ?_⟩))
  ·
    refine w_if_ne (t := 19) dX10_mark_13 rfl (fun _ => ?_) (fun h => absurd (by decide) h)
    obtain ⟨j, hj, rfl⟩ := nI_ofI i10a
    rw [nI_toInt hj] at i10a i10b
    have hjn : j < tN τ 1 := by omega
    refine w_iload_n dX10_mark_19 rfl ?_
    refine w_i2l dX10_mark_20 ?_
    refine w_lconst (v := 0) dX10_mark_21 (by decide) ?_
    refine w_ldc2 dX10_mark_22 ct_9_178 ?_
    refine r_stat3 dX10_mark_25 mt_9_155 (lb rfl) (lb rfl) (lb rfl) (lb rfl) rfl (c10_inI (Int32.toInt_toInt64 _) (b := 0) (by decide) (c := 2) (by decide) (fun a b => ⟨_, rfl, ?_⟩) (fun h => absurd (h (by decide) (by decide)) id))
    refine w_if_eq (t := 72) dX10_mark_28 rfl (fun h => absurd h (by decide)) (fun _ => ?_)
    refine w_iload_n dX10_mark_31 rfl ?_
    refine w_i2l dX10_mark_32 ?_
    refine w_iload_n dX10_mark_33 rfl ?_
    refine w_if_ne (t := 41) dX10_mark_34 rfl (fun _ => ?_) (fun h => absurd (by decide) h)
    refine w_ldc2 dX10_mark_41 ct_9_76 ?_
    refine w_iload_n dX10_mark_44 rfl ?_
    refine w_if_ne (t := 52) dX10_mark_45 rfl (fun _ => ?_) (fun h => absurd (by decide) h)
    refine w_iload_n dX10_mark_52 rfl ?_
    refine w_iconst (v := 1) dX10_mark_53 (by decide) ?_
    refine w_icmp_ne (t := 63) dX10_mark_54 rfl (fun _ => ?_) (fun h => absurd (by decide) h)
    refine w_ldc2 dX10_mark_63 ct_9_182 ?_
    refine r_stat3 dX10_mark_66 mt_9_155 (lb rfl) (lb rfl) (lb rfl) (lb rfl) rfl (c10_inI (Int32.toInt_toInt64 _) (b := -1) (by decide) (c := 15) (by decide) (fun i66a i66b => ⟨_, rfl, ?_⟩) (fun i66 => ⟨_, rfl, ?_⟩))
    ·
      refine w_if_ne (t := 75) dX10_mark_69 rfl (fun _ => ?_) (fun h => absurd (by decide) h)
      refine w_aload_n dX10_mark_75 rfl ?_
      refine r_inv0  dX10_mark_76 mt_9_152 R rfl (hS _ _ rfl) rfl (lb rfl) (lb rfl) (lb rfl) (lb rfl) rfl (c10_told R hS hM (fun _ Rt => ⟨_, rfl, ?_⟩))
      refine w_iload_n dX10_mark_79 rfl ?_
      refine w_if_ne (t := 100) dX10_mark_80 rfl (fun _ => ?_) (fun h => absurd (by decide) h)
      refine w_iload_n dX10_mark_100 rfl ?_
      refine w_iconst (v := 1) dX10_mark_101 (by decide) ?_
      refine w_icmp_ne (t := 114) dX10_mark_102 rfl (fun _ => ?_) (fun h => absurd (by decide) h)
      refine w_aload_n dX10_mark_114 rfl ?_
      refine r_getr  dX10_mark_115 ft_9_36 Rt rfl (hS _ _ rfl) rfl (lb rfl) (hM.1 10 (lb rfl) (lb rfl)) ?_
      refine w_iload_n dX10_mark_118 rfl ?_
      refine r_iald  dX10_mark_119 Rt rfl (hS _ _ rfl) rfl rfl (by omega) (lb rfl) (hsec j hjn).2.2.2.2.2.2 ?_
      refine w_istore dX10_mark_120 (lb rfl) ?_
      refine w_iload_n dX10_mark_122 rfl ?_
      refine w_if_ne (t := 145) dX10_mark_123 rfl (fun _ => ?_) (fun h => absurd (by decide) h)
      refine w_iload_n dX10_mark_145 rfl ?_
      refine w_iconst (v := 1) dX10_mark_146 (by decide) ?_
      refine w_icmp_ne (t := 160) dX10_mark_147 rfl (fun _ => ?_) (fun h => absurd (by decide) h)
      refine w_aload_n dX10_mark_160 rfl ?_
      refine r_getr  dX10_mark_161 ft_9_36 Rt rfl (hS _ _ rfl) rfl (lb rfl) (hM.1 10 (lb rfl) (lb rfl)) ?_
      refine w_iload_n dX10_mark_164 rfl ?_
      refine w_iload_n dX10_mark_165 rfl ?_
      refine r_iast  dX10_mark_166 Rt rfl (hS _ _ rfl) rfl rfl (by omega) (lb rfl) (fun G1 R1 => ?_)
      refine w_iload dX10_mark_167 rfl ?_
      refine w_iret dX10_mark_169 rfl rfl ?_
      refine qs _ _ (by rw [f_mark, if_neg (Classical.not_not.mpr ⟨by rw [nI_toInt hj]; omega, by rw [nI_toInt hj]; omega⟩), if_neg (by decide), if_neg (by decide), if_pos rfl, if_pos (show iw v (-1) 15 from ⟨i66a, i66b⟩), clN hj]) _ _ R1 (mfr.told s).I ?_ ⟨rfl, rfl, rfl, rfl⟩
      exact ⟨m_told_F hM, ⟨c1, c2, c13, c14, c20, c26⟩, fun i hi => ⟨(hsec i hi).1, (hsec i hi).2.1, (hsec i hi).2.2.1, (hsec i hi).2.2.2.1, (hsec i hi).2.2.2.2.1, (hsec i hi).2.2.2.2.2.1, wu s.2.2.2.1 τ.2.1 (fun _ => (hsec i hi).2.2.2.2.2.2)⟩, hby, hsy, hre, hro, hba⟩
    ·
      refine w_if_ne (t := 75) dX10_mark_69 rfl (fun h => absurd h (by decide)) (fun _ => ?_)
      refine w_bipush (v := (-102)) dX10_mark_72 (by decide) ?_
      exact w_iret dX10_mark_74 rfl rfl (qn _ (by rw [f_mark, if_neg (Classical.not_not.mpr ⟨by rw [nI_toInt hj]; omega, by rw [nI_toInt hj]; omega⟩), if_neg (by decide), if_neg (by decide), if_pos rfl, if_neg (show ¬ iw v (-1) 15 from fun e => i66 e.1 e.2)]))
  ·
    refine w_if_ne (t := 19) dX10_mark_13 rfl (fun h => absurd h (by decide)) (fun _ => ?_)
    refine w_bipush (v := (-101)) dX10_mark_16 (by decide) ?_
    exact w_iret dX10_mark_18 rfl rfl (qn _ (by rw [f_mark, if_pos (fun e => i10 e.1 (by omega))]))
theorem c10_mark (R : rx_R b0 O z1 z2 s G) (hS : rx_in s) {τ : tx_T} (hT : MR s τ) (hV : TV τ) {x w v : Int32} (qn : ∀ r9, f_mark τ x w v = (r9, none) → Q (.inl (some (.int r9))) G) (qs : ∀ r9 τ', f_mark τ x w v = (r9, some τ') → ∀ s' G', rx_R b0 O z1 z2 s' G' → mfr s s' → MR s' τ' → MT s' → Q (.inl (some (.int r9))) G') : mx_W (gt_P b0 mi E) mX10_mark 0 (mx_en 0 [.ref (rA s 0 0), .int x, .int w, .int v]) [] G Q := by
  by_cases h0 : w = 0
  · subst h0; exact c10_mark_0 R hS hT hV qn qs
  · by_cases h1 : w = 1
    · subst h1; exact c10_mark_1 R hS hT hV qn qs
    · by_cases h2 : w = 2
      · subst h2; exact c10_mark_2 R hS hT hV qn qs
      · refine c10_mark_x R hS hT hV (fun a b => ?_) qn qs
        have e0 : w.toInt ≠ 0 := fun e => h0 (i32e e)
        have e1 : w.toInt ≠ 1 := fun e => h1 (i32e e)
        have e2 : w.toInt ≠ 2 := fun e => h2 (i32e e)
        omega
end
