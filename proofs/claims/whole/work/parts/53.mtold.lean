section
variable {b0 mi z1 z2 : Nat} {E : Nat → Nat} {O : Nat → Option mx_C} {s : rx_S} {G : mx_H} {Q : mx_O → mx_H → Prop}
theorem c10_inI {x l m : Int64} {a b c : Int} (hx : x.toInt = a) (hl : l.toInt = b) (hm : m.toInt = c) (qt : b ≤ a → a ≤ c → Q (.inl (some (.int 1))) G) (qf : (b ≤ a → a ≤ c → False) → Q (.inl (some (.int 0))) G) : mx_W (gt_P b0 mi E) mX10_in 0 (mx_en 0 [.long x, .long l, .long m]) [] G Q := by
  subst hx hl hm
  exact c10_in qt qf
theorem t_sub {v w : Int32} (h : 0 ≤ v.toInt) (h2 : 0 ≤ w.toInt) : (v - w).toInt = v.toInt - w.toInt := by
  rw [Int32.toInt_sub, Int.bmod_def]
  have := Int32.toInt_lt v
  have := Int32.toInt_lt w
  omega
theorem t_add {v w : Int32} (h : 0 ≤ v.toInt) (h2 : 0 ≤ w.toInt) (h3 : v.toInt + w.toInt < 2147483648) : (v + w).toInt = v.toInt + w.toInt := by
  rw [Int32.toInt_add, Int.bmod_def]
  omega
theorem t_m1 {v : Int32} (h : 0 ≤ v.toInt) : (v - 1).toInt64.toInt = v.toInt - 1 := by
  rw [Int32.toInt_toInt64, t_sub h (by decide)]; rfl
theorem nI_ofI {x : Int32} (h : 0 ≤ x.toInt) : ∃ j : Nat, j < 2 ^ 31 ∧ x = nI j := nI_of (fun e => by have := Int32.lt_iff_toInt_lt.mp e; simp at this; omega)
theorem c10_object (R : rx_R b0 O z1 z2 s G) (hS : rx_in s) {τ : tx_T} (hT : MR s τ) (hV : TV τ) (qn : ∀ r9, f_object τ = (r9, none) → Q (.inl (some (.int r9))) G) (qs : ∀ r9 τ', f_object τ = (r9, some τ') → ∀ s' G', rx_R b0 O z1 z2 s' G' → mfr s s' → MR s' τ' → MT s' → Q (.inl (some (.int r9))) G') : mx_W (gt_P b0 mi E) mX10_object 0 (mx_en 0 [.ref (rA s 0 0)]) [] G Q := by
  obtain ⟨hM, ⟨c1, c2, c13, c14, c20, c26⟩, hsec, hby, hsy, hre, hro, hba⟩ := hT
  have hV0 := hV.1
  refine w_aload_n dX10_object_0 rfl ?_
  refine r_geti  dX10_object_1 ft_9_149 R rfl (hS _ _ rfl) rfl (lb rfl) c1 ?_
  refine w_bipush (v := nI 12) dX10_object_4 (by decide) ?_
  refine r_icmp_nen (t := 12) dX10_object_6 rfl (by omega) (by omega) (fun h6 => ?_) (fun h6 => ?_)
  ·
    refine w_aload_n dX10_object_12 rfl ?_
    refine r_inv0  dX10_object_13 mt_9_152 R rfl (hS _ _ rfl) rfl (lb rfl) (lb rfl) (lb rfl) (lb rfl) rfl (c10_told R hS hM (fun _ Rt => ⟨_, rfl, ?_⟩))
    refine w_aload_n dX10_object_16 rfl ?_
    refine w_dup dX10_object_17 rfl ?_
    refine r_geti  dX10_object_18 ft_9_149 Rt rfl (hS _ _ rfl) rfl (lb rfl) c1 ?_
    refine w_iconst (v := 1) dX10_object_21 (by decide) ?_
    refine w_iadd dX10_object_22 ?_
    rw [nI_1]
    refine r_puti  dX10_object_23 ft_9_149 Rt rfl (hS _ _ rfl) rfl (lb rfl) (fun h => by cases h) rfl rfl (fun G1 R1 => ?_)
    refine w_aload_n dX10_object_26 rfl ?_
    refine r_geti  dX10_object_27 ft_9_149 R1 rfl (hS _ _ rfl) rfl (lb rfl) rfl ?_
    refine w_iconst (v := 1) dX10_object_30 (by decide) ?_
    refine w_isub dX10_object_31 ?_
    rw [nI_pred]
    refine w_iret dX10_object_32 rfl rfl ?_
    refine qs _ _ (by rw [f_object, if_neg h6]) _ _ R1 (mfr.told s).X ?_ ⟨rfl, rfl, rfl, rfl⟩
    exact ⟨rm_X (m_told_F hM) rfl, ⟨rfl, c2, c13, c14, c20, c26⟩, hsec, hby, hsy, hre, hro, hba⟩
  ·
    refine w_bipush (v := (-104)) dX10_object_9 (by decide) ?_
    exact w_iret dX10_object_11 rfl rfl (qn _ (by rw [f_object, if_pos h6]))
theorem c10_root (R : rx_R b0 O z1 z2 s G) (hS : rx_in s) {τ : tx_T} (hT : MR s τ) (hV : TV τ) {n : Int32} (qn : ∀ r9, f_root τ n = (r9, none) → Q (.inl (some (.int r9))) G) (qs : ∀ r9 τ', f_root τ n = (r9, some τ') → ∀ s' G', rx_R b0 O z1 z2 s' G' → mfr s s' → MR s' τ' → MT s' → Q (.inl (some (.int r9))) G') : mx_W (gt_P b0 mi E) mX10_root 0 (mx_en 0 [.ref (rA s 0 0), .int n]) [] G Q := by
  obtain ⟨hM, ⟨c1, c2, c13, c14, c20, c26⟩, hsec, hby, hsy, hre, hro, hba⟩ := hT
  have hV0 := hV.1
  refine w_iload_n dX10_root_0 rfl ?_
  refine w_i2l dX10_root_1 ?_
  refine w_lconst (v := 0) dX10_root_2 (by decide) ?_
  refine w_ldc2 dX10_root_3 ct_9_184 ?_
  refine r_stat3 dX10_root_6 mt_9_155 (lb rfl) (lb rfl) (lb rfl) (lb rfl) rfl (c10_inI (Int32.toInt_toInt64 _) (b := 0) (by decide) (c := 63) (by decide) (fun i6a i6b => ⟨_, rfl, ?_⟩) (fun i6 => ⟨_, rfl, ?_⟩))
  ·
    refine w_if_ne (t := 15) dX10_root_9 rfl (fun _ => ?_) (fun h => absurd (by decide) h)
    refine w_aload_n dX10_root_15 rfl ?_
    refine r_geti  dX10_root_16 ft_9_198 R rfl (hS _ _ rfl) rfl (lb rfl) c26 ?_
    refine w_bipush (v := nI 8) dX10_root_19 (by decide) ?_
    refine r_icmp_nen (t := 27) dX10_root_21 rfl (by omega) (by omega) (fun h21 => ?_) (fun h21 => ?_)
    ·
      refine w_aload_n dX10_root_27 rfl ?_
      refine r_inv0  dX10_root_28 mt_9_152 R rfl (hS _ _ rfl) rfl (lb rfl) (lb rfl) (lb rfl) (lb rfl) rfl (c10_told R hS hM (fun _ Rt => ⟨_, rfl, ?_⟩))
      refine w_aload_n dX10_root_31 rfl ?_
      refine r_getr  dX10_root_32 ft_9_73 Rt rfl (hS _ _ rfl) rfl (lb rfl) (hM.1 27 (lb rfl) (lb rfl)) ?_
      refine w_aload_n dX10_root_35 rfl ?_
      refine r_geti  dX10_root_36 ft_9_198 Rt rfl (hS _ _ rfl) rfl (lb rfl) c26 ?_
      refine w_iload_n dX10_root_39 rfl ?_
      refine r_iast  dX10_root_40 Rt rfl (hS _ _ rfl) rfl rfl (by omega) (lb rfl) (fun G1 R1 => ?_)
      refine w_aload_n dX10_root_41 rfl ?_
      refine w_dup dX10_root_42 rfl ?_
      refine r_geti  dX10_root_43 ft_9_198 R1 rfl (hS _ _ rfl) rfl (lb rfl) c26 ?_
      refine w_iconst (v := 1) dX10_root_46 (by decide) ?_
      refine w_iadd dX10_root_47 ?_
      rw [nI_1]
      refine r_puti  dX10_root_48 ft_9_198 R1 rfl (hS _ _ rfl) rfl (lb rfl) (fun h => by cases h) rfl rfl (fun G2 R2 => ?_)
      refine w_aload_n dX10_root_51 rfl ?_
      refine r_geti  dX10_root_52 ft_9_198 R2 rfl (hS _ _ rfl) rfl (lb rfl) rfl ?_
      refine w_iret dX10_root_55 rfl rfl ?_
      refine qs _ _ (by rw [f_root, if_neg (Classical.not_not.mpr ⟨i6a, i6b⟩), if_neg h21]) _ _ R2 (mfr.told s).I.X ?_ ⟨rfl, rfl, rfl, rfl⟩
      refine ⟨rm_X (m_told_F hM) rfl, ⟨c1, c2, c13, c14, c20, rfl⟩, hsec, hby, hsy, hre, fun k hk => ?_, hba⟩
      show w3 s.2.2.2.1 1 27 (tN τ 4) n 1 27 k = u2 τ.2.1 27 (tN τ 4) n 27 k
      rw [w3_if, u2_if]
      by_cases e : k = tN τ 4
      · rw [if_pos ⟨rfl, rfl, e⟩, if_pos ⟨rfl, e⟩]
      · rw [if_neg (fun q => e q.2.2), if_neg (fun q => e q.2)]
        exact hro k (by have : k < tN τ 4 + 1 := hk; omega)
    ·
      refine w_bipush (v := (-104)) dX10_root_24 (by decide) ?_
      exact w_iret dX10_root_26 rfl rfl (qn _ (by rw [f_root, if_neg (Classical.not_not.mpr ⟨i6a, i6b⟩), if_pos h21]))
  ·
    refine w_if_ne (t := 15) dX10_root_9 rfl (fun h => absurd h (by decide)) (fun _ => ?_)
    refine w_bipush (v := (-102)) dX10_root_12 (by decide) ?_
    exact w_iret dX10_root_14 rfl rfl (qn _ (by rw [f_root, if_pos (fun e => i6 e.1 e.2)]))
theorem c10_base (R : rx_R b0 O z1 z2 s G) (hS : rx_in s) {τ : tx_T} (hT : MR s τ) (hV : TV τ) {k p : Int32} (qn : ∀ r9, f_base τ k p = (r9, none) → Q (.inl (some (.int r9))) G) (qs : ∀ r9 τ', f_base τ k p = (r9, some τ') → ∀ s' G', rx_R b0 O z1 z2 s' G' → mfr s s' → MR s' τ' → MT s' → Q (.inl (some (.int r9))) G') : mx_W (gt_P b0 mi E) mX10_base 0 (mx_en 0 [.ref (rA s 0 0), .int k, .int p]) [] G Q := by
  obtain ⟨hM, ⟨c1, c2, c13, c14, c20, c26⟩, hsec, hby, hsy, hre, hro, hba⟩ := hT
  have hV0 := hV.1
  refine w_iload_n dX10_base_0 rfl ?_
  refine w_i2l dX10_base_1 ?_
  refine w_lconst (v := 0) dX10_base_2 (by decide) ?_
  refine w_ldc2 dX10_base_3 ct_9_159 ?_
  refine r_stat3 dX10_base_6 mt_9_155 (lb rfl) (lb rfl) (lb rfl) (lb rfl) rfl (c10_inI (Int32.toInt_toInt64 _) (b := 0) (by decide) (c := 3) (by decide) (fun i6a i6b => ⟨_, rfl, ?_⟩) (fun i6 => ⟨_, rfl, ?_⟩))
  ·
    refine w_if_eq (t := 26) dX10_base_9 rfl (fun h => absurd h (by decide)) (fun _ => ?_)
    refine w_iload_n dX10_base_12 rfl ?_
    refine w_i2l dX10_base_13 ?_
    refine w_ldc2 dX10_base_14 ct_9_76 ?_
    refine w_ldc2 dX10_base_17 ct_9_201 ?_
    refine r_stat3 dX10_base_20 mt_9_155 (lb rfl) (lb rfl) (lb rfl) (lb rfl) rfl (c10_inI (Int32.toInt_toInt64 _) (b := -1) (by decide) (c := 2000000000) (by decide) (fun i20a i20b => ⟨_, rfl, ?_⟩) (fun i20 => ⟨_, rfl, ?_⟩))
    ·
      refine w_if_ne (t := 29) dX10_base_23 rfl (fun _ => ?_) (fun h => absurd (by decide) h)
      obtain ⟨j, hj, rfl⟩ := nI_ofI i6a
      rw [nI_toInt hj] at i6a i6b
      have hj4 : j < 4 := by omega
      refine w_aload_n dX10_base_29 rfl ?_
      refine r_inv0  dX10_base_30 mt_9_152 R rfl (hS _ _ rfl) rfl (lb rfl) (lb rfl) (lb rfl) (lb rfl) rfl (c10_told R hS hM (fun _ Rt => ⟨_, rfl, ?_⟩))
      refine w_aload_n dX10_base_33 rfl ?_
      refine r_getr  dX10_base_34 ft_9_78 Rt rfl (hS _ _ rfl) rfl (lb rfl) (hM.1 28 (lb rfl) (lb rfl)) ?_
      refine w_iload_n dX10_base_37 rfl ?_
      refine r_lald  dX10_base_38 Rt rfl (hS _ _ rfl) rfl rfl (by omega) (lb rfl) rfl ?_
      refine w_l2i dX10_base_39 ?_
      rw [show (rL (m_told s) 1 28 j).toInt32 = tT τ 28 j from by rw [show rL (m_told s) 1 28 j = (tT τ 28 j).toInt64 from hba j hj4]; exact Int32.toInt32_toInt64 _]
      refine w_istore_n dX10_base_40 (lb rfl) ?_
      refine w_aload_n dX10_base_41 rfl ?_
      refine r_getr  dX10_base_42 ft_9_78 Rt rfl (hS _ _ rfl) rfl (lb rfl) (hM.1 28 (lb rfl) (lb rfl)) ?_
      refine w_iload_n dX10_base_45 rfl ?_
      refine w_iload_n dX10_base_46 rfl ?_
      refine w_i2l dX10_base_47 ?_
      refine r_last  dX10_base_48 Rt rfl (hS _ _ rfl) rfl rfl (by omega) (lb rfl) (fun G1 R1 => ?_)
      refine w_iload_n dX10_base_49 rfl ?_
      refine w_iret dX10_base_50 rfl rfl ?_
      refine qs _ _ (by rw [f_base, if_neg (Classical.not_not.mpr ⟨⟨by rw [nI_toInt hj]; omega, by rw [nI_toInt hj]; omega⟩, i20a, i20b⟩), show cl (nI j) = j from nI_clamp hj]) _ _ R1 (mfr.told s).L ?_ ⟨rfl, rfl, rfl, rfl⟩
      refine ⟨m_told_F hM, ⟨c1, c2, c13, c14, c20, c26⟩, hsec, hby, hsy, hre, hro, fun k hk => ?_⟩
      show w3 s.2.2.2.2.1 1 28 j p.toInt64 1 28 k = (u2 τ.2.1 28 j p 28 k).toInt64
      rw [w3_if, u2_if]
      by_cases e : k = j
      · rw [if_pos ⟨rfl, rfl, e⟩, if_pos ⟨rfl, e⟩]
      · rw [if_neg (fun q => e q.2.2), if_neg (fun q => e q.2)]
        exact hba k hk
    ·
      refine w_if_ne (t := 29) dX10_base_23 rfl (fun h => absurd h (by decide)) (fun _ => ?_)
      refine w_bipush (v := (-102)) dX10_base_26 (by decide) ?_
      exact w_iret dX10_base_28 rfl rfl (qn _ (by rw [f_base, if_pos (fun e => i20 e.2.1 e.2.2)]))
  ·
    refine w_if_eq (t := 26) dX10_base_9 rfl (fun _ => ?_) (fun h => absurd (by decide) h)
    refine w_bipush (v := (-102)) dX10_base_26 (by decide) ?_
    exact w_iret dX10_base_28 rfl rfl (qn _ (by rw [f_base, if_pos (fun e => i6 e.1.1 e.1.2)]))
theorem c10_hasBytes (R : rx_R b0 O z1 z2 s G) (hS : rx_in s) {τ : tx_T} (hT : MR s τ) (hV : TV τ) {x : Int32} (qt : 0 ≤ x.toInt → x.toInt < tN τ 1 → (tT τ 4 (cl x)).toInt < 3 → Q (.inl (some (.int 1))) G) (qf : (0 ≤ x.toInt → x.toInt < tN τ 1 → (tT τ 4 (cl x)).toInt < 3 → False) → Q (.inl (some (.int 0))) G) : mx_W (gt_P b0 mi E) mX10_hasBytes 0 (mx_en 0 [.ref (rA s 0 0), .int x]) [] G Q := by
  obtain ⟨hM, ⟨c1, c2, c13, c14, c20, c26⟩, hsec, hby, hsy, hre, hro, hba⟩ := hT
  have hV0 := hV.1
  refine w_iload_n dX10_hasBytes_0 rfl ?_
  refine w_i2l dX10_hasBytes_1 ?_
  refine w_lconst (v := 0) dX10_hasBytes_2 (by decide) ?_
  refine w_aload_n dX10_hasBytes_3 rfl ?_
  refine r_geti  dX10_hasBytes_4 ft_9_165 R rfl (hS _ _ rfl) rfl (lb rfl) c2 ?_
  refine w_iconst (v := 1) dX10_hasBytes_7 (by decide) ?_
  refine w_isub dX10_hasBytes_8 ?_
  refine w_i2l dX10_hasBytes_9 ?_
  refine r_stat3 dX10_hasBytes_10 mt_9_155 (lb rfl) (lb rfl) (lb rfl) (lb rfl) rfl (c10_inI (Int32.toInt_toInt64 _) (b := 0) (by decide) (t_cnt (by omega)) (fun i10a i10b => ⟨_, rfl, ?_⟩) (fun i10 => ⟨_, rfl, ?_⟩))
  ·
    refine w_if_eq (t := 30) dX10_hasBytes_13 rfl (fun h => absurd h (by decide)) (fun _ => ?_)
    obtain ⟨j, hj, rfl⟩ := nI_ofI i10a
    rw [nI_toInt hj] at i10a i10b
    refine w_aload_n dX10_hasBytes_16 rfl ?_
    refine r_getr  dX10_hasBytes_17 ft_9_17 R rfl (hS _ _ rfl) rfl (lb rfl) (hM.1 4 (lb rfl) (lb rfl)) ?_
    refine w_iload_n dX10_hasBytes_20 rfl ?_
    refine r_iald  dX10_hasBytes_21 R rfl (hS _ _ rfl) rfl rfl (by omega) (lb rfl) (hsec j (by omega)).2.1 ?_
    refine w_iconst (v := nI 3) dX10_hasBytes_22 (by decide) ?_
    refine r_icmp_gei (t := 30) dX10_hasBytes_23 rfl (fun h23 => ?_) (fun h23 => ?_)
    ·
      refine w_iconst (v := 0) dX10_hasBytes_30 (by decide) ?_
      exact w_iret dX10_hasBytes_31 rfl rfl (qf (fun e1 e2 e3 => by rw [show cl (nI j) = j from nI_clamp hj] at e3; have : (nI 3).toInt = 3 := rfl; omega))
    ·
      refine w_iconst (v := 1) dX10_hasBytes_26 (by decide) ?_
      refine w_goto (t := 31) dX10_hasBytes_27 rfl ?_
      exact w_iret dX10_hasBytes_31 rfl rfl (qt (by rw [nI_toInt hj]; omega) (by rw [nI_toInt hj]; omega) (by rw [show cl (nI j) = j from nI_clamp hj]; have : (nI 3).toInt = 3 := rfl; omega))
  ·
    refine w_if_eq (t := 30) dX10_hasBytes_13 rfl (fun _ => ?_) (fun h => absurd (by decide) h)
    refine w_iconst (v := 0) dX10_hasBytes_30 (by decide) ?_
    exact w_iret dX10_hasBytes_31 rfl rfl (qf (fun e1 e2 e3 => i10 (by omega) (by omega)))
theorem c10_patch (R : rx_R b0 O z1 z2 s G) (hS : rx_in s) {τ : tx_T} (hT : MR s τ) (hV : TV τ) {x i v : Int32} (qn : ∀ r9, f_patch τ x i v = (r9, none) → Q (.inl (some (.int r9))) G) (qs : ∀ r9 τ', f_patch τ x i v = (r9, some τ') → ∀ s' G', rx_R b0 O z1 z2 s' G' → mfr s s' → MR s' τ' → MT s' → Q (.inl (some (.int r9))) G') : mx_W (gt_P b0 mi E) mX10_patch 0 (mx_en 0 [.ref (rA s 0 0), .int x, .int i, .int v]) [] G Q := by
  have hT0 := hT
  obtain ⟨hM, ⟨c1, c2, c13, c14, c20, c26⟩, hsec, hby, hsy, hre, hro, hba⟩ := hT
  have hV0 := hV.1
  refine w_aload_n dX10_patch_0 rfl ?_
  refine w_iload_n dX10_patch_1 rfl ?_
  refine r_inv1  dX10_patch_2 mt_9_174 R rfl (hS _ _ rfl) rfl (lb rfl) (lb rfl) (lb rfl) (lb rfl) rfl (c10_hasBytes R hS hT0 hV (fun b1 b2 b3 => ⟨_, rfl, ?_⟩) (fun b0 => ⟨_, rfl, ?_⟩))
  ·
    refine w_if_ne (t := 11) dX10_patch_5 rfl (fun _ => ?_) (fun h => absurd (by decide) h)
    obtain ⟨j, hj, rfl⟩ := nI_ofI b1
    rw [nI_toInt hj] at b1 b2
    rw [show cl (nI j) = j from nI_clamp hj] at b3
    have hjn : j < tN τ 1 := by omega
    have hz := (hV.2.1 j hjn).2.2.1
    obtain ⟨fr, fl, g1, g2, g3, g4⟩ := hby
    obtain ⟨g5, g6, g7⟩ := g3 j hjn b3
    refine w_iload_n dX10_patch_11 rfl ?_
    refine w_i2l dX10_patch_12 ?_
    refine w_lconst (v := 0) dX10_patch_13 (by decide) ?_
    refine w_aload_n dX10_patch_14 rfl ?_
    refine r_getr  dX10_patch_15 ft_9_20 R rfl (hS _ _ rfl) rfl (lb rfl) (hM.1 5 (lb rfl) (lb rfl)) ?_
    refine w_iload_n dX10_patch_18 rfl ?_
    refine r_iald  dX10_patch_19 R rfl (hS _ _ rfl) rfl rfl (by omega) (lb rfl) (hsec j hjn).2.2.1 ?_
    refine w_iconst (v := 1) dX10_patch_20 (by decide) ?_
    refine w_isub dX10_patch_21 ?_
    refine w_i2l dX10_patch_22 ?_
    refine r_stat3 dX10_patch_23 mt_9_155 (lb rfl) (lb rfl) (lb rfl) (lb rfl) rfl (c10_inI (Int32.toInt_toInt64 _) (b := 0) (by decide) (t_m1 hz.1) (fun i23a i23b => ⟨_, rfl, ?_⟩) (fun i23 => ⟨_, rfl, ?_⟩))
    ·
      refine w_if_ne (t := 32) dX10_patch_26 rfl (fun _ => ?_) (fun h => absurd (by decide) h)
      obtain ⟨m, hm, rfl⟩ := nI_ofI i23a
      rw [nI_toInt hm] at i23a i23b
      have hmz : m < cl (tT τ 5 j) := by
        obtain ⟨z, hz1, hz2⟩ := nI_ofI hz.1
        rw [hz2, show cl (nI z) = z from nI_clamp hz1]; rw [hz2, nI_toInt hz1] at i23b; omega
      refine w_aload_n dX10_patch_32 rfl ?_
      refine r_inv0  dX10_patch_33 mt_9_152 R rfl (hS _ _ rfl) rfl (lb rfl) (lb rfl) (lb rfl) (lb rfl) rfl (c10_told R hS hM (fun _ Rt => ⟨_, rfl, ?_⟩))
      refine w_aload_n dX10_patch_36 rfl ?_
      refine r_getr  dX10_patch_37 ft_9_26 Rt rfl (hS _ _ rfl) rfl (lb rfl) (hM.1 7 (lb rfl) (lb rfl)) ?_
      refine w_iload_n dX10_patch_40 rfl ?_
      refine r_iald  dX10_patch_41 Rt rfl (hS _ _ rfl) rfl rfl (by omega) (lb rfl) g5 ?_
      refine w_iload_n dX10_patch_42 rfl ?_
      refine w_iadd dX10_patch_43 ?_
      rw [nI_add]
      refine w_istore dX10_patch_44 (lb rfl) ?_
      refine w_aload_n dX10_patch_46 rfl ?_
      refine r_getr  dX10_patch_47 ft_9_40 Rt rfl (hS _ _ rfl) rfl (lb rfl) (hM.1 11 (lb rfl) (lb rfl)) ?_
      refine w_iload dX10_patch_50 rfl ?_
      refine r_iald  dX10_patch_52 Rt rfl (hS _ _ rfl) rfl rfl (by omega) (lb rfl) (g7 m hmz) ?_
      refine w_istore dX10_patch_53 (lb rfl) ?_
      refine w_aload_n dX10_patch_55 rfl ?_
      refine r_getr  dX10_patch_56 ft_9_40 Rt rfl (hS _ _ rfl) rfl (lb rfl) (hM.1 11 (lb rfl) (lb rfl)) ?_
      refine w_iload dX10_patch_59 rfl ?_
      refine w_iload_n dX10_patch_61 rfl ?_
      refine w_sipush (v := 255) dX10_patch_62 (by decide) ?_
      refine w_iand dX10_patch_65 ?_
      refine r_iast  dX10_patch_66 Rt rfl (hS _ _ rfl) rfl rfl (by omega) (lb rfl) (fun G1 R1 => ?_)
      refine w_iload dX10_patch_67 rfl ?_
      refine w_iret dX10_patch_69 rfl rfl ?_
      have ej : cl (nI j) = j := nI_clamp hj
      have em : cl (nI m) = m := nI_clamp hm
      refine qs _ _ (by rw [f_patch, if_neg (Classical.not_not.mpr ⟨by rw [nI_toInt hj]; omega, by rw [nI_toInt hj]; omega, by rw [ej]; exact b3⟩), if_neg (Classical.not_not.mpr ⟨by rw [nI_toInt hm]; omega, by rw [nI_toInt hm, ej]; omega⟩), ej, em]) _ _ R1 (mfr.told s).I ?_ ⟨rfl, rfl, rfl, rfl⟩
      refine ⟨m_told_F hM, ⟨c1, c2, c13, c14, c20, c26⟩, hsec, ⟨fr, fl, g1, g2, fun i hi hk => ⟨(g3 i hi hk).1, (g3 i hi hk).2.1, fun p hp => ?_⟩, g4⟩, hsy, hre, hro, hba⟩
      show w3 s.2.2.2.1 1 11 (fr j + m) (v &&& 255) 1 11 (fr i + p) = u2 τ.2.2 j m (v &&& 255) i p
      rw [w3_if, u2_if]
      have hp' : p < cl (tT τ 5 i) := hp
      by_cases e : i = j ∧ p = m
      · obtain ⟨rfl, rfl⟩ := e
        rw [if_pos ⟨rfl, rfl, rfl⟩, if_pos ⟨rfl, rfl⟩]
      · rw [if_neg (fun q => e ?_), if_neg e]
        · exact (g3 i hi hk).2.2 p hp
        · have hi' : i < tN τ 1 := hi
          have hk' : (tT τ 4 i).toInt < 3 := hk
          rcases Nat.lt_trichotomy i j with h | h | h
          · have := g4 i j h hjn hk' b3; omega
          · subst h; exact ⟨rfl, by omega⟩
          · have := g4 j i h hi' b3 hk'; omega
    ·
      refine w_if_ne (t := 32) dX10_patch_26 rfl (fun h => absurd h (by decide)) (fun _ => ?_)
      refine w_bipush (v := (-102)) dX10_patch_29 (by decide) ?_
      exact w_iret dX10_patch_31 rfl rfl (qn _ (by rw [f_patch, if_neg (Classical.not_not.mpr ⟨by rw [nI_toInt hj]; omega, by rw [nI_toInt hj]; omega, by rw [show cl (nI j) = j from nI_clamp hj]; exact b3⟩), if_pos (fun e => by rw [show cl (nI j) = j from nI_clamp hj] at e; exact i23 e.1 (by omega))]))
  ·
    refine w_if_ne (t := 11) dX10_patch_5 rfl (fun h => absurd h (by decide)) (fun _ => ?_)
    refine w_bipush (v := (-101)) dX10_patch_8 (by decide) ?_
    exact w_iret dX10_patch_10 rfl rfl (qn _ (by rw [f_patch, if_pos (fun e => b0 e.1 e.2.1 e.2.2)]))
end
