theorem b32_01 (b : Bool) : b32 b = if b then 1 else 0 := by cases b <;> rfl
theorem krk_cl (Q : kQ) (x : Nat) : krk Q x = krk Q x := rfl
section
variable {b0 mi z1 z2 : Nat} {E : Nat → Nat} {O : Nat → Option mx_C} {s : rx_S} {G : mx_H} {Q : mx_O → mx_H → Prop}
theorem c10_kept_0 (R : rx_R b0 O z1 z2 s G) (hS : rx_in s) {τ : tx_T} (hV : TV τ) {l : Option Bool} (hML : ML s τ l) (hk : kn τ l = none) {x t : Int32} (q : Q (.inl (some (.int (a_kept τ l x t)))) G) : mx_W (gt_P b0 mi E) mX10_kept 0 (mx_en 0 [.ref (rA s 0 0), .int x, .int t]) [] G Q := by
  obtain ⟨hT, h32, hkn, hks, hin, his⟩ := id hML
  obtain ⟨hM, ⟨c1, c2, c13, c14, c20, c26⟩, hsec, hby, hsy, hre, hro, hba⟩ := id hT
  have hV0 := hV.1
  refine w_iload_n dX10_kept_0 rfl ?_
  refine w_i2l dX10_kept_1 ?_
  refine w_lconst (v := 0) dX10_kept_2 (by decide) ?_
  refine w_aload_n dX10_kept_3 rfl ?_
  refine r_geti  dX10_kept_4 ft_9_165 R rfl (hS _ _ rfl) rfl (lb rfl) c2 ?_
  refine w_iconst (v := 1) dX10_kept_7 (by decide) ?_
  refine w_isub dX10_kept_8 ?_
  refine w_i2l dX10_kept_9 ?_
  refine r_stat3 dX10_kept_10 mt_9_155 (lb rfl) (lb rfl) (lb rfl) (lb rfl) rfl (c10_inI (Int32.toInt_toInt64 _) (b := 0) (by decide) (t_cnt (by omega)) (fun i10a i10b => ⟨_, rfl, ?_⟩) (fun i10 => ⟨_, rfl, ?_⟩))
  ·
    refine w_if_ne (t := 19) dX10_kept_13 rfl (fun _ => ?_) (fun h => absurd (by decide) h)
    obtain ⟨j, hj, rfl⟩ := nI_ofI i10a
    rw [nI_toInt hj] at i10a i10b
    have hjn : j < tN τ 1 := by omega
    have cj := clN hj
    have n1 : ¬ ¬ (0 ≤ (nI j).toInt ∧ (nI j).toInt < tN τ 1) := Classical.not_not.mpr ⟨by rw [nI_toInt hj]; omega, by rw [nI_toInt hj]; omega⟩
    refine w_iload_n dX10_kept_19 rfl ?_
    refine w_i2l dX10_kept_20 ?_
    refine w_lconst (v := 0) dX10_kept_21 (by decide) ?_
    refine w_ldc2 dX10_kept_22 ct_9_189 ?_
    refine r_stat3 dX10_kept_25 mt_9_155 (lb rfl) (lb rfl) (lb rfl) (lb rfl) rfl (c10_inI (Int32.toInt_toInt64 _) (b := 0) (by decide) (c := 4) (by decide) (fun i25a i25b => ⟨_, rfl, ?_⟩) (fun i25 => ⟨_, rfl, ?_⟩))
    ·
      refine w_if_ne (t := 34) dX10_kept_28 rfl (fun _ => ?_) (fun h => absurd (by decide) h)
      have n2 : ¬ ¬ iw t 0 4 := Classical.not_not.mpr ⟨i25a, i25b⟩
      obtain ⟨fa, fb, f1, f2, f3⟩ := hkn hk
      refine w_aload_n dX10_kept_34 rfl ?_
      refine r_geti  dX10_kept_35 ft_9_139 R rfl (hS _ _ rfl) rfl (lb rfl) f1 ?_
      refine w_if_eq (t := 49) dX10_kept_38 rfl (fun h38 => ?_) (fun h38 => ?_)
      ·
        refine w_bipush (v := (-103)) dX10_kept_49 (by decide) ?_
        refine w_iret dX10_kept_51 rfl rfl ?_
        have e : a_kept τ l (nI j) t = -103 := by unfold a_kept; rw [if_neg n1, if_neg n2, hk]
        rw [e] at q; exact q
      ·
        refine w_aload_n dX10_kept_41 rfl ?_
        refine r_geti  dX10_kept_42 ft_9_146 R rfl (hS _ _ rfl) rfl (lb rfl) f2 ?_
        refine w_iconst (v := 1) dX10_kept_45 (by decide) ?_
        refine r_icmp_neP (t := 52) dX10_kept_46 rfl (fun h => (f3.elim h38 h : False).elim) (fun h46 => ?_)
        refine w_bipush (v := (-103)) dX10_kept_49 (by decide) ?_
        refine w_iret dX10_kept_51 rfl rfl ?_
        have e : a_kept τ l (nI j) t = -103 := by unfold a_kept; rw [if_neg n1, if_neg n2, hk]
        rw [e] at q; exact q
    ·
      refine w_if_ne (t := 34) dX10_kept_28 rfl (fun h => absurd h (by decide)) (fun _ => ?_)
      refine w_bipush (v := (-102)) dX10_kept_31 (by decide) ?_
      refine w_iret dX10_kept_33 rfl rfl ?_
      have e : a_kept τ l (nI j) t = -102 := by unfold a_kept; rw [if_neg n1, if_pos (fun e => i25 e.1 e.2)]
      rw [e] at q; exact q
  ·
    refine w_if_ne (t := 19) dX10_kept_13 rfl (fun h => absurd h (by decide)) (fun _ => ?_)
    refine w_bipush (v := (-101)) dX10_kept_16 (by decide) ?_
    refine w_iret dX10_kept_18 rfl rfl ?_
    have e : a_kept τ l x t = -101 := by unfold a_kept; rw [if_pos (fun e => i10 e.1 (by omega))]
    rw [e] at q; exact q
theorem c10_kept_1 (R : rx_R b0 O z1 z2 s G) (hS : rx_in s) {τ : tx_T} (hV : TV τ) {l : Option Bool} (hML : ML s τ l) {w : Bool} (hk : kn τ l = some w) {x t : Int32} (q : Q (.inl (some (.int (a_kept τ l x t)))) G) : mx_W (gt_P b0 mi E) mX10_kept 0 (mx_en 0 [.ref (rA s 0 0), .int x, .int t]) [] G Q := by
  obtain ⟨hT, h32, hkn, hks, hin, his⟩ := id hML
  obtain ⟨hM, ⟨c1, c2, c13, c14, c20, c26⟩, hsec, hby, hsy, hre, hro, hba⟩ := id hT
  have hV0 := hV.1
  refine w_iload_n dX10_kept_0 rfl ?_
  refine w_i2l dX10_kept_1 ?_
  refine w_lconst (v := 0) dX10_kept_2 (by decide) ?_
  refine w_aload_n dX10_kept_3 rfl ?_
  refine r_geti  dX10_kept_4 ft_9_165 R rfl (hS _ _ rfl) rfl (lb rfl) c2 ?_
  refine w_iconst (v := 1) dX10_kept_7 (by decide) ?_
  refine w_isub dX10_kept_8 ?_
  refine w_i2l dX10_kept_9 ?_
  refine r_stat3 dX10_kept_10 mt_9_155 (lb rfl) (lb rfl) (lb rfl) (lb rfl) rfl (c10_inI (Int32.toInt_toInt64 _) (b := 0) (by decide) (t_cnt (by omega)) (fun i10a i10b => ⟨_, rfl, ?_⟩) (fun i10 => ⟨_, rfl, ?_⟩))
  ·
    refine w_if_ne (t := 19) dX10_kept_13 rfl (fun _ => ?_) (fun h => absurd (by decide) h)
    obtain ⟨j, hj, rfl⟩ := nI_ofI i10a
    rw [nI_toInt hj] at i10a i10b
    have hjn : j < tN τ 1 := by omega
    have cj := clN hj
    have n1 : ¬ ¬ (0 ≤ (nI j).toInt ∧ (nI j).toInt < tN τ 1) := Classical.not_not.mpr ⟨by rw [nI_toInt hj]; omega, by rw [nI_toInt hj]; omega⟩
    refine w_iload_n dX10_kept_19 rfl ?_
    refine w_i2l dX10_kept_20 ?_
    refine w_lconst (v := 0) dX10_kept_21 (by decide) ?_
    refine w_ldc2 dX10_kept_22 ct_9_189 ?_
    refine r_stat3 dX10_kept_25 mt_9_155 (lb rfl) (lb rfl) (lb rfl) (lb rfl) rfl (c10_inI (Int32.toInt_toInt64 _) (b := 0) (by decide) (c := 4) (by decide) (fun i25a i25b => ⟨_, rfl, ?_⟩) (fun i25 => ⟨_, rfl, ?_⟩))
    ·
      refine w_if_ne (t := 34) dX10_kept_28 rfl (fun _ => ?_) (fun h => absurd (by decide) h)
      have n2 : ¬ ¬ iw t 0 4 := Classical.not_not.mpr ⟨i25a, i25b⟩
      obtain ⟨hF, f1, fb, f2, f3⟩ := hks w hk
      obtain ⟨hK, hI⟩ := id hF
      obtain ⟨hN, hKQ, hKV⟩ := id hK
      obtain ⟨_, hL, hD, hA⟩ := id hN
      refine w_aload_n dX10_kept_34 rfl ?_
      refine r_geti  dX10_kept_35 ft_9_139 R rfl (hS _ _ rfl) rfl (lb rfl) f1 ?_
      refine w_if_eq (t := 49) dX10_kept_38 rfl (fun h => absurd h (by decide)) (fun h38 => ?_)
      refine w_aload_n dX10_kept_41 rfl ?_
      refine r_geti  dX10_kept_42 ft_9_146 R rfl (hS _ _ rfl) rfl (lb rfl) f2 ?_
      refine w_iconst (v := 1) dX10_kept_45 (by decide) ?_
      refine r_icmp_neP (t := 52) dX10_kept_46 rfl (fun h46 => ?_) (fun h => absurd h f3)
      refine w_iload_n dX10_kept_52 rfl ?_
      refine r_if_neP (t := 73) dX10_kept_53 rfl (fun h53 => ?_) (fun h53 => ?_)
      ·
        refine w_iload_n dX10_kept_73 rfl ?_
        refine w_iconst (v := 1) dX10_kept_74 (by decide) ?_
        refine r_icmp_neP (t := 87) dX10_kept_75 rfl (fun h75 => ?_) (fun h75 => ?_)
        ·
          refine w_iload_n dX10_kept_87 rfl ?_
          refine w_iconst (v := 2) dX10_kept_88 (by decide) ?_
          refine r_icmp_neP (t := 101) dX10_kept_89 rfl (fun h89 => ?_) (fun h89 => ?_)
          ·
            refine w_iload_n dX10_kept_101 rfl ?_
            refine w_iconst (v := 3) dX10_kept_102 (by decide) ?_
            refine r_icmp_neP (t := 123) dX10_kept_103 rfl (fun h103 => ?_) (fun h103 => ?_)
            ·
              refine w_aload_n dX10_kept_123 rfl ?_
              refine r_getr  dX10_kept_124 ft_9_109 R rfl (hS _ _ rfl) rfl (lb rfl) (hM.1 42 (lb rfl) (lb rfl)) ?_
              refine w_iload_n dX10_kept_127 rfl ?_
              refine r_iald  dX10_kept_128 R rfl (hS _ _ rfl) rfl rfl (by omega) (lb rfl) (hKQ.2.2.2.2 j (by omega)) ?_
              refine w_iret dX10_kept_129 rfl rfl ?_
              have e : a_kept τ l (nI j) t = krk (kR τ) j := by
                unfold a_kept
                rw [if_neg n1, if_neg n2, hk]
                simp only []
                rw [if_neg h53, if_neg h75, if_neg h89, if_neg h103, cj]
              rw [e] at q; exact q
            ·
              refine w_aload_n dX10_kept_106 rfl ?_
              refine r_getr  dX10_kept_107 ft_9_85 R rfl (hS _ _ rfl) rfl (lb rfl) (hM.1 33 (lb rfl) (lb rfl)) ?_
              refine w_iload_n dX10_kept_110 rfl ?_
              refine r_zald  dX10_kept_111 R rfl (hS _ _ rfl) rfl rfl (by omega) (lb rfl) (hL j hjn) ?_
              refine w_if_eq (t := 119) dX10_kept_112 rfl (fun h112 => ?_) (fun h112 => ?_)
              ·
                refine w_iconst (v := 0) dX10_kept_119 (by decide) ?_
                refine w_goto (t := 129) dX10_kept_120 rfl ?_
                refine w_iret dX10_kept_129 rfl rfl ?_
                have e : a_kept τ l (nI j) t = b32 (lostB τ j) := by
                  unfold a_kept
                  rw [if_neg n1, if_neg n2, hk]
                  simp only []
                  rw [if_neg h53, if_neg h75, if_neg h89, if_pos h103, cj]
                rw [e, b32_eq h112] at q; exact q
              ·
                refine w_iconst (v := 1) dX10_kept_115 (by decide) ?_
                refine w_goto (t := 129) dX10_kept_116 rfl ?_
                refine w_iret dX10_kept_129 rfl rfl ?_
                have e : a_kept τ l (nI j) t = b32 (lostB τ j) := by
                  unfold a_kept
                  rw [if_neg n1, if_neg n2, hk]
                  simp only []
                  rw [if_neg h53, if_neg h75, if_neg h89, if_pos h103, cj]
                rw [e, b32_ne h112] at q; exact q
          ·
            refine w_aload_n dX10_kept_92 rfl ?_
            refine r_getr  dX10_kept_93 ft_9_112 R rfl (hS _ _ rfl) rfl (lb rfl) (hM.1 43 (lb rfl) (lb rfl)) ?_
            refine w_iload_n dX10_kept_96 rfl ?_
            refine r_iald  dX10_kept_97 R rfl (hS _ _ rfl) rfl rfl (by omega) (lb rfl) (hI j hjn) ?_
            refine w_goto (t := 129) dX10_kept_98 rfl ?_
            refine w_iret dX10_kept_129 rfl rfl ?_
            have e : a_kept τ l (nI j) t = oI (inO τ w j) := by
              unfold a_kept
              rw [if_neg n1, if_neg n2, hk]
              simp only []
              rw [if_neg h53, if_neg h75, if_pos h89, cj]
            rw [e] at q; exact q
        ·
          refine w_aload_n dX10_kept_78 rfl ?_
          refine r_getr  dX10_kept_79 ft_9_106 R rfl (hS _ _ rfl) rfl (lb rfl) (hM.1 41 (lb rfl) (lb rfl)) ?_
          refine w_iload_n dX10_kept_82 rfl ?_
          refine r_iald  dX10_kept_83 R rfl (hS _ _ rfl) rfl rfl (by omega) (lb rfl) (hKQ.2.2.2.1 j (by omega)) ?_
          refine w_goto (t := 129) dX10_kept_84 rfl ?_
          refine w_iret dX10_kept_129 rfl rfl ?_
          have e : a_kept τ l (nI j) t = kby (kR τ) j := by
            unfold a_kept
            rw [if_neg n1, if_neg n2, hk]
            simp only []
            rw [if_neg h53, if_pos h75, cj]
          rw [e] at q; exact q
      ·
        refine w_aload_n dX10_kept_56 rfl ?_
        refine r_getr  dX10_kept_57 ft_9_103 R rfl (hS _ _ rfl) rfl (lb rfl) (hM.1 40 (lb rfl) (lb rfl)) ?_
        refine w_iload_n dX10_kept_60 rfl ?_
        refine r_zald  dX10_kept_61 R rfl (hS _ _ rfl) rfl rfl (by omega) (lb rfl) (hKQ.2.2.1 j (by omega)) ?_
        refine w_if_eq (t := 69) dX10_kept_62 rfl (fun h62 => ?_) (fun h62 => ?_)
        ·
          refine w_iconst (v := 0) dX10_kept_69 (by decide) ?_
          refine w_goto (t := 129) dX10_kept_70 rfl ?_
          refine w_iret dX10_kept_129 rfl rfl ?_
          have e : a_kept τ l (nI j) t = b32 (kin (kR τ) j) := by
            unfold a_kept
            rw [if_neg n1, if_neg n2, hk]
            simp only []
            rw [if_pos h53, cj]
          rw [e, b32_eq h62] at q; exact q
        ·
          refine w_iconst (v := 1) dX10_kept_65 (by decide) ?_
          refine w_goto (t := 129) dX10_kept_66 rfl ?_
          refine w_iret dX10_kept_129 rfl rfl ?_
          have e : a_kept τ l (nI j) t = b32 (kin (kR τ) j) := by
            unfold a_kept
            rw [if_neg n1, if_neg n2, hk]
            simp only []
            rw [if_pos h53, cj]
          rw [e, b32_ne h62] at q; exact q
    ·
      refine w_if_ne (t := 34) dX10_kept_28 rfl (fun h => absurd h (by decide)) (fun _ => ?_)
      refine w_bipush (v := (-102)) dX10_kept_31 (by decide) ?_
      refine w_iret dX10_kept_33 rfl rfl ?_
      have e : a_kept τ l (nI j) t = -102 := by unfold a_kept; rw [if_neg n1, if_pos (fun e => i25 e.1 e.2)]
      rw [e] at q; exact q
  ·
    refine w_if_ne (t := 19) dX10_kept_13 rfl (fun h => absurd h (by decide)) (fun _ => ?_)
    refine w_bipush (v := (-101)) dX10_kept_16 (by decide) ?_
    refine w_iret dX10_kept_18 rfl rfl ?_
    have e : a_kept τ l x t = -101 := by unfold a_kept; rw [if_pos (fun e => i10 e.1 (by omega))]
    rw [e] at q; exact q
theorem c10_kept (R : rx_R b0 O z1 z2 s G) (hS : rx_in s) {τ : tx_T} (hV : TV τ) {l : Option Bool} (hML : ML s τ l) {x t : Int32} (q : Q (.inl (some (.int (a_kept τ l x t)))) G) : mx_W (gt_P b0 mi E) mX10_kept 0 (mx_en 0 [.ref (rA s 0 0), .int x, .int t]) [] G Q := by
  cases hk : kn τ l with
  | none => exact c10_kept_0 R hS hV hML hk q
  | some w => exact c10_kept_1 R hS hV hML hk q
theorem c10_place_0 (R : rx_R b0 O z1 z2 s G) (hS : rx_in s) {τ : tx_T} (hV : TV τ) {l : Option Bool} (hML : ML s τ l) (hm : im τ l = none) {x : Int32} (q : ∀ (v : Int64) (G' : mx_H), rx_R b0 O z1 z2 (sX s 0 0 0 (.inl (.int (t_place τ l x)))) G' → (t_place τ l x = 0 → v = a_place τ l x) → Q (.inl (some (.long v))) G') : mx_W (gt_P b0 mi E) mX10_place 0 (mx_en 0 [.ref (rA s 0 0), .int x]) [] G Q := by
  obtain ⟨hT, h32, hkn, hks, hin, his⟩ := id hML
  obtain ⟨hM, ⟨c1, c2, c13, c14, c20, c26⟩, hsec, hby, hsy, hre, hro, hba⟩ := id hT
  have hV0 := hV.1
  refine w_aload_n dX10_place_0 rfl ?_
  refine w_iload_n dX10_place_1 rfl ?_
  refine w_i2l dX10_place_2 ?_
  refine w_lconst (v := 0) dX10_place_3 (by decide) ?_
  refine w_aload_n dX10_place_4 rfl ?_
  refine r_geti  dX10_place_5 ft_9_165 R rfl (hS _ _ rfl) rfl (lb rfl) c2 ?_
  refine w_iconst (v := 1) dX10_place_8 (by decide) ?_
  refine w_isub dX10_place_9 ?_
  refine w_i2l dX10_place_10 ?_
  refine r_stat3 dX10_place_11 mt_9_155 (lb rfl) (lb rfl) (lb rfl) (lb rfl) rfl (c10_inI (Int32.toInt_toInt64 _) (b := 0) (by decide) (t_cnt (by omega)) (fun i11a i11b => ⟨_, rfl, ?_⟩) (fun i11 => ⟨_, rfl, ?_⟩))
  ·
    refine w_if_ne (t := 21) dX10_place_14 rfl (fun _ => ?_) (fun h => absurd (by decide) h)
    obtain ⟨j, hj, rfl⟩ := nI_ofI i11a
    rw [nI_toInt hj] at i11a i11b
    have hjn : j < tN τ 1 := by omega
    have cj := clN hj
    have n1 : ¬ ¬ (0 ≤ (nI j).toInt ∧ (nI j).toInt < tN τ 1) := Classical.not_not.mpr ⟨by rw [nI_toInt hj]; omega, by rw [nI_toInt hj]; omega⟩
    have f30 := hin hm
    refine w_aload_n dX10_place_21 rfl ?_
    refine r_geti  dX10_place_22 ft_9_143 R rfl (hS _ _ rfl) rfl (lb rfl) f30 ?_
    refine w_if_eq (t := 37) dX10_place_25 rfl (fun h25 => ?_) (fun h => absurd rfl h)
    refine w_iconst (v := 2) dX10_place_37 (by decide) ?_
    refine w_goto (t := 42) dX10_place_38 rfl ?_
    refine r_puti  dX10_place_42 ft_9_1 R rfl (hS _ _ rfl) rfl (lb rfl) (fun h => by cases h) rfl rfl (fun G1 R1 => ?_)
    refine w_aload_n dX10_place_45 rfl ?_
    refine r_geti  dX10_place_46 ft_9_1 R1 rfl (hS _ _ rfl) rfl (lb rfl) sX_s ?_
    refine w_if_le (t := 56) dX10_place_49 rfl (fun h => absurd h (by decide)) (fun h49 => ?_)
    refine w_lconst (v := 0) dX10_place_52 (by decide) ?_
    refine w_goto (t := 61) dX10_place_53 rfl ?_
    exact w_lret dX10_place_61 rfl (q _ _ (by rw [show t_place τ l (nI j) = 2 by unfold t_place; rw [if_neg n1, hm]]; exact R1) (fun e9 => absurd ((show t_place τ l (nI j) = 2 by unfold t_place; rw [if_neg n1, hm]).symm.trans e9) (by decide)))
  ·
    refine w_if_ne (t := 21) dX10_place_14 rfl (fun h => absurd h (by decide)) (fun _ => ?_)
    refine w_iconst (v := 1) dX10_place_17 (by decide) ?_
    refine w_goto (t := 42) dX10_place_18 rfl ?_
    refine r_puti  dX10_place_42 ft_9_1 R rfl (hS _ _ rfl) rfl (lb rfl) (fun h => by cases h) rfl rfl (fun G2 R2 => ?_)
    refine w_aload_n dX10_place_45 rfl ?_
    refine r_geti  dX10_place_46 ft_9_1 R2 rfl (hS _ _ rfl) rfl (lb rfl) sX_s ?_
    refine w_if_le (t := 56) dX10_place_49 rfl (fun h => absurd h (by decide)) (fun h49 => ?_)
    refine w_lconst (v := 0) dX10_place_52 (by decide) ?_
    refine w_goto (t := 61) dX10_place_53 rfl ?_
    exact w_lret dX10_place_61 rfl (q _ _ (by rw [show t_place τ l x = 1 by unfold t_place; rw [if_pos (fun e => i11 e.1 (by omega))]]; exact R2) (fun e => absurd ((show t_place τ l x = 1 by unfold t_place; rw [if_pos (fun e => i11 e.1 (by omega))]).symm.trans e) (by decide)))
theorem c10_place_1 (R : rx_R b0 O z1 z2 s G) (hS : rx_in s) {τ : tx_T} (hV : TV τ) {l : Option Bool} (hML : ML s τ l) {w : Bool} (hm : im τ l = some w) {x : Int32} (q : ∀ (v : Int64) (G' : mx_H), rx_R b0 O z1 z2 (sX s 0 0 0 (.inl (.int (t_place τ l x)))) G' → (t_place τ l x = 0 → v = a_place τ l x) → Q (.inl (some (.long v))) G') : mx_W (gt_P b0 mi E) mX10_place 0 (mx_en 0 [.ref (rA s 0 0), .int x]) [] G Q := by
  obtain ⟨hT, h32, hkn, hks, hin, his⟩ := id hML
  obtain ⟨hM, ⟨c1, c2, c13, c14, c20, c26⟩, hsec, hby, hsy, hre, hro, hba⟩ := id hT
  have hV0 := hV.1
  refine w_aload_n dX10_place_0 rfl ?_
  refine w_iload_n dX10_place_1 rfl ?_
  refine w_i2l dX10_place_2 ?_
  refine w_lconst (v := 0) dX10_place_3 (by decide) ?_
  refine w_aload_n dX10_place_4 rfl ?_
  refine r_geti  dX10_place_5 ft_9_165 R rfl (hS _ _ rfl) rfl (lb rfl) c2 ?_
  refine w_iconst (v := 1) dX10_place_8 (by decide) ?_
  refine w_isub dX10_place_9 ?_
  refine w_i2l dX10_place_10 ?_
  refine r_stat3 dX10_place_11 mt_9_155 (lb rfl) (lb rfl) (lb rfl) (lb rfl) rfl (c10_inI (Int32.toInt_toInt64 _) (b := 0) (by decide) (t_cnt (by omega)) (fun i11a i11b => ⟨_, rfl, ?_⟩) (fun i11 => ⟨_, rfl, ?_⟩))
  ·
    refine w_if_ne (t := 21) dX10_place_14 rfl (fun _ => ?_) (fun h => absurd (by decide) h)
    obtain ⟨j, hj, rfl⟩ := nI_ofI i11a
    rw [nI_toInt hj] at i11a i11b
    have hjn : j < tN τ 1 := by omega
    have cj := clN hj
    have n1 : ¬ ¬ (0 ≤ (nI j).toInt ∧ (nI j).toInt < tN τ 1) := Classical.not_not.mpr ⟨by rw [nI_toInt hj]; omega, by rw [nI_toInt hj]; omega⟩
    obtain ⟨hF, f30, hO, hW, ht, hP, hvv, hvp⟩ := his w hm
    obtain ⟨hK, hI⟩ := id hF
    obtain ⟨hN, hKQ, hKV⟩ := id hK
    obtain ⟨_, hL, hD, hA⟩ := id hN
    refine w_aload_n dX10_place_21 rfl ?_
    refine r_geti  dX10_place_22 ft_9_143 R rfl (hS _ _ rfl) rfl (lb rfl) f30 ?_
    refine w_if_eq (t := 37) dX10_place_25 rfl (fun h => absurd h (by decide)) (fun h25 => ?_)
    refine w_aload_n dX10_place_28 rfl ?_
    refine r_getr  dX10_place_29 ft_9_103 R rfl (hS _ _ rfl) rfl (lb rfl) (hM.1 40 (lb rfl) (lb rfl)) ?_
    refine w_iload_n dX10_place_32 rfl ?_
    refine r_zald  dX10_place_33 R rfl (hS _ _ rfl) rfl rfl (by omega) (lb rfl) (hKQ.2.2.1 j (by omega)) ?_
    refine r_if_neP (t := 41) dX10_place_34 rfl (fun h34 => ?_) (fun h34 => ?_)
    ·
      refine w_iconst (v := 0) dX10_place_41 (by decide) ?_
      refine r_puti  dX10_place_42 ft_9_1 R rfl (hS _ _ rfl) rfl (lb rfl) (fun h => by cases h) rfl rfl (fun G1 R1 => ?_)
      refine w_aload_n dX10_place_45 rfl ?_
      refine r_geti  dX10_place_46 ft_9_1 R1 rfl (hS _ _ rfl) rfl (lb rfl) sX_s ?_
      refine w_if_le (t := 56) dX10_place_49 rfl (fun h49 => ?_) (fun h => absurd (by decide) h)
      refine w_aload_n dX10_place_56 rfl ?_
      refine w_iload_n dX10_place_57 rfl ?_
      refine r_inv1  dX10_place_58 mt_9_245 R1 rfl (hS _ _ rfl) rfl (lb rfl) (lb rfl) (lb rfl) (lb rfl) rfl (c10_placeOf (s := sX s 0 0 0 (.inl (.int 0))) R1 hS hV (NF_X hF (by omega) (by omega) rfl) hP hjn (b32_ne h34) ⟨_, rfl, ?_⟩)
      exact w_lret dX10_place_61 rfl (q _ _ (by rw [show t_place τ l (nI j) = 0 by unfold t_place; rw [if_neg n1, hm]; simp only []; rw [if_pos (by rw [cj, b32_ne h34])]]; exact R1) (fun _ => by unfold a_place; rw [hm, cj]))
    ·
      refine w_iconst (v := 2) dX10_place_37 (by decide) ?_
      refine w_goto (t := 42) dX10_place_38 rfl ?_
      refine r_puti  dX10_place_42 ft_9_1 R rfl (hS _ _ rfl) rfl (lb rfl) (fun h => by cases h) rfl rfl (fun G2 R2 => ?_)
      refine w_aload_n dX10_place_45 rfl ?_
      refine r_geti  dX10_place_46 ft_9_1 R2 rfl (hS _ _ rfl) rfl (lb rfl) sX_s ?_
      refine w_if_le (t := 56) dX10_place_49 rfl (fun h => absurd h (by decide)) (fun h49 => ?_)
      refine w_lconst (v := 0) dX10_place_52 (by decide) ?_
      refine w_goto (t := 61) dX10_place_53 rfl ?_
      exact w_lret dX10_place_61 rfl (q _ _ (by rw [show t_place τ l (nI j) = 2 by unfold t_place; rw [if_neg n1, hm]; simp only []; rw [if_neg (by rw [cj, b32_eq h34]; decide)]]; exact R2) (fun e9 => absurd ((show t_place τ l (nI j) = 2 by unfold t_place; rw [if_neg n1, hm]; simp only []; rw [if_neg (by rw [cj, b32_eq h34]; decide)]).symm.trans e9) (by decide)))
  ·
    refine w_if_ne (t := 21) dX10_place_14 rfl (fun h => absurd h (by decide)) (fun _ => ?_)
    refine w_iconst (v := 1) dX10_place_17 (by decide) ?_
    refine w_goto (t := 42) dX10_place_18 rfl ?_
    refine r_puti  dX10_place_42 ft_9_1 R rfl (hS _ _ rfl) rfl (lb rfl) (fun h => by cases h) rfl rfl (fun G3 R3 => ?_)
    refine w_aload_n dX10_place_45 rfl ?_
    refine r_geti  dX10_place_46 ft_9_1 R3 rfl (hS _ _ rfl) rfl (lb rfl) sX_s ?_
    refine w_if_le (t := 56) dX10_place_49 rfl (fun h => absurd h (by decide)) (fun h49 => ?_)
    refine w_lconst (v := 0) dX10_place_52 (by decide) ?_
    refine w_goto (t := 61) dX10_place_53 rfl ?_
    exact w_lret dX10_place_61 rfl (q _ _ (by rw [show t_place τ l x = 1 by unfold t_place; rw [if_pos (fun e => i11 e.1 (by omega))]]; exact R3) (fun e => absurd ((show t_place τ l x = 1 by unfold t_place; rw [if_pos (fun e => i11 e.1 (by omega))]).symm.trans e) (by decide)))
end
