section
variable {b0 mi z1 z2 : Nat} {E : Nat → Nat} {O : Nat → Option mx_C} {s : rx_S} {G : mx_H} {Q : mx_O → mx_H → Prop}
theorem c10_place (R : rx_R b0 O z1 z2 s G) (hS : rx_in s) {τ : tx_T} (hV : TV τ) {l : Option Bool} (hML : ML s τ l) {x : Int32} (q : ∀ (v : Int64) (G' : mx_H), rx_R b0 O z1 z2 (sX s 0 0 0 (.inl (.int (t_place τ l x)))) G' → (t_place τ l x = 0 → v = a_place τ l x) → Q (.inl (some (.long v))) G') : mx_W (gt_P b0 mi E) mX10_place 0 (mx_en 0 [.ref (rA s 0 0), .int x]) [] G Q := by
  cases hm : im τ l with
  | none => exact c10_place_0 R hS hV hML hm q
  | some w => exact c10_place_1 R hS hV hML hm q
theorem c10_value_0 (R : rx_R b0 O z1 z2 s G) (hS : rx_in s) {τ : tx_T} (hV : TV τ) {l : Option Bool} (hML : ML s τ l) (hm : im τ l = none) {x : Int32} (q : ∀ (v : Int64) (G' : mx_H), rx_R b0 O z1 z2 (sX s 0 0 0 (.inl (.int (t_value τ l x)))) G' → (t_value τ l x = 0 → v = a_value τ l x) → Q (.inl (some (.long v))) G') : mx_W (gt_P b0 mi E) mX10_value 0 (mx_en 0 [.ref (rA s 0 0), .int x]) [] G Q := by
  obtain ⟨hT, h32, hkn, hks, hin, his⟩ := id hML
  obtain ⟨hM, ⟨c1, c2, c13, c14, c20, c26⟩, hsec, hby, hsy, hre, hro, hba⟩ := id hT
  have hV0 := hV.1
  refine w_aload_n dX10_value_0 rfl ?_
  refine w_iload_n dX10_value_1 rfl ?_
  refine w_i2l dX10_value_2 ?_
  refine w_lconst (v := 0) dX10_value_3 (by decide) ?_
  refine w_aload_n dX10_value_4 rfl ?_
  refine r_geti  dX10_value_5 ft_9_186 R rfl (hS _ _ rfl) rfl (lb rfl) c14 ?_
  refine w_iconst (v := 1) dX10_value_8 (by decide) ?_
  refine w_isub dX10_value_9 ?_
  refine w_i2l dX10_value_10 ?_
  refine r_stat3 dX10_value_11 mt_9_155 (lb rfl) (lb rfl) (lb rfl) (lb rfl) rfl (c10_inI (Int32.toInt_toInt64 _) (b := 0) (by decide) (t_cnt (by omega)) (fun i11a i11b => ⟨_, rfl, ?_⟩) (fun i11 => ⟨_, rfl, ?_⟩))
  ·
    refine w_if_ne (t := 21) dX10_value_14 rfl (fun _ => ?_) (fun h => absurd (by decide) h)
    obtain ⟨j, hj, rfl⟩ := nI_ofI i11a
    rw [nI_toInt hj] at i11a i11b
    have hjn : j < tN τ 2 := by omega
    have cj := clN hj
    have n1 : ¬ ¬ (0 ≤ (nI j).toInt ∧ (nI j).toInt < tN τ 2) := Classical.not_not.mpr ⟨by rw [nI_toInt hj]; omega, by rw [nI_toInt hj]; omega⟩
    have f30 := hin hm
    refine w_aload_n dX10_value_21 rfl ?_
    refine r_geti  dX10_value_22 ft_9_143 R rfl (hS _ _ rfl) rfl (lb rfl) f30 ?_
    refine w_if_eq (t := 52) dX10_value_25 rfl (fun h25 => ?_) (fun h => absurd rfl h)
    refine w_iconst (v := 2) dX10_value_52 (by decide) ?_
    refine w_goto (t := 57) dX10_value_53 rfl ?_
    refine r_puti  dX10_value_57 ft_9_1 R rfl (hS _ _ rfl) rfl (lb rfl) (fun h => by cases h) rfl rfl (fun G1 R1 => ?_)
    refine w_aload_n dX10_value_60 rfl ?_
    refine r_geti  dX10_value_61 ft_9_1 R1 rfl (hS _ _ rfl) rfl (lb rfl) sX_s ?_
    refine w_if_le (t := 71) dX10_value_64 rfl (fun h => absurd h (by decide)) (fun h64 => ?_)
    refine w_lconst (v := 0) dX10_value_67 (by decide) ?_
    refine w_goto (t := 76) dX10_value_68 rfl ?_
    exact w_lret dX10_value_76 rfl (q _ _ (by rw [show t_value τ l (nI j) = 2 by unfold t_value; rw [if_neg n1, hm]]; exact R1) (fun e9 => absurd ((show t_value τ l (nI j) = 2 by unfold t_value; rw [if_neg n1, hm]).symm.trans e9) (by decide)))
  ·
    refine w_if_ne (t := 21) dX10_value_14 rfl (fun h => absurd h (by decide)) (fun _ => ?_)
    refine w_iconst (v := 1) dX10_value_17 (by decide) ?_
    refine w_goto (t := 57) dX10_value_18 rfl ?_
    refine r_puti  dX10_value_57 ft_9_1 R rfl (hS _ _ rfl) rfl (lb rfl) (fun h => by cases h) rfl rfl (fun G2 R2 => ?_)
    refine w_aload_n dX10_value_60 rfl ?_
    refine r_geti  dX10_value_61 ft_9_1 R2 rfl (hS _ _ rfl) rfl (lb rfl) sX_s ?_
    refine w_if_le (t := 71) dX10_value_64 rfl (fun h => absurd h (by decide)) (fun h64 => ?_)
    refine w_lconst (v := 0) dX10_value_67 (by decide) ?_
    refine w_goto (t := 76) dX10_value_68 rfl ?_
    exact w_lret dX10_value_76 rfl (q _ _ (by rw [show t_value τ l x = 1 by unfold t_value; rw [if_pos (fun e => i11 e.1 (by omega))]]; exact R2) (fun e9 => absurd ((show t_value τ l x = 1 by unfold t_value; rw [if_pos (fun e => i11 e.1 (by omega))]).symm.trans e9) (by decide)))
theorem c10_value_1 (R : rx_R b0 O z1 z2 s G) (hS : rx_in s) {τ : tx_T} (hV : TV τ) {l : Option Bool} (hML : ML s τ l) {w : Bool} (hm : im τ l = some w) {x : Int32} (q : ∀ (v : Int64) (G' : mx_H), rx_R b0 O z1 z2 (sX s 0 0 0 (.inl (.int (t_value τ l x)))) G' → (t_value τ l x = 0 → v = a_value τ l x) → Q (.inl (some (.long v))) G') : mx_W (gt_P b0 mi E) mX10_value 0 (mx_en 0 [.ref (rA s 0 0), .int x]) [] G Q := by
  obtain ⟨hT, h32, hkn, hks, hin, his⟩ := id hML
  obtain ⟨hM, ⟨c1, c2, c13, c14, c20, c26⟩, hsec, hby, hsy, hre, hro, hba⟩ := id hT
  have hV0 := hV.1
  refine w_aload_n dX10_value_0 rfl ?_
  refine w_iload_n dX10_value_1 rfl ?_
  refine w_i2l dX10_value_2 ?_
  refine w_lconst (v := 0) dX10_value_3 (by decide) ?_
  refine w_aload_n dX10_value_4 rfl ?_
  refine r_geti  dX10_value_5 ft_9_186 R rfl (hS _ _ rfl) rfl (lb rfl) c14 ?_
  refine w_iconst (v := 1) dX10_value_8 (by decide) ?_
  refine w_isub dX10_value_9 ?_
  refine w_i2l dX10_value_10 ?_
  refine r_stat3 dX10_value_11 mt_9_155 (lb rfl) (lb rfl) (lb rfl) (lb rfl) rfl (c10_inI (Int32.toInt_toInt64 _) (b := 0) (by decide) (t_cnt (by omega)) (fun i11a i11b => ⟨_, rfl, ?_⟩) (fun i11 => ⟨_, rfl, ?_⟩))
  ·
    refine w_if_ne (t := 21) dX10_value_14 rfl (fun _ => ?_) (fun h => absurd (by decide) h)
    obtain ⟨j, hj, rfl⟩ := nI_ofI i11a
    rw [nI_toInt hj] at i11a i11b
    have hjn : j < tN τ 2 := by omega
    have cj := clN hj
    have n1 : ¬ ¬ (0 ≤ (nI j).toInt ∧ (nI j).toInt < tN τ 2) := Classical.not_not.mpr ⟨by rw [nI_toInt hj]; omega, by rw [nI_toInt hj]; omega⟩
    obtain ⟨hF, f30, hO, hW, ht, hP, hvv, hvp⟩ := his w hm
    obtain ⟨hK, hI⟩ := id hF
    obtain ⟨hN, hKQ, hKV⟩ := id hK
    obtain ⟨_, hL, hD, hA⟩ := id hN
    refine w_aload_n dX10_value_21 rfl ?_
    refine r_geti  dX10_value_22 ft_9_143 R rfl (hS _ _ rfl) rfl (lb rfl) f30 ?_
    refine w_if_eq (t := 52) dX10_value_25 rfl (fun h => absurd h (by decide)) (fun h25 => ?_)
    refine w_aload_n dX10_value_28 rfl ?_
    refine r_getr  dX10_value_29 ft_9_91 R rfl (hS _ _ rfl) rfl (lb rfl) (hM.1 35 (lb rfl) (lb rfl)) ?_
    refine w_iload_n dX10_value_32 rfl ?_
    refine r_iald  dX10_value_33 R rfl (hS _ _ rfl) rfl rfl (by omega) (lb rfl) (hA j hjn).1 ?_
    refine w_iconst (v := 1) dX10_value_34 (by decide) ?_
    refine r_icmp_neP (t := 56) dX10_value_35 rfl (fun h35 => ?_) (fun h35 => ?_)
    ·
      refine w_iconst (v := 0) dX10_value_56 (by decide) ?_
      refine r_puti  dX10_value_57 ft_9_1 R rfl (hS _ _ rfl) rfl (lb rfl) (fun h => by cases h) rfl rfl (fun G1 R1 => ?_)
      refine w_aload_n dX10_value_60 rfl ?_
      refine r_geti  dX10_value_61 ft_9_1 R1 rfl (hS _ _ rfl) rfl (lb rfl) sX_s ?_
      refine w_if_le (t := 71) dX10_value_64 rfl (fun h64 => ?_) (fun h => absurd (by decide) h)
      refine w_aload_n dX10_value_71 rfl ?_
      refine w_iload_n dX10_value_72 rfl ?_
      refine r_inv1  dX10_value_73 mt_9_249 R1 rfl (hS _ _ rfl) rfl (lb rfl) (lb rfl) (lb rfl) (lb rfl) rfl (c10_valueOf (s := sX s 0 0 0 (.inl (.int 0))) R1 hS hV (NF_X hF (by omega) (by omega) rfl) hP (vV_n hV hvv) hjn (fun e => absurd e h35) ⟨_, rfl, ?_⟩)
      exact w_lret dX10_value_76 rfl (q _ _ (by rw [show t_value τ l (nI j) = 0 by unfold t_value; rw [if_neg n1, hm]; simp only []; rw [if_neg (fun e => by rw [cj] at e; exact h35 e.1)]]; exact R1) (fun _ => by unfold a_value; rw [hm, cj]))
    ·
      obtain ⟨d1, _, _, e3, e4, e5⟩ := at_place hV hjn h35
      obtain ⟨z, z1', z2'⟩ := nI_ofI (by rw [← e3] at e4; exact e4)
      have zl : z < tN τ 1 := by rw [← e3, z2', clN z1'] at e5; exact e5
      refine w_aload_n dX10_value_38 rfl ?_
      refine r_getr  dX10_value_39 ft_9_103 R rfl (hS _ _ rfl) rfl (lb rfl) (hM.1 40 (lb rfl) (lb rfl)) ?_
      refine w_aload_n dX10_value_42 rfl ?_
      refine r_getr  dX10_value_43 ft_9_94 R rfl (hS _ _ rfl) rfl (lb rfl) (hM.1 36 (lb rfl) (lb rfl)) ?_
      refine w_iload_n dX10_value_46 rfl ?_
      refine r_iald  dX10_value_47 R rfl (hS _ _ rfl) rfl rfl (by omega) (lb rfl) ((hA j hjn).2.1.trans z2') ?_
      refine r_zald  dX10_value_48 R rfl (hS _ _ rfl) rfl rfl (by omega) (lb rfl) (hKQ.2.2.1 z (by omega)) ?_
      refine r_if_neP (t := 56) dX10_value_49 rfl (fun h49 => ?_) (fun h49 => ?_)
      ·
        refine w_iconst (v := 0) dX10_value_56 (by decide) ?_
        refine r_puti  dX10_value_57 ft_9_1 R rfl (hS _ _ rfl) rfl (lb rfl) (fun h => by cases h) rfl rfl (fun G2 R2 => ?_)
        refine w_aload_n dX10_value_60 rfl ?_
        refine r_geti  dX10_value_61 ft_9_1 R2 rfl (hS _ _ rfl) rfl (lb rfl) sX_s ?_
        refine w_if_le (t := 71) dX10_value_64 rfl (fun h64 => ?_) (fun h => absurd (by decide) h)
        refine w_aload_n dX10_value_71 rfl ?_
        refine w_iload_n dX10_value_72 rfl ?_
        refine r_inv1  dX10_value_73 mt_9_249 R2 rfl (hS _ _ rfl) rfl (lb rfl) (lb rfl) (lb rfl) (lb rfl) rfl (c10_valueOf (s := sX s 0 0 0 (.inl (.int 0))) R2 hS hV (NF_X hF (by omega) (by omega) rfl) hP (vV_n hV hvv) hjn (fun _ => by rw [z2', clN z1']; exact b32_ne h49) ⟨_, rfl, ?_⟩)
        exact w_lret dX10_value_76 rfl (q _ _ (by rw [show t_value τ l (nI j) = 0 by unfold t_value; rw [if_neg n1, hm]; simp only []; rw [if_neg (fun e => by rw [cj, z2', clN z1', b32_ne h49] at e; cases e.2)]]; exact R2) (fun _ => by unfold a_value; rw [hm, cj]))
      ·
        refine w_iconst (v := 2) dX10_value_52 (by decide) ?_
        refine w_goto (t := 57) dX10_value_53 rfl ?_
        refine r_puti  dX10_value_57 ft_9_1 R rfl (hS _ _ rfl) rfl (lb rfl) (fun h => by cases h) rfl rfl (fun G3 R3 => ?_)
        refine w_aload_n dX10_value_60 rfl ?_
        refine r_geti  dX10_value_61 ft_9_1 R3 rfl (hS _ _ rfl) rfl (lb rfl) sX_s ?_
        refine w_if_le (t := 71) dX10_value_64 rfl (fun h => absurd h (by decide)) (fun h64 => ?_)
        refine w_lconst (v := 0) dX10_value_67 (by decide) ?_
        refine w_goto (t := 76) dX10_value_68 rfl ?_
        exact w_lret dX10_value_76 rfl (q _ _ (by rw [show t_value τ l (nI j) = 2 by unfold t_value; rw [if_neg n1, hm]; simp only []; rw [if_pos ⟨by rw [cj]; exact h35, by rw [cj, z2', clN z1']; exact b32_eq h49⟩]]; exact R3) (fun e9 => absurd ((show t_value τ l (nI j) = 2 by unfold t_value; rw [if_neg n1, hm]; simp only []; rw [if_pos ⟨by rw [cj]; exact h35, by rw [cj, z2', clN z1']; exact b32_eq h49⟩]).symm.trans e9) (by decide)))
  ·
    refine w_if_ne (t := 21) dX10_value_14 rfl (fun h => absurd h (by decide)) (fun _ => ?_)
    refine w_iconst (v := 1) dX10_value_17 (by decide) ?_
    refine w_goto (t := 57) dX10_value_18 rfl ?_
    refine r_puti  dX10_value_57 ft_9_1 R rfl (hS _ _ rfl) rfl (lb rfl) (fun h => by cases h) rfl rfl (fun G4 R4 => ?_)
    refine w_aload_n dX10_value_60 rfl ?_
    refine r_geti  dX10_value_61 ft_9_1 R4 rfl (hS _ _ rfl) rfl (lb rfl) sX_s ?_
    refine w_if_le (t := 71) dX10_value_64 rfl (fun h => absurd h (by decide)) (fun h64 => ?_)
    refine w_lconst (v := 0) dX10_value_67 (by decide) ?_
    refine w_goto (t := 76) dX10_value_68 rfl ?_
    exact w_lret dX10_value_76 rfl (q _ _ (by rw [show t_value τ l x = 1 by unfold t_value; rw [if_pos (fun e => i11 e.1 (by omega))]]; exact R4) (fun e9 => absurd ((show t_value τ l x = 1 by unfold t_value; rw [if_pos (fun e => i11 e.1 (by omega))]).symm.trans e9) (by decide)))
theorem c10_value (R : rx_R b0 O z1 z2 s G) (hS : rx_in s) {τ : tx_T} (hV : TV τ) {l : Option Bool} (hML : ML s τ l) {x : Int32} (q : ∀ (v : Int64) (G' : mx_H), rx_R b0 O z1 z2 (sX s 0 0 0 (.inl (.int (t_value τ l x)))) G' → (t_value τ l x = 0 → v = a_value τ l x) → Q (.inl (some (.long v))) G') : mx_W (gt_P b0 mi E) mX10_value 0 (mx_en 0 [.ref (rA s 0 0), .int x]) [] G Q := by
  cases hm : im τ l with
  | none => exact c10_value_0 R hS hV hML hm q
  | some w => exact c10_value_1 R hS hV hML hm q
theorem c10_range_0 (R : rx_R b0 O z1 z2 s G) (hS : rx_in s) {τ : tx_T} (hV : TV τ) {l : Option Bool} (hML : ML s τ l) (hm : im τ l = none) {x : Int32} {e : Bool} (q : ∀ (v : Int64) (G' : mx_H), rx_R b0 O z1 z2 (sX s 0 0 0 (.inl (.int (t_range τ l x)))) G' → (t_range τ l x = 0 → v = a_range τ l x e) → Q (.inl (some (.long v))) G') : mx_W (gt_P b0 mi E) mX10_range 0 (mx_en 0 [.ref (rA s 0 0), .int x, .int (b32 e)]) [] G Q := by
  obtain ⟨hT, h32, hkn, hks, hin, his⟩ := id hML
  obtain ⟨hM, ⟨c1, c2, c13, c14, c20, c26⟩, hsec, hby, hsy, hre, hro, hba⟩ := id hT
  have hV0 := hV.1
  refine w_aload_n dX10_range_0 rfl ?_
  refine w_iload_n dX10_range_1 rfl ?_
  refine w_i2l dX10_range_2 ?_
  refine w_lconst (v := 0) dX10_range_3 (by decide) ?_
  refine w_ldc2 dX10_range_4 ct_9_159 ?_
  refine r_stat3 dX10_range_7 mt_9_155 (lb rfl) (lb rfl) (lb rfl) (lb rfl) rfl (c10_inI (Int32.toInt_toInt64 _) (b := 0) (by decide) (c := 3) (by decide) (fun i7a i7b => ⟨_, rfl, ?_⟩) (fun i7 => ⟨_, rfl, ?_⟩))
  ·
    refine w_if_ne (t := 17) dX10_range_10 rfl (fun _ => ?_) (fun h => absurd (by decide) h)
    obtain ⟨j, hj, rfl⟩ := nI_ofI i7a
    rw [nI_toInt hj] at i7a i7b
    have hj4 : j < 4 := by omega
    have cj := clN hj
    have n1 : ¬ ¬ iw (nI j) 0 3 := Classical.not_not.mpr ⟨by rw [nI_toInt hj]; omega, by rw [nI_toInt hj]; omega⟩
    have f30 := hin hm
    refine w_aload_n dX10_range_17 rfl ?_
    refine r_geti  dX10_range_18 ft_9_143 R rfl (hS _ _ rfl) rfl (lb rfl) f30 ?_
    refine r_if_neP (t := 28) dX10_range_21 rfl (fun h => absurd rfl h) (fun h21 => ?_)
    refine w_iconst (v := 2) dX10_range_24 (by decide) ?_
    refine w_goto (t := 29) dX10_range_25 rfl ?_
    refine r_puti  dX10_range_29 ft_9_1 R rfl (hS _ _ rfl) rfl (lb rfl) (fun h => by cases h) rfl rfl (fun G1 R1 => ?_)
    refine w_aload_n dX10_range_32 rfl ?_
    refine r_geti  dX10_range_33 ft_9_1 R1 rfl (hS _ _ rfl) rfl (lb rfl) sX_s ?_
    refine w_if_le (t := 43) dX10_range_36 rfl (fun h => absurd h (by decide)) (fun h36 => ?_)
    refine w_lconst (v := 0) dX10_range_39 (by decide) ?_
    refine w_goto (t := 62) dX10_range_40 rfl ?_
    exact w_lret dX10_range_62 rfl (q _ _ (by rw [show t_range τ l (nI j) = 2 by unfold t_range; rw [if_neg n1, hm]]; exact R1) (fun e9 => absurd ((show t_range τ l (nI j) = 2 by unfold t_range; rw [if_neg n1, hm]).symm.trans e9) (by decide)))
  ·
    refine w_if_ne (t := 17) dX10_range_10 rfl (fun h => absurd h (by decide)) (fun _ => ?_)
    refine w_iconst (v := 1) dX10_range_13 (by decide) ?_
    refine w_goto (t := 29) dX10_range_14 rfl ?_
    refine r_puti  dX10_range_29 ft_9_1 R rfl (hS _ _ rfl) rfl (lb rfl) (fun h => by cases h) rfl rfl (fun G2 R2 => ?_)
    refine w_aload_n dX10_range_32 rfl ?_
    refine r_geti  dX10_range_33 ft_9_1 R2 rfl (hS _ _ rfl) rfl (lb rfl) sX_s ?_
    refine w_if_le (t := 43) dX10_range_36 rfl (fun h => absurd h (by decide)) (fun h36 => ?_)
    refine w_lconst (v := 0) dX10_range_39 (by decide) ?_
    refine w_goto (t := 62) dX10_range_40 rfl ?_
    exact w_lret dX10_range_62 rfl (q _ _ (by rw [show t_range τ l x = 1 by unfold t_range; rw [if_pos (fun e => i7 e.1 e.2)]]; exact R2) (fun e9 => absurd ((show t_range τ l x = 1 by unfold t_range; rw [if_pos (fun e => i7 e.1 e.2)]).symm.trans e9) (by decide)))
theorem c10_range_1 (R : rx_R b0 O z1 z2 s G) (hS : rx_in s) {τ : tx_T} (hV : TV τ) {l : Option Bool} (hML : ML s τ l) {w : Bool} (hm : im τ l = some w) {x : Int32} {e : Bool} (q : ∀ (v : Int64) (G' : mx_H), rx_R b0 O z1 z2 (sX s 0 0 0 (.inl (.int (t_range τ l x)))) G' → (t_range τ l x = 0 → v = a_range τ l x e) → Q (.inl (some (.long v))) G') : mx_W (gt_P b0 mi E) mX10_range 0 (mx_en 0 [.ref (rA s 0 0), .int x, .int (b32 e)]) [] G Q := by
  obtain ⟨hT, h32, hkn, hks, hin, his⟩ := id hML
  obtain ⟨hM, ⟨c1, c2, c13, c14, c20, c26⟩, hsec, hby, hsy, hre, hro, hba⟩ := id hT
  have hV0 := hV.1
  refine w_aload_n dX10_range_0 rfl ?_
  refine w_iload_n dX10_range_1 rfl ?_
  refine w_i2l dX10_range_2 ?_
  refine w_lconst (v := 0) dX10_range_3 (by decide) ?_
  refine w_ldc2 dX10_range_4 ct_9_159 ?_
  refine r_stat3 dX10_range_7 mt_9_155 (lb rfl) (lb rfl) (lb rfl) (lb rfl) rfl (c10_inI (Int32.toInt_toInt64 _) (b := 0) (by decide) (c := 3) (by decide) (fun i7a i7b => ⟨_, rfl, ?_⟩) (fun i7 => ⟨_, rfl, ?_⟩))
  ·
    refine w_if_ne (t := 17) dX10_range_10 rfl (fun _ => ?_) (fun h => absurd (by decide) h)
    obtain ⟨j, hj, rfl⟩ := nI_ofI i7a
    rw [nI_toInt hj] at i7a i7b
    have hj4 : j < 4 := by omega
    have cj := clN hj
    have n1 : ¬ ¬ iw (nI j) 0 3 := Classical.not_not.mpr ⟨by rw [nI_toInt hj]; omega, by rw [nI_toInt hj]; omega⟩
    obtain ⟨hF, f30, hO, hW, ht, hP, hvv, hvp⟩ := his w hm
    obtain ⟨hK, hI⟩ := id hF
    obtain ⟨hN, hKQ, hKV⟩ := id hK
    obtain ⟨_, hL, hD, hA⟩ := id hN
    refine w_aload_n dX10_range_17 rfl ?_
    refine r_geti  dX10_range_18 ft_9_143 R rfl (hS _ _ rfl) rfl (lb rfl) f30 ?_
    refine r_if_neP (t := 28) dX10_range_21 rfl (fun h21 => ?_) (fun h => absurd h (by decide))
    refine w_iconst (v := 0) dX10_range_28 (by decide) ?_
    refine r_puti  dX10_range_29 ft_9_1 R rfl (hS _ _ rfl) rfl (lb rfl) (fun h => by cases h) rfl rfl (fun G1 R1 => ?_)
    refine w_aload_n dX10_range_32 rfl ?_
    refine r_geti  dX10_range_33 ft_9_1 R1 rfl (hS _ _ rfl) rfl (lb rfl) sX_s ?_
    refine w_if_le (t := 43) dX10_range_36 rfl (fun h36 => ?_) (fun h => absurd (by decide) h)
    refine w_iload_n dX10_range_43 rfl ?_
    refine w_if_eq (t := 56) dX10_range_44 rfl (fun h44 => ?_) (fun h44 => ?_)
    ·
      refine w_aload_n dX10_range_56 rfl ?_
      refine r_getr  dX10_range_57 ft_9_124 R1 rfl (hS _ _ rfl) rfl (lb rfl) (hM.1 47 (lb rfl) (lb rfl)) ?_
      refine w_iload_n dX10_range_60 rfl ?_
      refine r_lald  dX10_range_61 R1 rfl (hS _ _ rfl) rfl rfl (by omega) (lb rfl) (hP.2 j hj4).1 ?_
      exact w_lret dX10_range_62 rfl (q _ _ (by rw [show t_range τ l (nI j) = 0 by unfold t_range; rw [if_neg n1, hm]]; exact R1) (fun _ => by unfold a_range; rw [hm, cj, b32_eq h44]; rfl))
    ·
      refine w_aload_n dX10_range_47 rfl ?_
      refine r_getr  dX10_range_48 ft_9_127 R1 rfl (hS _ _ rfl) rfl (lb rfl) (hM.1 48 (lb rfl) (lb rfl)) ?_
      refine w_iload_n dX10_range_51 rfl ?_
      refine r_lald  dX10_range_52 R1 rfl (hS _ _ rfl) rfl rfl (by omega) (lb rfl) (hP.2 j hj4).2 ?_
      refine w_goto (t := 62) dX10_range_53 rfl ?_
      exact w_lret dX10_range_62 rfl (q _ _ (by rw [show t_range τ l (nI j) = 0 by unfold t_range; rw [if_neg n1, hm]]; exact R1) (fun _ => by unfold a_range; rw [hm, cj, b32_ne h44]; rfl))
  ·
    refine w_if_ne (t := 17) dX10_range_10 rfl (fun h => absurd h (by decide)) (fun _ => ?_)
    refine w_iconst (v := 1) dX10_range_13 (by decide) ?_
    refine w_goto (t := 29) dX10_range_14 rfl ?_
    refine r_puti  dX10_range_29 ft_9_1 R rfl (hS _ _ rfl) rfl (lb rfl) (fun h => by cases h) rfl rfl (fun G2 R2 => ?_)
    refine w_aload_n dX10_range_32 rfl ?_
    refine r_geti  dX10_range_33 ft_9_1 R2 rfl (hS _ _ rfl) rfl (lb rfl) sX_s ?_
    refine w_if_le (t := 43) dX10_range_36 rfl (fun h => absurd h (by decide)) (fun h36 => ?_)
    refine w_lconst (v := 0) dX10_range_39 (by decide) ?_
    refine w_goto (t := 62) dX10_range_40 rfl ?_
    exact w_lret dX10_range_62 rfl (q _ _ (by rw [show t_range τ l x = 1 by unfold t_range; rw [if_pos (fun e => i7 e.1 e.2)]]; exact R2) (fun e9 => absurd ((show t_range τ l x = 1 by unfold t_range; rw [if_pos (fun e => i7 e.1 e.2)]).symm.trans e9) (by decide)))
theorem c10_range (R : rx_R b0 O z1 z2 s G) (hS : rx_in s) {τ : tx_T} (hV : TV τ) {l : Option Bool} (hML : ML s τ l) {x : Int32} {e : Bool} (q : ∀ (v : Int64) (G' : mx_H), rx_R b0 O z1 z2 (sX s 0 0 0 (.inl (.int (t_range τ l x)))) G' → (t_range τ l x = 0 → v = a_range τ l x e) → Q (.inl (some (.long v))) G') : mx_W (gt_P b0 mi E) mX10_range 0 (mx_en 0 [.ref (rA s 0 0), .int x, .int (b32 e)]) [] G Q := by
  cases hm : im τ l with
  | none => exact c10_range_0 R hS hV hML hm q
  | some w => exact c10_range_1 R hS hV hML hm q
theorem c10_veneers_0 (R : rx_R b0 O z1 z2 s G) (hS : rx_in s) {τ : tx_T} (hV : TV τ) {l : Option Bool} (hML : ML s τ l) (hm : im τ l = none) {x : Int32} (q : Q (.inl (some (.int (a_veneers τ l x)))) G) : mx_W (gt_P b0 mi E) mX10_veneers 0 (mx_en 0 [.ref (rA s 0 0), .int x]) [] G Q := by
  obtain ⟨hT, h32, hkn, hks, hin, his⟩ := id hML
  obtain ⟨hM, ⟨c1, c2, c13, c14, c20, c26⟩, hsec, hby, hsy, hre, hro, hba⟩ := id hT
  have hV0 := hV.1
  refine w_iload_n dX10_veneers_0 rfl ?_
  refine w_i2l dX10_veneers_1 ?_
  refine w_lconst (v := 0) dX10_veneers_2 (by decide) ?_
  refine w_aload_n dX10_veneers_3 rfl ?_
  refine r_geti  dX10_veneers_4 ft_9_165 R rfl (hS _ _ rfl) rfl (lb rfl) c2 ?_
  refine w_iconst (v := 1) dX10_veneers_7 (by decide) ?_
  refine w_isub dX10_veneers_8 ?_
  refine w_i2l dX10_veneers_9 ?_
  refine r_stat3 dX10_veneers_10 mt_9_155 (lb rfl) (lb rfl) (lb rfl) (lb rfl) rfl (c10_inI (Int32.toInt_toInt64 _) (b := 0) (by decide) (t_cnt (by omega)) (fun i10a i10b => ⟨_, rfl, ?_⟩) (fun i10 => ⟨_, rfl, ?_⟩))
  ·
    refine w_if_ne (t := 21) dX10_veneers_13 rfl (fun _ => ?_) (fun h => absurd (by decide) h)
    obtain ⟨j, hj, rfl⟩ := nI_ofI i10a
    rw [nI_toInt hj] at i10a i10b
    have hjn : j < tN τ 1 := by omega
    have cj := clN hj
    have n1 : ¬ ¬ (0 ≤ (nI j).toInt ∧ (nI j).toInt < tN τ 1) := Classical.not_not.mpr ⟨by rw [nI_toInt hj]; omega, by rw [nI_toInt hj]; omega⟩
    have f30 := hin hm
    refine w_aload_n dX10_veneers_21 rfl ?_
    refine r_geti  dX10_veneers_22 ft_9_143 R rfl (hS _ _ rfl) rfl (lb rfl) f30 ?_
    refine w_if_eq (t := 36) dX10_veneers_25 rfl (fun h25 => ?_) (fun h => absurd rfl h)
    refine w_bipush (v := (-103)) dX10_veneers_36 (by decide) ?_
    refine w_iret dX10_veneers_38 rfl rfl ?_
    have e : a_veneers τ l (nI j) = -103 := by unfold a_veneers; rw [if_neg n1, hm]
    rw [e] at q; exact q
  ·
    refine w_if_ne (t := 21) dX10_veneers_13 rfl (fun h => absurd h (by decide)) (fun _ => ?_)
    refine w_bipush (v := (-101)) dX10_veneers_16 (by decide) ?_
    refine w_goto (t := 38) dX10_veneers_18 rfl ?_
    refine w_iret dX10_veneers_38 rfl rfl ?_
    have e : a_veneers τ l x = -101 := by unfold a_veneers; rw [if_pos (fun e => i10 e.1 (by omega))]
    rw [e] at q; exact q
theorem c10_veneers_1 (R : rx_R b0 O z1 z2 s G) (hS : rx_in s) {τ : tx_T} (hV : TV τ) {l : Option Bool} (hML : ML s τ l) {w : Bool} (hm : im τ l = some w) {x : Int32} (q : Q (.inl (some (.int (a_veneers τ l x)))) G) : mx_W (gt_P b0 mi E) mX10_veneers 0 (mx_en 0 [.ref (rA s 0 0), .int x]) [] G Q := by
  obtain ⟨hT, h32, hkn, hks, hin, his⟩ := id hML
  obtain ⟨hM, ⟨c1, c2, c13, c14, c20, c26⟩, hsec, hby, hsy, hre, hro, hba⟩ := id hT
  have hV0 := hV.1
  refine w_iload_n dX10_veneers_0 rfl ?_
  refine w_i2l dX10_veneers_1 ?_
  refine w_lconst (v := 0) dX10_veneers_2 (by decide) ?_
  refine w_aload_n dX10_veneers_3 rfl ?_
  refine r_geti  dX10_veneers_4 ft_9_165 R rfl (hS _ _ rfl) rfl (lb rfl) c2 ?_
  refine w_iconst (v := 1) dX10_veneers_7 (by decide) ?_
  refine w_isub dX10_veneers_8 ?_
  refine w_i2l dX10_veneers_9 ?_
  refine r_stat3 dX10_veneers_10 mt_9_155 (lb rfl) (lb rfl) (lb rfl) (lb rfl) rfl (c10_inI (Int32.toInt_toInt64 _) (b := 0) (by decide) (t_cnt (by omega)) (fun i10a i10b => ⟨_, rfl, ?_⟩) (fun i10 => ⟨_, rfl, ?_⟩))
  ·
    refine w_if_ne (t := 21) dX10_veneers_13 rfl (fun _ => ?_) (fun h => absurd (by decide) h)
    obtain ⟨j, hj, rfl⟩ := nI_ofI i10a
    rw [nI_toInt hj] at i10a i10b
    have hjn : j < tN τ 1 := by omega
    have cj := clN hj
    have n1 : ¬ ¬ (0 ≤ (nI j).toInt ∧ (nI j).toInt < tN τ 1) := Classical.not_not.mpr ⟨by rw [nI_toInt hj]; omega, by rw [nI_toInt hj]; omega⟩
    obtain ⟨hF, f30, hO, hW, ht, hP, hvv, hvp⟩ := his w hm
    obtain ⟨hK, hI⟩ := id hF
    obtain ⟨hN, hKQ, hKV⟩ := id hK
    obtain ⟨_, hL, hD, hA⟩ := id hN
    refine w_aload_n dX10_veneers_21 rfl ?_
    refine r_geti  dX10_veneers_22 ft_9_143 R rfl (hS _ _ rfl) rfl (lb rfl) f30 ?_
    refine w_if_eq (t := 36) dX10_veneers_25 rfl (fun h => absurd h (by decide)) (fun h25 => ?_)
    refine w_aload_n dX10_veneers_28 rfl ?_
    refine w_iload_n dX10_veneers_29 rfl ?_
    refine r_inv1  dX10_veneers_30 mt_9_242 R rfl (hS _ _ rfl) rfl (lb rfl) (lb rfl) (lb rfl) (lb rfl) rfl (c10_veneersOf R hS hV hF hW (by have := vV_len hvv; omega) hjn (vV_m hvv) ⟨_, rfl, ?_⟩)
    refine w_goto (t := 38) dX10_veneers_33 rfl ?_
    refine w_iret dX10_veneers_38 rfl rfl ?_
    have e : a_veneers τ l (nI j) = nI (nvN (vR τ w).1.1 j) := by unfold a_veneers; rw [if_neg n1, hm, cj]
    rw [e] at q; exact q
  ·
    refine w_if_ne (t := 21) dX10_veneers_13 rfl (fun h => absurd h (by decide)) (fun _ => ?_)
    refine w_bipush (v := (-101)) dX10_veneers_16 (by decide) ?_
    refine w_goto (t := 38) dX10_veneers_18 rfl ?_
    refine w_iret dX10_veneers_38 rfl rfl ?_
    have e : a_veneers τ l x = -101 := by unfold a_veneers; rw [if_pos (fun e => i10 e.1 (by omega))]
    rw [e] at q; exact q
theorem c10_veneers (R : rx_R b0 O z1 z2 s G) (hS : rx_in s) {τ : tx_T} (hV : TV τ) {l : Option Bool} (hML : ML s τ l) {x : Int32} (q : Q (.inl (some (.int (a_veneers τ l x)))) G) : mx_W (gt_P b0 mi E) mX10_veneers 0 (mx_en 0 [.ref (rA s 0 0), .int x]) [] G Q := by
  cases hm : im τ l with
  | none => exact c10_veneers_0 R hS hV hML hm q
  | some w => exact c10_veneers_1 R hS hV hML hm q
theorem c10_found_l (R : rx_R b0 O z1 z2 s G) (hS : rx_in s) {τ : tx_T} (hV : TV τ) {l : Option Bool} (hML : ML s τ l) {w : Bool} (hk : kn τ l = some w) {f : Bool} : ∀ (d n : Nat) (L : mx_L), tN τ 1 - n < d → n ≤ tN τ 1 → L 0 = some (.ref (rA s 0 0)) → L 1 = some (.int (b32 f)) → L 2 = some (.int (nI (cnt (fun x => bif f then (inO τ w x).isSome else kin (kR τ) x) n))) → L 3 = some (.int (nI n)) → (Q (.inl (some (.int (nI (a_found τ l f))))) G) → mx_W (gt_P b0 mi E) mX10_found 4 L [] G Q := by
  obtain ⟨hT, h32, hkn, hks, hin, his⟩ := id hML
  obtain ⟨hM, ⟨c1, c2, c13, c14, c20, c26⟩, hsec, hby, hsy, hre, hro, hba⟩ := id hT
  have hV0 := hV.1
  obtain ⟨hF, f1, fb, f2, f3⟩ := hks w hk
  obtain ⟨hK, hI⟩ := id hF
  obtain ⟨hN, hKQ, hKV⟩ := id hK
  intro d
  induction d with
  | zero => intro n L hd; exact absurd hd (Nat.not_lt_zero _)
  | succ d ih =>
    intro n L hd hn h0 h1 h2 h3 q
    refine w_iload_n dX10_found_4 h3 ?_
    refine w_aload_n dX10_found_5 h0 ?_
    refine r_geti  dX10_found_6 ft_9_165 R rfl (hS _ _ rfl) rfl (lb rfl) c2 ?_
    refine r_icmp_gen (t := 67) dX10_found_9 rfl (by omega) (by omega) (fun h9 => ?_) (fun h9 => ?_)
    ·
      refine w_iload_n dX10_found_67 h2 ?_
      refine w_iret dX10_found_68 rfl rfl ?_
      obtain rfl : n = tN τ 1 := by omega
      have e : a_found τ l f = cnt (fun x => bif f then (inO τ w x).isSome else kin (kR τ) x) (tN τ 1) := by unfold a_found; rw [hk]
      rw [e] at q; exact q
    ·
      refine w_aload_n dX10_found_12 h0 ?_
      refine r_geti  dX10_found_13 ft_9_139 R rfl (hS _ _ rfl) rfl (lb rfl) f1 ?_
      refine w_if_eq (t := 67) dX10_found_16 rfl (fun h => absurd h (by decide)) (fun h16 => ?_)
      refine w_aload_n dX10_found_19 h0 ?_
      refine r_geti  dX10_found_20 ft_9_146 R rfl (hS _ _ rfl) rfl (lb rfl) f2 ?_
      refine w_iconst (v := 1) dX10_found_23 (by decide) ?_
      refine w_icmp_eq (t := 67) dX10_found_24 rfl (fun h => absurd h f3) (fun h24 => ?_)
      refine w_iload_n dX10_found_27 h2 ?_
      refine w_iload_n dX10_found_28 h1 ?_
      refine w_if_eq (t := 45) dX10_found_29 rfl (fun h29 => ?_) (fun h29 => ?_)
      ·
        refine w_aload_n dX10_found_45 h0 ?_
        refine r_getr  dX10_found_46 ft_9_103 R rfl (hS _ _ rfl) rfl (lb rfl) (hM.1 40 (lb rfl) (lb rfl)) ?_
        refine w_iload_n dX10_found_49 h3 ?_
        refine r_zald  dX10_found_50 R rfl (hS _ _ rfl) rfl rfl (by omega) (lb rfl) (hKQ.2.2.1 n (by omega)) ?_
        refine w_if_eq (t := 58) dX10_found_51 rfl (fun h51 => ?_) (fun h51 => ?_)
        ·
          refine w_iconst (v := nI 0) dX10_found_58 (by decide) ?_
          refine w_iadd dX10_found_59 ?_
          rw [nI_add]
          refine w_istore_n dX10_found_60 (lb rfl) ?_
          refine w_iinc dX10_found_61 h3 (nI_1 _) (lb rfl) ?_
          refine w_goto (t := 4) dX10_found_64 rfl ?_
          have hc : (bif f then (inO τ w n).isSome else kin (kR τ) n) = false := by rw [b32_eq h29]; exact b32_eq h51
          exact ih (n + 1) _ (by omega) (by omega) h0 h1 (by rw [cnt, hc]; rfl) rfl q
        ·
          refine w_iconst (v := nI 1) dX10_found_54 (by decide) ?_
          refine w_goto (t := 59) dX10_found_55 rfl ?_
          refine w_iadd dX10_found_59 ?_
          rw [nI_add]
          refine w_istore_n dX10_found_60 (lb rfl) ?_
          refine w_iinc dX10_found_61 h3 (nI_1 _) (lb rfl) ?_
          refine w_goto (t := 4) dX10_found_64 rfl ?_
          have hc : (bif f then (inO τ w n).isSome else kin (kR τ) n) = true := by rw [b32_eq h29]; exact b32_ne h51
          exact ih (n + 1) _ (by omega) (by omega) h0 h1 (by rw [cnt, hc]; rfl) rfl q
      ·
        refine w_aload_n dX10_found_32 h0 ?_
        refine r_getr  dX10_found_33 ft_9_112 R rfl (hS _ _ rfl) rfl (lb rfl) (hM.1 43 (lb rfl) (lb rfl)) ?_
        refine w_iload_n dX10_found_36 h3 ?_
        refine r_iald  dX10_found_37 R rfl (hS _ _ rfl) rfl rfl (by omega) (lb rfl) (hI n (by omega)) ?_
        refine w_iconst (v := (-1)) dX10_found_38 (by decide) ?_
        refine w_icmp_eq (t := 58) dX10_found_39 rfl (fun h39 => ?_) (fun h39 => ?_)
        ·
          refine w_iconst (v := nI 0) dX10_found_58 (by decide) ?_
          refine w_iadd dX10_found_59 ?_
          rw [nI_add]
          refine w_istore_n dX10_found_60 (lb rfl) ?_
          refine w_iinc dX10_found_61 h3 (nI_1 _) (lb rfl) ?_
          refine w_goto (t := 4) dX10_found_64 rfl ?_
          have hc : (bif f then (inO τ w n).isSome else kin (kR τ) n) = false := by rw [b32_ne h29, (oI_none (fun j hj => by have := fst_lt hj; omega)).mp h39]; rfl
          exact ih (n + 1) _ (by omega) (by omega) h0 h1 (by rw [cnt, hc]; rfl) rfl q
        ·
          refine w_goto (t := 54) dX10_found_42 rfl ?_
          refine w_iconst (v := nI 1) dX10_found_54 (by decide) ?_
          refine w_goto (t := 59) dX10_found_55 rfl ?_
          refine w_iadd dX10_found_59 ?_
          rw [nI_add]
          refine w_istore_n dX10_found_60 (lb rfl) ?_
          refine w_iinc dX10_found_61 h3 (nI_1 _) (lb rfl) ?_
          refine w_goto (t := 4) dX10_found_64 rfl ?_
          have hc : (bif f then (inO τ w n).isSome else kin (kR τ) n) = true := by
            rw [b32_ne h29]
            cases e : inO τ w n with
            | none => exact absurd (by rw [e]; rfl) h39
            | some j => rfl
          exact ih (n + 1) _ (by omega) (by omega) h0 h1 (by rw [cnt, hc]; rfl) rfl q
theorem c10_found_1 (R : rx_R b0 O z1 z2 s G) (hS : rx_in s) {τ : tx_T} (hV : TV τ) {l : Option Bool} (hML : ML s τ l) {w : Bool} (hk : kn τ l = some w) {f : Bool} (q : Q (.inl (some (.int (nI (a_found τ l f))))) G) : mx_W (gt_P b0 mi E) mX10_found 0 (mx_en 0 [.ref (rA s 0 0), .int (b32 f)]) [] G Q := by
  refine w_iconst (v := 0) dX10_found_0 (by decide) ?_
  refine w_istore_n dX10_found_1 (lb rfl) ?_
  refine w_iconst (v := 0) dX10_found_2 (by decide) ?_
  refine w_istore_n dX10_found_3 (lb rfl) ?_
  exact c10_found_l R hS hV hML hk (tN τ 1 + 1) 0 _ (by omega) (by omega) rfl rfl rfl rfl q
theorem c10_found_0 (R : rx_R b0 O z1 z2 s G) (hS : rx_in s) {τ : tx_T} (hV : TV τ) {l : Option Bool} (hML : ML s τ l) (hk : kn τ l = none) {f : Bool} (q : Q (.inl (some (.int (nI (a_found τ l f))))) G) : mx_W (gt_P b0 mi E) mX10_found 0 (mx_en 0 [.ref (rA s 0 0), .int (b32 f)]) [] G Q := by
  obtain ⟨hT, h32, hkn, hks, hin, his⟩ := id hML
  obtain ⟨hM, ⟨c1, c2, c13, c14, c20, c26⟩, hsec, hby, hsy, hre, hro, hba⟩ := id hT
  have hV0 := hV.1
  obtain ⟨fa, fb, f1, f2, f3⟩ := hkn hk
  have e : a_found τ l f = 0 := by unfold a_found; rw [hk]
  refine w_iconst (v := nI 0) dX10_found_0 (by decide) ?_
  refine w_istore_n dX10_found_1 (lb rfl) ?_
  refine w_iconst (v := nI 0) dX10_found_2 (by decide) ?_
  refine w_istore_n dX10_found_3 (lb rfl) ?_
  refine w_iload_n dX10_found_4 rfl ?_
  refine w_aload_n dX10_found_5 rfl ?_
  refine r_geti  dX10_found_6 ft_9_165 R rfl (hS _ _ rfl) rfl (lb rfl) c2 ?_
  refine r_icmp_gen (t := 67) dX10_found_9 rfl (by omega) (by omega) (fun h9 => ?_) (fun h9 => ?_)
  ·
    refine w_iload_n dX10_found_67 rfl ?_
    exact w_iret dX10_found_68 rfl rfl (by rw [e] at q; exact q)
  ·
    refine w_aload_n dX10_found_12 rfl ?_
    refine r_geti  dX10_found_13 ft_9_139 R rfl (hS _ _ rfl) rfl (lb rfl) f1 ?_
    refine w_if_eq (t := 67) dX10_found_16 rfl (fun h16 => ?_) (fun h16 => ?_)
    ·
      refine w_iload_n dX10_found_67 rfl ?_
      exact w_iret dX10_found_68 rfl rfl (by rw [e] at q; exact q)
    ·
      refine w_aload_n dX10_found_19 rfl ?_
      refine r_geti  dX10_found_20 ft_9_146 R rfl (hS _ _ rfl) rfl (lb rfl) f2 ?_
      refine w_iconst (v := 1) dX10_found_23 (by decide) ?_
      refine w_icmp_eq (t := 67) dX10_found_24 rfl (fun h24 => ?_) (fun h => (f3.elim h16 h : False).elim)
      refine w_iload_n dX10_found_67 rfl ?_
      exact w_iret dX10_found_68 rfl rfl (by rw [e] at q; exact q)
theorem c10_found (R : rx_R b0 O z1 z2 s G) (hS : rx_in s) {τ : tx_T} (hV : TV τ) {l : Option Bool} (hML : ML s τ l) {f : Bool} (q : Q (.inl (some (.int (nI (a_found τ l f))))) G) : mx_W (gt_P b0 mi E) mX10_found 0 (mx_en 0 [.ref (rA s 0 0), .int (b32 f)]) [] G Q := by
  cases hk : kn τ l with
  | none => exact c10_found_0 R hS hV hML hk q
  | some w => exact c10_found_1 R hS hV hML hk q
theorem c10_count (R : rx_R b0 O z1 z2 s G) (hS : rx_in s) {τ : tx_T} (hV : TV τ) {l : Option Bool} (hML : ML s τ l) {x : Int32} (q : Q (.inl (some (.int (a_count τ l x)))) G) : mx_W (gt_P b0 mi E) mX10_count 0 (mx_en 0 [.ref (rA s 0 0), .int x]) [] G Q := by
  obtain ⟨hT, h32, hkn, hks, hin, his⟩ := id hML
  obtain ⟨hM, ⟨c1, c2, c13, c14, c20, c26⟩, hsec, hby, hsy, hre, hro, hba⟩ := id hT
  have hV0 := hV.1
  obtain ⟨g, g30⟩ : ∃ g : Int32, rX s 0 0 30 = .inl (.int g) := by
    cases hm : im τ l with
    | none => exact ⟨0, hin hm⟩
    | some w => exact ⟨1, (his w hm).2.1⟩
  refine w_iload_n dX10_count_0 rfl ?_
  by_cases hsw : x.toInt < 0 ∨ 8 < x.toInt
  ·
    refine w_tblOut (t := 125) dX10_count_1 hsw rfl ?_
    refine w_bipush (v := (-102)) dX10_count_125 (by decide) ?_
    refine w_iret dX10_count_127 rfl rfl ?_
    have e : a_count τ l x = -102 := by unfold a_count; rw [if_neg (fun e => by rw [e] at hsw; exact absurd hsw (by decide)), if_neg (fun e => by rw [e] at hsw; exact absurd hsw (by decide)), if_neg (fun e => by rw [e] at hsw; exact absurd hsw (by decide)), if_neg (fun e => by rw [e] at hsw; exact absurd hsw (by decide)), if_neg (fun e => by rw [e] at hsw; exact absurd hsw (by decide)), if_neg (fun e => by rw [e] at hsw; exact absurd hsw (by decide)), if_neg (fun e => by rw [e] at hsw; exact absurd hsw (by decide)), if_neg (fun e => by rw [e] at hsw; exact absurd hsw (by decide)), if_neg (fun e => by rw [e] at hsw; exact absurd hsw (by decide))]
    rw [e] at q; exact q
  by_cases hs0 : x = 0
  ·
    refine w_tblIn (off := 51) (t := 52) dX10_count_1 hsw (by rw [hs0]; rfl) rfl ?_
    refine w_aload_n dX10_count_52 rfl ?_
    refine r_geti  dX10_count_53 ft_9_149 R rfl (hS _ _ rfl) rfl (lb rfl) c1 ?_
    refine w_iret dX10_count_56 rfl rfl ?_
    have e : a_count τ l x = nI (tN τ 0) := by unfold a_count; rw [if_pos hs0]
    rw [e] at q; exact q
  by_cases hs1 : x = 1
  ·
    refine w_tblIn (off := 56) (t := 57) dX10_count_1 hsw (by rw [hs1]; rfl) rfl ?_
    refine w_aload_n dX10_count_57 rfl ?_
    refine r_geti  dX10_count_58 ft_9_165 R rfl (hS _ _ rfl) rfl (lb rfl) c2 ?_
    refine w_iret dX10_count_61 rfl rfl ?_
    have e : a_count τ l x = nI (tN τ 1) := by unfold a_count; rw [if_neg hs0, if_pos hs1]
    rw [e] at q; exact q
  by_cases hs2 : x = 2
  ·
    refine w_tblIn (off := 61) (t := 62) dX10_count_1 hsw (by rw [hs2]; rfl) rfl ?_
    refine w_aload_n dX10_count_62 rfl ?_
    refine r_geti  dX10_count_63 ft_9_186 R rfl (hS _ _ rfl) rfl (lb rfl) c14 ?_
    refine w_iret dX10_count_66 rfl rfl ?_
    have e : a_count τ l x = nI (tN τ 2) := by unfold a_count; rw [if_neg hs0, if_neg hs1, if_pos hs2]
    rw [e] at q; exact q
  by_cases hs3 : x = 3
  ·
    refine w_tblIn (off := 66) (t := 67) dX10_count_1 hsw (by rw [hs3]; rfl) rfl ?_
    refine w_aload_n dX10_count_67 rfl ?_
    refine r_geti  dX10_count_68 ft_9_195 R rfl (hS _ _ rfl) rfl (lb rfl) c20 ?_
    refine w_iret dX10_count_71 rfl rfl ?_
    have e : a_count τ l x = nI (tN τ 3) := by unfold a_count; rw [if_neg hs0, if_neg hs1, if_neg hs2, if_pos hs3]
    rw [e] at q; exact q
  by_cases hs4 : x = 4
  ·
    refine w_tblIn (off := 71) (t := 72) dX10_count_1 hsw (by rw [hs4]; rfl) rfl ?_
    refine w_aload_n dX10_count_72 rfl ?_
    refine r_geti  dX10_count_73 ft_9_198 R rfl (hS _ _ rfl) rfl (lb rfl) c26 ?_
    refine w_iret dX10_count_76 rfl rfl ?_
    have e : a_count τ l x = nI (tN τ 4) := by unfold a_count; rw [if_neg hs0, if_neg hs1, if_neg hs2, if_neg hs3, if_pos hs4]
    rw [e] at q; exact q
  by_cases hs5 : x = 5
  ·
    refine w_tblIn (off := 76) (t := 77) dX10_count_1 hsw (by rw [hs5]; rfl) rfl ?_
    refine w_aload_n dX10_count_77 rfl ?_
    refine w_iload_n dX10_count_78 rfl ?_
    refine w_bipush (v := 6) dX10_count_79 (by decide) ?_
    refine r_icmp_neP (t := 88) dX10_count_81 rfl (fun h81 => ?_) (fun h => absurd (hs5.symm.trans h) (by decide))
    refine w_iconst (v := 0) dX10_count_88 (by decide) ?_
    refine r_inv1  dX10_count_89 mt_9_313 R rfl (hS _ _ rfl) rfl (lb rfl) (lb rfl) (lb rfl) (lb rfl) rfl (c10_found R hS hV hML (f := false) ⟨_, rfl, ?_⟩)
    refine w_iret dX10_count_92 rfl rfl ?_
    have e : a_count τ l x = nI (a_found τ l false) := by unfold a_count; rw [if_neg hs0, if_neg hs1, if_neg hs2, if_neg hs3, if_neg hs4, if_pos hs5]
    rw [e] at q; exact q
  by_cases hs6 : x = 6
  ·
    refine w_tblIn (off := 76) (t := 77) dX10_count_1 hsw (by rw [hs6]; rfl) rfl ?_
    refine w_aload_n dX10_count_77 rfl ?_
    refine w_iload_n dX10_count_78 rfl ?_
    refine w_bipush (v := 6) dX10_count_79 (by decide) ?_
    refine r_icmp_neP (t := 88) dX10_count_81 rfl (fun h => absurd hs6 h) (fun h81 => ?_)
    refine w_iconst (v := 1) dX10_count_84 (by decide) ?_
    refine w_goto (t := 89) dX10_count_85 rfl ?_
    refine r_inv1  dX10_count_89 mt_9_313 R rfl (hS _ _ rfl) rfl (lb rfl) (lb rfl) (lb rfl) (lb rfl) rfl (c10_found R hS hV hML (f := true) ⟨_, rfl, ?_⟩)
    refine w_iret dX10_count_92 rfl rfl ?_
    have e : a_count τ l x = nI (a_found τ l true) := by unfold a_count; rw [if_neg hs0, if_neg hs1, if_neg hs2, if_neg hs3, if_neg hs4, if_neg hs5, if_pos hs6]
    rw [e] at q; exact q
  by_cases hs7 : x = 7
  ·
    refine w_tblIn (off := 92) (t := 93) dX10_count_1 hsw (by rw [hs7]; rfl) rfl ?_
    refine w_aload_n dX10_count_93 rfl ?_
    refine r_geti  dX10_count_94 ft_9_143 R rfl (hS _ _ rfl) rfl (lb rfl) g30 ?_
    refine w_if_eq (t := 107) dX10_count_97 rfl (fun h97 => ?_) (fun h97 => ?_)
    ·
      have hm0 : im τ l = none := by
        cases hm : im τ l with
        | none => rfl
        | some w => rw [(his w hm).2.1] at g30; injection g30 with g30; injection g30 with g30; rw [← g30] at h97; exact absurd h97 (by decide)
      refine w_iconst (v := 0) dX10_count_107 (by decide) ?_
      refine w_iret dX10_count_108 rfl rfl ?_
      have e : a_count τ l x = 0 := by unfold a_count; rw [if_neg hs0, if_neg hs1, if_neg hs2, if_neg hs3, if_neg hs4, if_neg hs5, if_neg hs6, if_pos hs7, hm0]
      rw [e] at q; exact q
    ·
      obtain ⟨w, hm1⟩ : ∃ w, im τ l = some w := by
        cases hm : im τ l with
        | none => rw [hin hm] at g30; injection g30 with g30; injection g30 with g30; exact absurd g30.symm h97
        | some w => exact ⟨w, rfl⟩
      obtain ⟨_, _, _, hW, ht, _⟩ := his w hm1
      refine w_aload_n dX10_count_100 rfl ?_
      refine r_geti  dX10_count_101 ft_9_230 R rfl (hS _ _ rfl) rfl (lb rfl) ht ?_
      refine w_goto (t := 108) dX10_count_104 rfl ?_
      refine w_iret dX10_count_108 rfl rfl ?_
      have e : a_count τ l x = nI (vR τ w).2 := by unfold a_count; rw [if_neg hs0, if_neg hs1, if_neg hs2, if_neg hs3, if_neg hs4, if_neg hs5, if_neg hs6, if_pos hs7, hm1]
      rw [e] at q; exact q
  have hs8 : x = 8 := by
    apply Int32.toInt_inj.mp; show x.toInt = 8
    have e0 : x.toInt ≠ 0 := fun e => hs0 (Int32.toInt_inj.mp e)
    have e1 : x.toInt ≠ 1 := fun e => hs1 (Int32.toInt_inj.mp e)
    have e2 : x.toInt ≠ 2 := fun e => hs2 (Int32.toInt_inj.mp e)
    have e3 : x.toInt ≠ 3 := fun e => hs3 (Int32.toInt_inj.mp e)
    have e4 : x.toInt ≠ 4 := fun e => hs4 (Int32.toInt_inj.mp e)
    have e5 : x.toInt ≠ 5 := fun e => hs5 (Int32.toInt_inj.mp e)
    have e6 : x.toInt ≠ 6 := fun e => hs6 (Int32.toInt_inj.mp e)
    have e7 : x.toInt ≠ 7 := fun e => hs7 (Int32.toInt_inj.mp e)
    omega
  refine w_tblIn (off := 108) (t := 109) dX10_count_1 hsw (by rw [hs8]; rfl) rfl ?_
  refine w_aload_n dX10_count_109 rfl ?_
  refine r_geti  dX10_count_110 ft_9_143 R rfl (hS _ _ rfl) rfl (lb rfl) g30 ?_
  refine w_if_eq (t := 123) dX10_count_113 rfl (fun h113 => ?_) (fun h113 => ?_)
  ·
    have hm0 : im τ l = none := by
      cases hm : im τ l with
      | none => rfl
      | some w => rw [(his w hm).2.1] at g30; injection g30 with g30; injection g30 with g30; rw [← g30] at h113; exact absurd h113 (by decide)
    refine w_iconst (v := 0) dX10_count_123 (by decide) ?_
    refine w_iret dX10_count_124 rfl rfl ?_
    have e : a_count τ l x = 0 := by unfold a_count; rw [if_neg hs0, if_neg hs1, if_neg hs2, if_neg hs3, if_neg hs4, if_neg hs5, if_neg hs6, if_neg hs7, if_pos hs8, hm0]
    rw [e] at q; exact q
  ·
    obtain ⟨w, hm1⟩ : ∃ w, im τ l = some w := by
      cases hm : im τ l with
      | none => rw [hin hm] at g30; injection g30 with g30; injection g30 with g30; exact absurd g30.symm h113
      | some w => exact ⟨w, rfl⟩
    obtain ⟨_, _, _, hW, ht, _⟩ := his w hm1
    refine w_aload_n dX10_count_116 rfl ?_
    refine r_geti  dX10_count_117 ft_9_227 R rfl (hS _ _ rfl) rfl (lb rfl) hW.1 ?_
    refine w_goto (t := 124) dX10_count_120 rfl ?_
    refine w_iret dX10_count_124 rfl rfl ?_
    have e : a_count τ l x = nI (vR τ w).1.1.length := by unfold a_count; rw [if_neg hs0, if_neg hs1, if_neg hs2, if_neg hs3, if_neg hs4, if_neg hs5, if_neg hs6, if_neg hs7, if_pos hs8, hm1]
    rw [e] at q; exact q
end
