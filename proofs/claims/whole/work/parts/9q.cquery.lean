/-! ===== What the class answers ===== -/
section
variable {b0 mi z1 z2 : Nat} {E : Nat → Nat} {O : Nat → Option mx_C} {s : rx_S} {G : mx_H} {Q : mx_O → mx_H → Prop}
theorem c9_fault (R : rx_R b0 O z1 z2 s G) (hS : rx_in s) {τ : tx_T} (hV : TV τ) {l : Option Bool} (hC : CL E s τ l) (q : Q (.inl (some (.int (a_fault τ l)))) G) : mx_W (gt_P b0 mi E) mX9_fault 0 (mx_en 0 [.ref (rA s 2 0)]) [] G Q := by
  refine w_aload_n dX9_fault_0 rfl ?_
  refine r_geti  dX9_fault_1 ft_8_44 R rfl (hS _ _ rfl) rfl (lb rfl) hC.2.1 ?_
  exact w_iret dX9_fault_4 rfl rfl q
theorem c9_num (R : rx_R b0 O z1 z2 s G) (hS : rx_in s) {τ : tx_T} (hT : CT E s τ) (hV : TV τ) {o : Option Nat} (ho : ∀ j, o = some j → j < tN τ 1) (q : Q (.inl (some (.int (oI o)))) G) : mx_W (gt_P b0 mi E) mX9_numberOf 0 (mx_en 0 [rx_v (rA s) (oV o)]) [] G Q := by
  cases o with
  | none =>
    refine w_aload_nN dX9_numberOf_0 rfl ?_
    refine r_nnF (t := 8) dX9_numberOf_1 rfl ?_
    refine w_iconst (v := (-1)) dX9_numberOf_4 (by decide) ?_
    refine w_goto (t := 12) dX9_numberOf_5 rfl ?_
    exact w_iret dX9_numberOf_12 rfl rfl q
  | some j =>
    refine w_aload_n dX9_numberOf_0 rfl ?_
    refine r_nnT (t := 8) dX9_numberOf_1 rfl ?_
    refine w_aload_n dX9_numberOf_8 rfl ?_
    refine r_geti  dX9_numberOf_9 ft_8_85 R rfl (cT_Su hT (ho j rfl)) rfl (lb rfl) (cT_S hT (ho j rfl) 0 rfl) ?_
    exact w_iret dX9_numberOf_12 rfl rfl q
theorem c9_kept (R : rx_R b0 O z1 z2 s G) (hS : rx_in s) {τ : tx_T} (hV : TV τ) {l : Option Bool} (hC : CL E s τ l) {x t : Int32} (q : Q (.inl (some (.int (a_kept τ l x t)))) G) : mx_W (gt_P b0 mi E) mX9_kept 0 (mx_en 0 [.ref (rA s 2 0), .int x, .int t]) [] G Q := by
  have hV0 := hV.1
  have hT := hC.1
  cases ek : kn τ l with
  | none =>
    refine w_aload_n dX9_kept_0 rfl ?_
    refine r_getr  dX9_kept_1 ft_8_10 R rfl (hS _ _ rfl) rfl (lb rfl) (cT_s hT 2 0 rfl) ?_
    refine w_iload_n dX9_kept_4 rfl ?_
    refine r_inv1  dX9_kept_5 mt_8_88 R rfl (hS _ _ rfl) rfl (lb rfl) (lb rfl) (lb rfl) (lb rfl) rfl (c7_sectionAt R hS hT hV (fun e5 => ⟨_, rfl, ?_⟩) (fun j hj e5 => ⟨_, rfl, ?_⟩))
    ·
      refine w_astore_nN dX9_kept_8 (lb rfl) ?_
      refine w_aload_nN dX9_kept_9 rfl ?_
      refine r_nnF (t := 16) dX9_kept_10 rfl ?_
      refine w_bipush (v := (-101)) dX9_kept_13 (by decide) ?_
      exact w_iret dX9_kept_15 rfl rfl (by rw [show a_kept τ l x t = -101 from if_pos e5] at q; exact q)
    ·
      subst e5
      have hj2 : j < 2 ^ 31 := by omega
      have ej : cl (nI j) = j := nI_clamp hj2
      have en : ¬ ¬ (0 ≤ (nI j).toInt ∧ (nI j).toInt < tN τ 1) := Classical.not_not.mpr ⟨by rw [nI_toInt hj2]; omega, by rw [nI_toInt hj2]; omega⟩
      refine w_astore_n dX9_kept_8 (lb rfl) ?_
      refine w_aload_n dX9_kept_9 rfl ?_
      refine r_nnT (t := 16) dX9_kept_10 rfl ?_
      refine w_iload_n dX9_kept_16 rfl ?_
      refine w_iconst (v := 0) dX9_kept_17 (by decide) ?_
      refine w_iconst (v := nI 4) dX9_kept_18 (by decide) ?_
      refine r_stat3 dX9_kept_19 mt_8_58 (lb rfl) (lb rfl) (lb rfl) (lb rfl) rfl (c9_inI (b := 0) (by decide) (c := 4) (by decide) (fun i19a i19b => ⟨_, rfl, ?_⟩) (fun i19 => ⟨_, rfl, ?_⟩))
      ·
        refine w_if_ne (t := 28) dX9_kept_22 rfl (fun _ => ?_) (fun h => absurd (by decide) h)
        refine w_aload_n dX9_kept_28 rfl ?_
        refine r_geti  dX9_kept_29 ft_8_176 R rfl (hS _ _ rfl) rfl (lb rfl) (hC.2.2.1 ek) ?_
        refine r_if_neP (t := 38) dX9_kept_32 rfl (fun h => absurd rfl h) (fun h32 => ?_)
        refine w_bipush (v := (-103)) dX9_kept_35 (by decide) ?_
        exact w_iret dX9_kept_37 rfl rfl (by rw [show a_kept τ l (nI j) t = -103 from by unfold a_kept; rw [if_neg en, if_neg (Classical.not_not.mpr ⟨i19a, i19b⟩), ek]] at q; exact q)
      ·
        refine w_if_ne (t := 28) dX9_kept_22 rfl (fun h => absurd h (by decide)) (fun _ => ?_)
        refine w_bipush (v := (-102)) dX9_kept_25 (by decide) ?_
        exact w_iret dX9_kept_27 rfl rfl (by rw [show a_kept τ l (nI j) t = -102 from by unfold a_kept; rw [if_neg en, if_pos (fun e => i19 e.1 e.2)]] at q; exact q)
  | some w =>
    obtain ⟨x25, hF, x60⟩ := hC.2.2.2.1 w ek
    have hbo : ∀ j i, j < tN τ 1 → kbO (kR τ) j = some i → i < tN τ 1 := fun j i hj hi => Classical.byContradiction (fun hn => by
      have h1 := R.2.2.1 20 j 13 (20, i) (cT_Su hT hj) (by rw [hF.1.2.2.2 j hj, hi]; rfl)
      have h2 := (hT.2.2.2.2.2.2.2.2.2.1 i (by omega)).1
      rw [h2] at h1; cases h1)
    refine w_aload_n dX9_kept_0 rfl ?_
    refine r_getr  dX9_kept_1 ft_8_10 R rfl (hS _ _ rfl) rfl (lb rfl) (cT_s hT 2 0 rfl) ?_
    refine w_iload_n dX9_kept_4 rfl ?_
    refine r_inv1  dX9_kept_5 mt_8_88 R rfl (hS _ _ rfl) rfl (lb rfl) (lb rfl) (lb rfl) (lb rfl) rfl (c7_sectionAt R hS hT hV (fun e5 => ⟨_, rfl, ?_⟩) (fun j hj e5 => ⟨_, rfl, ?_⟩))
    ·
      refine w_astore_nN dX9_kept_8 (lb rfl) ?_
      refine w_aload_nN dX9_kept_9 rfl ?_
      refine r_nnF (t := 16) dX9_kept_10 rfl ?_
      refine w_bipush (v := (-101)) dX9_kept_13 (by decide) ?_
      exact w_iret dX9_kept_15 rfl rfl (by rw [show a_kept τ l x t = -101 from if_pos e5] at q; exact q)
    ·
      subst e5
      have hj2 : j < 2 ^ 31 := by omega
      have ej : cl (nI j) = j := nI_clamp hj2
      have en : ¬ ¬ (0 ≤ (nI j).toInt ∧ (nI j).toInt < tN τ 1) := Classical.not_not.mpr ⟨by rw [nI_toInt hj2]; omega, by rw [nI_toInt hj2]; omega⟩
      refine w_astore_n dX9_kept_8 (lb rfl) ?_
      refine w_aload_n dX9_kept_9 rfl ?_
      refine r_nnT (t := 16) dX9_kept_10 rfl ?_
      refine w_iload_n dX9_kept_16 rfl ?_
      refine w_iconst (v := 0) dX9_kept_17 (by decide) ?_
      refine w_iconst (v := nI 4) dX9_kept_18 (by decide) ?_
      refine r_stat3 dX9_kept_19 mt_8_58 (lb rfl) (lb rfl) (lb rfl) (lb rfl) rfl (c9_inI (b := 0) (by decide) (c := 4) (by decide) (fun i19a i19b => ⟨_, rfl, ?_⟩) (fun i19 => ⟨_, rfl, ?_⟩))
      ·
        refine w_if_ne (t := 28) dX9_kept_22 rfl (fun _ => ?_) (fun h => absurd (by decide) h)
        refine w_aload_n dX9_kept_28 rfl ?_
        refine r_geti  dX9_kept_29 ft_8_176 R rfl (hS _ _ rfl) rfl (lb rfl) x25 ?_
        refine r_if_neP (t := 38) dX9_kept_32 rfl (fun h32 => ?_) (fun h => absurd h (by decide))
        refine w_iload_n dX9_kept_38 rfl ?_
        by_cases hsw : t.toInt < 0 ∨ 3 < t.toInt
        ·
          refine w_tblOut (t := 110) dX9_kept_39 hsw rfl ?_
          have h4 : ¬ t = 0 ∧ ¬ t = 1 ∧ ¬ t = 2 ∧ ¬ t = 3 := ⟨fun e => by rw [e] at hsw; revert hsw; decide, fun e => by rw [e] at hsw; revert hsw; decide, fun e => by rw [e] at hsw; revert hsw; decide, fun e => by rw [e] at hsw; revert hsw; decide⟩
          refine w_aload_n dX9_kept_110 rfl ?_
          refine r_geti  dX9_kept_111 ft_8_211 R rfl (cT_Su hT hj) rfl (lb rfl) (hF.1.2.2.1 j hj) ?_
          refine w_iret dX9_kept_114 rfl rfl ?_
          have ea : a_kept τ l (nI j) t = krk (kR τ) j := by
            unfold a_kept; rw [if_neg en, if_neg (Classical.not_not.mpr ⟨i19a, i19b⟩), ek]
            show (if t = 0 then _ else _) = _
            rw [if_neg h4.1, if_neg h4.2.1, if_neg h4.2.2.1, if_neg h4.2.2.2, ej]
          rw [ea] at q; exact q
        by_cases hs0 : t = 0
        ·
          refine w_tblIn (off := 29) (t := 68) dX9_kept_39 hsw (by rw [hs0]; rfl) rfl ?_
          refine w_aload_n dX9_kept_68 rfl ?_
          refine r_inv0  dX9_kept_69 mt_8_193 R rfl (cT_Su hT hj) rfl (lb rfl) (lb rfl) (lb rfl) (lb rfl) rfl (c5_kept R hS hT hV hF hj (fun e69 => ⟨_, rfl, ?_⟩) (fun e69 => ⟨_, rfl, ?_⟩))
          ·
            refine w_if_eq (t := 79) dX9_kept_72 rfl (fun h => absurd h (by decide)) (fun _ => ?_)
            refine w_iconst (v := 1) dX9_kept_75 (by decide) ?_
            refine w_goto (t := 80) dX9_kept_76 rfl ?_
            refine w_iret dX9_kept_80 rfl rfl ?_
            have ea : a_kept τ l (nI j) t = 1 := by
              unfold a_kept; rw [if_neg en, if_neg (Classical.not_not.mpr ⟨i19a, i19b⟩), ek]
              show (if t = 0 then _ else _) = _
              rw [if_pos hs0, ej, e69]; rfl
            rw [ea] at q; exact q
          ·
            refine w_if_eq (t := 79) dX9_kept_72 rfl (fun _ => ?_) (fun h => absurd (by decide) h)
            refine w_iconst (v := 0) dX9_kept_79 (by decide) ?_
            refine w_iret dX9_kept_80 rfl rfl ?_
            have ea : a_kept τ l (nI j) t = 0 := by
              unfold a_kept; rw [if_neg en, if_neg (Classical.not_not.mpr ⟨i19a, i19b⟩), ek]
              show (if t = 0 then _ else _) = _
              rw [if_pos hs0, ej, e69]; rfl
            rw [ea] at q; exact q
        by_cases hs1 : t = 1
        ·
          refine w_tblIn (off := 42) (t := 81) dX9_kept_39 hsw (by rw [hs1]; rfl) rfl ?_
          refine w_aload_n dX9_kept_81 rfl ?_
          refine r_getv  dX9_kept_82 ft_8_197 R rfl (cT_Su hT hj) rfl (lb rfl) (hF.1.2.2.2 j hj) ?_
          refine r_stat1 dX9_kept_85 mt_8_201 (lb rfl) (by cases kbO (kR τ) j <;> exact lb rfl) (lb rfl) (lb rfl) (by cases kbO (kR τ) j <;> rfl) (c9_num R hS hT hV (fun i hi => hbo j i hj hi) ⟨_, rfl, ?_⟩)
          refine w_iret dX9_kept_88 rfl rfl ?_
          have ea : a_kept τ l (nI j) t = oI (kbO (kR τ) j) := by
            unfold a_kept; rw [if_neg en, if_neg (Classical.not_not.mpr ⟨i19a, i19b⟩), ek]
            show (if t = 0 then _ else _) = _
            rw [if_neg (show ¬ t = 0 by rw [hs1]; decide), if_pos hs1, ej]; exact (kby_W (kW_R hV) j).symm
          rw [ea] at q; exact q
        by_cases hs2 : t = 2
        ·
          refine w_tblIn (off := 50) (t := 89) dX9_kept_39 hsw (by rw [hs2]; rfl) rfl ?_
          refine w_aload_n dX9_kept_89 rfl ?_
          refine r_getv  dX9_kept_90 ft_8_205 R rfl (cT_Su hT hj) rfl (lb rfl) (hF.2 j hj) ?_
          refine r_stat1 dX9_kept_93 mt_8_201 (lb rfl) (by cases inO τ w j <;> exact lb rfl) (lb rfl) (lb rfl) (by cases inO τ w j <;> rfl) (c9_num R hS hT hV (fun i hi => by have := inO_lt (w := w) hj; rw [hi] at this; exact this) ⟨_, rfl, ?_⟩)
          refine w_iret dX9_kept_96 rfl rfl ?_
          have ea : a_kept τ l (nI j) t = oI (inO τ w j) := by
            unfold a_kept; rw [if_neg en, if_neg (Classical.not_not.mpr ⟨i19a, i19b⟩), ek]
            show (if t = 0 then _ else _) = _
            rw [if_neg (show ¬ t = 0 by rw [hs2]; decide), if_neg (show ¬ t = 1 by rw [hs2]; decide), if_pos hs2, ej]
          rw [ea] at q; exact q
        have hs3 : t = 3 := by
          apply Int32.toInt_inj.mp; show t.toInt = 3
          have e0 : t.toInt ≠ 0 := fun e => hs0 (Int32.toInt_inj.mp e)
          have e1 : t.toInt ≠ 1 := fun e => hs1 (Int32.toInt_inj.mp e)
          have e2 : t.toInt ≠ 2 := fun e => hs2 (Int32.toInt_inj.mp e)
          omega
        refine w_tblIn (off := 58) (t := 97) dX9_kept_39 hsw (by rw [hs3]; rfl) rfl ?_
        refine w_aload_n dX9_kept_97 rfl ?_
        refine r_geti  dX9_kept_98 ft_8_208 R rfl (cT_Su hT hj) rfl (lb rfl) (hF.1.1.1 j hj) ?_
        refine w_if_eq (t := 108) dX9_kept_101 rfl (fun h101 => ?_) (fun h101 => ?_)
        ·
          refine w_iconst (v := 0) dX9_kept_108 (by decide) ?_
          refine w_iret dX9_kept_109 rfl rfl ?_
          have ea : a_kept τ l (nI j) t = 0 := by
            unfold a_kept; rw [if_neg en, if_neg (Classical.not_not.mpr ⟨i19a, i19b⟩), ek]
            show (if t = 0 then _ else _) = _
            rw [if_neg (show ¬ t = 0 by rw [hs3]; decide), if_neg (show ¬ t = 1 by rw [hs3]; decide), if_neg (show ¬ t = 2 by rw [hs3]; decide), if_pos hs3, ej, b32_eq h101]; rfl
          rw [ea] at q; exact q
        ·
          refine w_iconst (v := 1) dX9_kept_104 (by decide) ?_
          refine w_goto (t := 109) dX9_kept_105 rfl ?_
          refine w_iret dX9_kept_109 rfl rfl ?_
          have ea : a_kept τ l (nI j) t = 1 := by
            unfold a_kept; rw [if_neg en, if_neg (Classical.not_not.mpr ⟨i19a, i19b⟩), ek]
            show (if t = 0 then _ else _) = _
            rw [if_neg (show ¬ t = 0 by rw [hs3]; decide), if_neg (show ¬ t = 1 by rw [hs3]; decide), if_neg (show ¬ t = 2 by rw [hs3]; decide), if_pos hs3, ej, b32_ne h101]; rfl
          rw [ea] at q; exact q
      ·
        refine w_if_ne (t := 28) dX9_kept_22 rfl (fun h => absurd h (by decide)) (fun _ => ?_)
        refine w_bipush (v := (-102)) dX9_kept_25 (by decide) ?_
        exact w_iret dX9_kept_27 rfl rfl (by rw [show a_kept τ l (nI j) t = -102 from by unfold a_kept; rw [if_neg en, if_pos (fun e => i19 e.1 e.2)]] at q; exact q)
theorem c9_veneers (R : rx_R b0 O z1 z2 s G) (hS : rx_in s) {τ : tx_T} (hV : TV τ) {l : Option Bool} (hC : CL E s τ l) {x : Int32} (q : Q (.inl (some (.int (a_veneers τ l x)))) G) : mx_W (gt_P b0 mi E) mX9_veneers 0 (mx_en 0 [.ref (rA s 2 0), .int x]) [] G Q := by
  have hV0 := hV.1
  have hT := hC.1
  cases ei : im τ l with
  | none =>
    refine w_aload_n dX9_veneers_0 rfl ?_
    refine r_getr  dX9_veneers_1 ft_8_10 R rfl (hS _ _ rfl) rfl (lb rfl) (cT_s hT 2 0 rfl) ?_
    refine w_iload_n dX9_veneers_4 rfl ?_
    refine r_inv1  dX9_veneers_5 mt_8_88 R rfl (hS _ _ rfl) rfl (lb rfl) (lb rfl) (lb rfl) (lb rfl) rfl (c7_sectionAt R hS hT hV (fun e5 => ⟨_, rfl, ?_⟩) (fun j hj e5 => ⟨_, rfl, ?_⟩))
    ·
      refine w_astore_nN dX9_veneers_8 (lb rfl) ?_
      refine w_aload_nN dX9_veneers_9 rfl ?_
      refine r_nnF (t := 16) dX9_veneers_10 rfl ?_
      refine w_bipush (v := (-101)) dX9_veneers_13 (by decide) ?_
      exact w_iret dX9_veneers_15 rfl rfl (by rw [show a_veneers τ l x = -101 from if_pos e5] at q; exact q)
    ·
      subst e5
      have hj2 : j < 2 ^ 31 := by omega
      have ej : cl (nI j) = j := nI_clamp hj2
      have en : ¬ ¬ (0 ≤ (nI j).toInt ∧ (nI j).toInt < tN τ 1) := Classical.not_not.mpr ⟨by rw [nI_toInt hj2]; omega, by rw [nI_toInt hj2]; omega⟩
      refine w_astore_n dX9_veneers_8 (lb rfl) ?_
      refine w_aload_n dX9_veneers_9 rfl ?_
      refine r_nnT (t := 16) dX9_veneers_10 rfl ?_
      refine w_aload_n dX9_veneers_16 rfl ?_
      refine r_geti  dX9_veneers_17 ft_8_190 R rfl (hS _ _ rfl) rfl (lb rfl) (hC.2.2.2.2.1 ei) ?_
      refine w_if_eq (t := 30) dX9_veneers_20 rfl (fun h20 => ?_) (fun h => absurd rfl h)
      refine w_bipush (v := (-103)) dX9_veneers_30 (by decide) ?_
      exact w_iret dX9_veneers_32 rfl rfl (by rw [show a_veneers τ l (nI j) = -103 from by unfold a_veneers; rw [if_neg en, ei]] at q; exact q)
  | some w =>
    obtain ⟨x26, hO, hv, hvi, hLO⟩ := hC.2.2.2.2.2 w ei
    refine w_aload_n dX9_veneers_0 rfl ?_
    refine r_getr  dX9_veneers_1 ft_8_10 R rfl (hS _ _ rfl) rfl (lb rfl) (cT_s hT 2 0 rfl) ?_
    refine w_iload_n dX9_veneers_4 rfl ?_
    refine r_inv1  dX9_veneers_5 mt_8_88 R rfl (hS _ _ rfl) rfl (lb rfl) (lb rfl) (lb rfl) (lb rfl) rfl (c7_sectionAt R hS hT hV (fun e5 => ⟨_, rfl, ?_⟩) (fun j hj e5 => ⟨_, rfl, ?_⟩))
    ·
      refine w_astore_nN dX9_veneers_8 (lb rfl) ?_
      refine w_aload_nN dX9_veneers_9 rfl ?_
      refine r_nnF (t := 16) dX9_veneers_10 rfl ?_
      refine w_bipush (v := (-101)) dX9_veneers_13 (by decide) ?_
      exact w_iret dX9_veneers_15 rfl rfl (by rw [show a_veneers τ l x = -101 from if_pos e5] at q; exact q)
    ·
      subst e5
      have hj2 : j < 2 ^ 31 := by omega
      have ej : cl (nI j) = j := nI_clamp hj2
      have en : ¬ ¬ (0 ≤ (nI j).toInt ∧ (nI j).toInt < tN τ 1) := Classical.not_not.mpr ⟨by rw [nI_toInt hj2]; omega, by rw [nI_toInt hj2]; omega⟩
      refine w_astore_n dX9_veneers_8 (lb rfl) ?_
      refine w_aload_n dX9_veneers_9 rfl ?_
      refine r_nnT (t := 16) dX9_veneers_10 rfl ?_
      refine w_aload_n dX9_veneers_16 rfl ?_
      refine r_geti  dX9_veneers_17 ft_8_190 R rfl (hS _ _ rfl) rfl (lb rfl) x26 ?_
      refine w_if_eq (t := 30) dX9_veneers_20 rfl (fun h => absurd h (by decide)) (fun h20 => ?_)
      refine w_aload_n dX9_veneers_23 rfl ?_
      refine r_geti  dX9_veneers_24 ft_8_270 R rfl (cT_Su hT hj) rfl (lb rfl) (hv.1 j hj) ?_
      refine w_goto (t := 32) dX9_veneers_27 rfl ?_
      exact w_iret dX9_veneers_32 rfl rfl (by rw [show a_veneers τ l (nI j) = nI (nvN (vR τ w).1.1 j) from by unfold a_veneers; rw [if_neg en, ei, ej]] at q; exact q)
theorem c9_count (R : rx_R b0 O z1 z2 s G) (hS : rx_in s) {τ : tx_T} (hV : TV τ) {l : Option Bool} (hC : CL E s τ l) {t : Int32} (q : Q (.inl (some (.int (a_count τ l t)))) G) : mx_W (gt_P b0 mi E) mX9_count 0 (mx_en 0 [.ref (rA s 2 0), .int t]) [] G Q := by
  have hV0 := hV.1
  have hT := hC.1
  rcases ek : kn τ l with _ | w <;> rcases ei : im τ l with _ | u
  ·
    refine w_iload_n dX9_count_0 rfl ?_
    by_cases hsw : t.toInt < 0 ∨ 8 < t.toInt
    ·
      refine w_tblOut (t := 180) dX9_count_1 hsw rfl ?_
      refine w_bipush (v := (-102)) dX9_count_180 (by decide) ?_
      refine w_iret dX9_count_182 rfl rfl ?_
      have hd : ∀ i : Int32, (0 ≤ i.toInt ∧ i.toInt ≤ 8) → ¬ t = i := fun i hi e => by rw [e] at hsw; omega
      rw [show a_count τ l t = -102 from by unfold a_count; rw [if_neg (hd 0 (by decide)), if_neg (hd 1 (by decide)), if_neg (hd 2 (by decide)), if_neg (hd 3 (by decide)), if_neg (hd 4 (by decide)), if_neg (hd 5 (by decide)), if_neg (hd 6 (by decide)), if_neg (hd 7 (by decide)), if_neg (hd 8 (by decide))]] at q; exact q
    by_cases hs0 : t = 0
    ·
      refine w_tblIn (off := 51) (t := 52) dX9_count_1 hsw (by rw [hs0]; rfl) rfl ?_
      refine w_aload_n dX9_count_52 rfl ?_
      refine r_getr  dX9_count_53 ft_8_10 R rfl (hS _ _ rfl) rfl (lb rfl) (cT_s hT 2 0 rfl) ?_
      refine r_geti  dX9_count_56 ft_8_48 R rfl (hS _ _ rfl) rfl (lb rfl) hT.2.1.1 ?_
      exact w_iret dX9_count_59 rfl rfl (by rw [show a_count τ l t = nI (tN τ 0) from by unfold a_count; rw [if_pos hs0]] at q; exact q)
    by_cases hs1 : t = 1
    ·
      refine w_tblIn (off := 59) (t := 60) dX9_count_1 hsw (by rw [hs1]; rfl) rfl ?_
      refine w_aload_n dX9_count_60 rfl ?_
      refine r_getr  dX9_count_61 ft_8_10 R rfl (hS _ _ rfl) rfl (lb rfl) (cT_s hT 2 0 rfl) ?_
      refine r_getr  dX9_count_64 ft_8_62 R rfl (hS _ _ rfl) rfl (lb rfl) (cT_s hT 3 0 rfl) ?_
      refine r_inv0  dX9_count_67 mt_8_66 R rfl (hS _ _ rfl) rfl (lb rfl) (lb rfl) (lb rfl) (lb rfl) rfl (c_lsize R rfl (hS _ _ rfl) (cT_l0 hT).2.1 ⟨_, rfl, ?_⟩)
      exact w_iret dX9_count_70 rfl rfl (by rw [show a_count τ l t = nI (tN τ 1) from by unfold a_count; rw [if_neg (show ¬ t = 0 by rw [hs1]; decide), if_pos hs1]] at q; exact q)
    by_cases hs2 : t = 2
    ·
      refine w_tblIn (off := 70) (t := 71) dX9_count_1 hsw (by rw [hs2]; rfl) rfl ?_
      refine w_aload_n dX9_count_71 rfl ?_
      refine r_getr  dX9_count_72 ft_8_10 R rfl (hS _ _ rfl) rfl (lb rfl) (cT_s hT 2 0 rfl) ?_
      refine r_getr  dX9_count_75 ft_8_119 R rfl (hS _ _ rfl) rfl (lb rfl) (cT_s hT 3 1 rfl) ?_
      refine r_inv0  dX9_count_78 mt_8_66 R rfl (hS _ _ rfl) rfl (lb rfl) (lb rfl) (lb rfl) (lb rfl) rfl (c_lsize R rfl (hS _ _ rfl) (cT_l1 hT).2.1 ⟨_, rfl, ?_⟩)
      exact w_iret dX9_count_81 rfl rfl (by rw [show a_count τ l t = nI (tN τ 2) from by unfold a_count; rw [if_neg (show ¬ t = 0 by rw [hs2]; decide), if_neg (show ¬ t = 1 by rw [hs2]; decide), if_pos hs2]] at q; exact q)
    by_cases hs3 : t = 3
    ·
      refine w_tblIn (off := 81) (t := 82) dX9_count_1 hsw (by rw [hs3]; rfl) rfl ?_
      refine w_aload_n dX9_count_82 rfl ?_
      refine r_getr  dX9_count_83 ft_8_10 R rfl (hS _ _ rfl) rfl (lb rfl) (cT_s hT 2 0 rfl) ?_
      refine r_getr  dX9_count_86 ft_8_145 R rfl (hS _ _ rfl) rfl (lb rfl) (cT_s hT 3 2 rfl) ?_
      refine r_inv0  dX9_count_89 mt_8_66 R rfl (hS _ _ rfl) rfl (lb rfl) (lb rfl) (lb rfl) (lb rfl) rfl (c_lsize R rfl (hS _ _ rfl) (cT_l2 hT).2.1 ⟨_, rfl, ?_⟩)
      exact w_iret dX9_count_92 rfl rfl (by rw [show a_count τ l t = nI (tN τ 3) from by unfold a_count; rw [if_neg (show ¬ t = 0 by rw [hs3]; decide), if_neg (show ¬ t = 1 by rw [hs3]; decide), if_neg (show ¬ t = 2 by rw [hs3]; decide), if_pos hs3]] at q; exact q)
    by_cases hs4 : t = 4
    ·
      refine w_tblIn (off := 92) (t := 93) dX9_count_1 hsw (by rw [hs4]; rfl) rfl ?_
      refine w_aload_n dX9_count_93 rfl ?_
      refine r_getr  dX9_count_94 ft_8_10 R rfl (hS _ _ rfl) rfl (lb rfl) (cT_s hT 2 0 rfl) ?_
      refine r_geti  dX9_count_97 ft_8_157 R rfl (hS _ _ rfl) rfl (lb rfl) hT.2.1.2.1 ?_
      exact w_iret dX9_count_100 rfl rfl (by rw [show a_count τ l t = nI (tN τ 4) from by unfold a_count; rw [if_neg (show ¬ t = 0 by rw [hs4]; decide), if_neg (show ¬ t = 1 by rw [hs4]; decide), if_neg (show ¬ t = 2 by rw [hs4]; decide), if_neg (show ¬ t = 3 by rw [hs4]; decide), if_pos hs4]] at q; exact q)
    by_cases hs5 : t = 5
    ·
      refine w_tblIn (off := 100) (t := 101) dX9_count_1 hsw (by rw [hs5]; rfl) rfl ?_
      refine w_aload_n dX9_count_101 rfl ?_
      refine r_geti  dX9_count_102 ft_8_176 R rfl (hS _ _ rfl) rfl (lb rfl) (hC.2.2.1 ek) ?_
      refine w_if_eq (t := 121) dX9_count_105 rfl (fun h105 => ?_) (fun h => absurd rfl h)
      refine w_iconst (v := 0) dX9_count_121 (by decide) ?_
      exact w_iret dX9_count_122 rfl rfl (by rw [show a_count τ l t = 0 from by unfold a_count; rw [if_neg (show ¬ t = 0 by rw [hs5]; decide), if_neg (show ¬ t = 1 by rw [hs5]; decide), if_neg (show ¬ t = 2 by rw [hs5]; decide), if_neg (show ¬ t = 3 by rw [hs5]; decide), if_neg (show ¬ t = 4 by rw [hs5]; decide), if_pos hs5, show a_found τ l false = 0 from by unfold a_found; rw [ek]]; rfl] at q; exact q)
    by_cases hs6 : t = 6
    ·
      refine w_tblIn (off := 122) (t := 123) dX9_count_1 hsw (by rw [hs6]; rfl) rfl ?_
      refine w_aload_n dX9_count_123 rfl ?_
      refine r_geti  dX9_count_124 ft_8_176 R rfl (hS _ _ rfl) rfl (lb rfl) (hC.2.2.1 ek) ?_
      refine w_if_eq (t := 140) dX9_count_127 rfl (fun h127 => ?_) (fun h => absurd rfl h)
      refine w_iconst (v := 0) dX9_count_140 (by decide) ?_
      exact w_iret dX9_count_141 rfl rfl (by rw [show a_count τ l t = 0 from by unfold a_count; rw [if_neg (show ¬ t = 0 by rw [hs6]; decide), if_neg (show ¬ t = 1 by rw [hs6]; decide), if_neg (show ¬ t = 2 by rw [hs6]; decide), if_neg (show ¬ t = 3 by rw [hs6]; decide), if_neg (show ¬ t = 4 by rw [hs6]; decide), if_neg (show ¬ t = 5 by rw [hs6]; decide), if_pos hs6, show a_found τ l true = 0 from by unfold a_found; rw [ek]]; rfl] at q; exact q)
    by_cases hs7 : t = 7
    ·
      refine w_tblIn (off := 141) (t := 142) dX9_count_1 hsw (by rw [hs7]; rfl) rfl ?_
      refine w_aload_n dX9_count_142 rfl ?_
      refine r_geti  dX9_count_143 ft_8_190 R rfl (hS _ _ rfl) rfl (lb rfl) (hC.2.2.2.2.1 ei) ?_
      refine w_if_eq (t := 159) dX9_count_146 rfl (fun h146 => ?_) (fun h => absurd rfl h)
      refine w_iconst (v := 0) dX9_count_159 (by decide) ?_
      exact w_iret dX9_count_160 rfl rfl (by rw [show a_count τ l t = 0 from by unfold a_count; rw [if_neg (show ¬ t = 0 by rw [hs7]; decide), if_neg (show ¬ t = 1 by rw [hs7]; decide), if_neg (show ¬ t = 2 by rw [hs7]; decide), if_neg (show ¬ t = 3 by rw [hs7]; decide), if_neg (show ¬ t = 4 by rw [hs7]; decide), if_neg (show ¬ t = 5 by rw [hs7]; decide), if_neg (show ¬ t = 6 by rw [hs7]; decide), if_pos hs7, ei]] at q; exact q)
    have hs8 : t = 8 := by
      apply Int32.toInt_inj.mp; show t.toInt = 8
      have e0 : t.toInt ≠ 0 := fun e => hs0 (Int32.toInt_inj.mp e)
      have e1 : t.toInt ≠ 1 := fun e => hs1 (Int32.toInt_inj.mp e)
      have e2 : t.toInt ≠ 2 := fun e => hs2 (Int32.toInt_inj.mp e)
      have e3 : t.toInt ≠ 3 := fun e => hs3 (Int32.toInt_inj.mp e)
      have e4 : t.toInt ≠ 4 := fun e => hs4 (Int32.toInt_inj.mp e)
      have e5 : t.toInt ≠ 5 := fun e => hs5 (Int32.toInt_inj.mp e)
      have e6 : t.toInt ≠ 6 := fun e => hs6 (Int32.toInt_inj.mp e)
      have e7 : t.toInt ≠ 7 := fun e => hs7 (Int32.toInt_inj.mp e)
      omega
    refine w_tblIn (off := 160) (t := 161) dX9_count_1 hsw (by rw [hs8]; rfl) rfl ?_
    refine w_aload_n dX9_count_161 rfl ?_
    refine r_geti  dX9_count_162 ft_8_190 R rfl (hS _ _ rfl) rfl (lb rfl) (hC.2.2.2.2.1 ei) ?_
    refine w_if_eq (t := 178) dX9_count_165 rfl (fun h165 => ?_) (fun h => absurd rfl h)
    refine w_iconst (v := 0) dX9_count_178 (by decide) ?_
    exact w_iret dX9_count_179 rfl rfl (by rw [show a_count τ l t = 0 from by unfold a_count; rw [if_neg (show ¬ t = 0 by rw [hs8]; decide), if_neg (show ¬ t = 1 by rw [hs8]; decide), if_neg (show ¬ t = 2 by rw [hs8]; decide), if_neg (show ¬ t = 3 by rw [hs8]; decide), if_neg (show ¬ t = 4 by rw [hs8]; decide), if_neg (show ¬ t = 5 by rw [hs8]; decide), if_neg (show ¬ t = 6 by rw [hs8]; decide), if_neg (show ¬ t = 7 by rw [hs8]; decide), if_pos hs8, ei]] at q; exact q)
  ·
    obtain ⟨x26, hO, hv, hvi, hLO⟩ := hC.2.2.2.2.2 u ei
    refine w_iload_n dX9_count_0 rfl ?_
    by_cases hsw : t.toInt < 0 ∨ 8 < t.toInt
    ·
      refine w_tblOut (t := 180) dX9_count_1 hsw rfl ?_
      refine w_bipush (v := (-102)) dX9_count_180 (by decide) ?_
      refine w_iret dX9_count_182 rfl rfl ?_
      have hd : ∀ i : Int32, (0 ≤ i.toInt ∧ i.toInt ≤ 8) → ¬ t = i := fun i hi e => by rw [e] at hsw; omega
      rw [show a_count τ l t = -102 from by unfold a_count; rw [if_neg (hd 0 (by decide)), if_neg (hd 1 (by decide)), if_neg (hd 2 (by decide)), if_neg (hd 3 (by decide)), if_neg (hd 4 (by decide)), if_neg (hd 5 (by decide)), if_neg (hd 6 (by decide)), if_neg (hd 7 (by decide)), if_neg (hd 8 (by decide))]] at q; exact q
    by_cases hs0 : t = 0
    ·
      refine w_tblIn (off := 51) (t := 52) dX9_count_1 hsw (by rw [hs0]; rfl) rfl ?_
      refine w_aload_n dX9_count_52 rfl ?_
      refine r_getr  dX9_count_53 ft_8_10 R rfl (hS _ _ rfl) rfl (lb rfl) (cT_s hT 2 0 rfl) ?_
      refine r_geti  dX9_count_56 ft_8_48 R rfl (hS _ _ rfl) rfl (lb rfl) hT.2.1.1 ?_
      exact w_iret dX9_count_59 rfl rfl (by rw [show a_count τ l t = nI (tN τ 0) from by unfold a_count; rw [if_pos hs0]] at q; exact q)
    by_cases hs1 : t = 1
    ·
      refine w_tblIn (off := 59) (t := 60) dX9_count_1 hsw (by rw [hs1]; rfl) rfl ?_
      refine w_aload_n dX9_count_60 rfl ?_
      refine r_getr  dX9_count_61 ft_8_10 R rfl (hS _ _ rfl) rfl (lb rfl) (cT_s hT 2 0 rfl) ?_
      refine r_getr  dX9_count_64 ft_8_62 R rfl (hS _ _ rfl) rfl (lb rfl) (cT_s hT 3 0 rfl) ?_
      refine r_inv0  dX9_count_67 mt_8_66 R rfl (hS _ _ rfl) rfl (lb rfl) (lb rfl) (lb rfl) (lb rfl) rfl (c_lsize R rfl (hS _ _ rfl) (cT_l0 hT).2.1 ⟨_, rfl, ?_⟩)
      exact w_iret dX9_count_70 rfl rfl (by rw [show a_count τ l t = nI (tN τ 1) from by unfold a_count; rw [if_neg (show ¬ t = 0 by rw [hs1]; decide), if_pos hs1]] at q; exact q)
    by_cases hs2 : t = 2
    ·
      refine w_tblIn (off := 70) (t := 71) dX9_count_1 hsw (by rw [hs2]; rfl) rfl ?_
      refine w_aload_n dX9_count_71 rfl ?_
      refine r_getr  dX9_count_72 ft_8_10 R rfl (hS _ _ rfl) rfl (lb rfl) (cT_s hT 2 0 rfl) ?_
      refine r_getr  dX9_count_75 ft_8_119 R rfl (hS _ _ rfl) rfl (lb rfl) (cT_s hT 3 1 rfl) ?_
      refine r_inv0  dX9_count_78 mt_8_66 R rfl (hS _ _ rfl) rfl (lb rfl) (lb rfl) (lb rfl) (lb rfl) rfl (c_lsize R rfl (hS _ _ rfl) (cT_l1 hT).2.1 ⟨_, rfl, ?_⟩)
      exact w_iret dX9_count_81 rfl rfl (by rw [show a_count τ l t = nI (tN τ 2) from by unfold a_count; rw [if_neg (show ¬ t = 0 by rw [hs2]; decide), if_neg (show ¬ t = 1 by rw [hs2]; decide), if_pos hs2]] at q; exact q)
    by_cases hs3 : t = 3
    ·
      refine w_tblIn (off := 81) (t := 82) dX9_count_1 hsw (by rw [hs3]; rfl) rfl ?_
      refine w_aload_n dX9_count_82 rfl ?_
      refine r_getr  dX9_count_83 ft_8_10 R rfl (hS _ _ rfl) rfl (lb rfl) (cT_s hT 2 0 rfl) ?_
      refine r_getr  dX9_count_86 ft_8_145 R rfl (hS _ _ rfl) rfl (lb rfl) (cT_s hT 3 2 rfl) ?_
      refine r_inv0  dX9_count_89 mt_8_66 R rfl (hS _ _ rfl) rfl (lb rfl) (lb rfl) (lb rfl) (lb rfl) rfl (c_lsize R rfl (hS _ _ rfl) (cT_l2 hT).2.1 ⟨_, rfl, ?_⟩)
      exact w_iret dX9_count_92 rfl rfl (by rw [show a_count τ l t = nI (tN τ 3) from by unfold a_count; rw [if_neg (show ¬ t = 0 by rw [hs3]; decide), if_neg (show ¬ t = 1 by rw [hs3]; decide), if_neg (show ¬ t = 2 by rw [hs3]; decide), if_pos hs3]] at q; exact q)
    by_cases hs4 : t = 4
    ·
      refine w_tblIn (off := 92) (t := 93) dX9_count_1 hsw (by rw [hs4]; rfl) rfl ?_
      refine w_aload_n dX9_count_93 rfl ?_
      refine r_getr  dX9_count_94 ft_8_10 R rfl (hS _ _ rfl) rfl (lb rfl) (cT_s hT 2 0 rfl) ?_
      refine r_geti  dX9_count_97 ft_8_157 R rfl (hS _ _ rfl) rfl (lb rfl) hT.2.1.2.1 ?_
      exact w_iret dX9_count_100 rfl rfl (by rw [show a_count τ l t = nI (tN τ 4) from by unfold a_count; rw [if_neg (show ¬ t = 0 by rw [hs4]; decide), if_neg (show ¬ t = 1 by rw [hs4]; decide), if_neg (show ¬ t = 2 by rw [hs4]; decide), if_neg (show ¬ t = 3 by rw [hs4]; decide), if_pos hs4]] at q; exact q)
    by_cases hs5 : t = 5
    ·
      refine w_tblIn (off := 100) (t := 101) dX9_count_1 hsw (by rw [hs5]; rfl) rfl ?_
      refine w_aload_n dX9_count_101 rfl ?_
      refine r_geti  dX9_count_102 ft_8_176 R rfl (hS _ _ rfl) rfl (lb rfl) (hC.2.2.1 ek) ?_
      refine w_if_eq (t := 121) dX9_count_105 rfl (fun h105 => ?_) (fun h => absurd rfl h)
      refine w_iconst (v := 0) dX9_count_121 (by decide) ?_
      exact w_iret dX9_count_122 rfl rfl (by rw [show a_count τ l t = 0 from by unfold a_count; rw [if_neg (show ¬ t = 0 by rw [hs5]; decide), if_neg (show ¬ t = 1 by rw [hs5]; decide), if_neg (show ¬ t = 2 by rw [hs5]; decide), if_neg (show ¬ t = 3 by rw [hs5]; decide), if_neg (show ¬ t = 4 by rw [hs5]; decide), if_pos hs5, show a_found τ l false = 0 from by unfold a_found; rw [ek]]; rfl] at q; exact q)
    by_cases hs6 : t = 6
    ·
      refine w_tblIn (off := 122) (t := 123) dX9_count_1 hsw (by rw [hs6]; rfl) rfl ?_
      refine w_aload_n dX9_count_123 rfl ?_
      refine r_geti  dX9_count_124 ft_8_176 R rfl (hS _ _ rfl) rfl (lb rfl) (hC.2.2.1 ek) ?_
      refine w_if_eq (t := 140) dX9_count_127 rfl (fun h127 => ?_) (fun h => absurd rfl h)
      refine w_iconst (v := 0) dX9_count_140 (by decide) ?_
      exact w_iret dX9_count_141 rfl rfl (by rw [show a_count τ l t = 0 from by unfold a_count; rw [if_neg (show ¬ t = 0 by rw [hs6]; decide), if_neg (show ¬ t = 1 by rw [hs6]; decide), if_neg (show ¬ t = 2 by rw [hs6]; decide), if_neg (show ¬ t = 3 by rw [hs6]; decide), if_neg (show ¬ t = 4 by rw [hs6]; decide), if_neg (show ¬ t = 5 by rw [hs6]; decide), if_pos hs6, show a_found τ l true = 0 from by unfold a_found; rw [ek]]; rfl] at q; exact q)
    by_cases hs7 : t = 7
    ·
      refine w_tblIn (off := 141) (t := 142) dX9_count_1 hsw (by rw [hs7]; rfl) rfl ?_
      refine w_aload_n dX9_count_142 rfl ?_
      refine r_geti  dX9_count_143 ft_8_190 R rfl (hS _ _ rfl) rfl (lb rfl) x26 ?_
      refine w_if_eq (t := 159) dX9_count_146 rfl (fun h => absurd h (by decide)) (fun h146 => ?_)
      refine w_aload_n dX9_count_149 rfl ?_
      refine r_getr  dX9_count_150 ft_8_40 R rfl (hS _ _ rfl) rfl (lb rfl) (cT_s hT 2 4 rfl) ?_
      refine r_geti  dX9_count_153 ft_8_279 R rfl (hS _ _ rfl) rfl (lb rfl) hLO.2.2.2 ?_
      refine w_goto (t := 160) dX9_count_156 rfl ?_
      exact w_iret dX9_count_160 rfl rfl (by rw [show a_count τ l t = nI (vR τ u).2 from by unfold a_count; rw [if_neg (show ¬ t = 0 by rw [hs7]; decide), if_neg (show ¬ t = 1 by rw [hs7]; decide), if_neg (show ¬ t = 2 by rw [hs7]; decide), if_neg (show ¬ t = 3 by rw [hs7]; decide), if_neg (show ¬ t = 4 by rw [hs7]; decide), if_neg (show ¬ t = 5 by rw [hs7]; decide), if_neg (show ¬ t = 6 by rw [hs7]; decide), if_pos hs7, ei]] at q; exact q)
    have hs8 : t = 8 := by
      apply Int32.toInt_inj.mp; show t.toInt = 8
      have e0 : t.toInt ≠ 0 := fun e => hs0 (Int32.toInt_inj.mp e)
      have e1 : t.toInt ≠ 1 := fun e => hs1 (Int32.toInt_inj.mp e)
      have e2 : t.toInt ≠ 2 := fun e => hs2 (Int32.toInt_inj.mp e)
      have e3 : t.toInt ≠ 3 := fun e => hs3 (Int32.toInt_inj.mp e)
      have e4 : t.toInt ≠ 4 := fun e => hs4 (Int32.toInt_inj.mp e)
      have e5 : t.toInt ≠ 5 := fun e => hs5 (Int32.toInt_inj.mp e)
      have e6 : t.toInt ≠ 6 := fun e => hs6 (Int32.toInt_inj.mp e)
      have e7 : t.toInt ≠ 7 := fun e => hs7 (Int32.toInt_inj.mp e)
      omega
    refine w_tblIn (off := 160) (t := 161) dX9_count_1 hsw (by rw [hs8]; rfl) rfl ?_
    refine w_aload_n dX9_count_161 rfl ?_
    refine r_geti  dX9_count_162 ft_8_190 R rfl (hS _ _ rfl) rfl (lb rfl) x26 ?_
    refine w_if_eq (t := 178) dX9_count_165 rfl (fun h => absurd h (by decide)) (fun h165 => ?_)
    refine w_aload_n dX9_count_168 rfl ?_
    refine r_getr  dX9_count_169 ft_8_40 R rfl (hS _ _ rfl) rfl (lb rfl) (cT_s hT 2 4 rfl) ?_
    refine r_geti  dX9_count_172 ft_8_282 R rfl (hS _ _ rfl) rfl (lb rfl) hv.2.2 ?_
    refine w_goto (t := 179) dX9_count_175 rfl ?_
    exact w_iret dX9_count_179 rfl rfl (by rw [show a_count τ l t = nI (vR τ u).1.1.length from by unfold a_count; rw [if_neg (show ¬ t = 0 by rw [hs8]; decide), if_neg (show ¬ t = 1 by rw [hs8]; decide), if_neg (show ¬ t = 2 by rw [hs8]; decide), if_neg (show ¬ t = 3 by rw [hs8]; decide), if_neg (show ¬ t = 4 by rw [hs8]; decide), if_neg (show ¬ t = 5 by rw [hs8]; decide), if_neg (show ¬ t = 6 by rw [hs8]; decide), if_neg (show ¬ t = 7 by rw [hs8]; decide), if_pos hs8, ei]] at q; exact q)
  ·
    obtain ⟨x25, hF, x60⟩ := hC.2.2.2.1 w ek
    refine w_iload_n dX9_count_0 rfl ?_
    by_cases hsw : t.toInt < 0 ∨ 8 < t.toInt
    ·
      refine w_tblOut (t := 180) dX9_count_1 hsw rfl ?_
      refine w_bipush (v := (-102)) dX9_count_180 (by decide) ?_
      refine w_iret dX9_count_182 rfl rfl ?_
      have hd : ∀ i : Int32, (0 ≤ i.toInt ∧ i.toInt ≤ 8) → ¬ t = i := fun i hi e => by rw [e] at hsw; omega
      rw [show a_count τ l t = -102 from by unfold a_count; rw [if_neg (hd 0 (by decide)), if_neg (hd 1 (by decide)), if_neg (hd 2 (by decide)), if_neg (hd 3 (by decide)), if_neg (hd 4 (by decide)), if_neg (hd 5 (by decide)), if_neg (hd 6 (by decide)), if_neg (hd 7 (by decide)), if_neg (hd 8 (by decide))]] at q; exact q
    by_cases hs0 : t = 0
    ·
      refine w_tblIn (off := 51) (t := 52) dX9_count_1 hsw (by rw [hs0]; rfl) rfl ?_
      refine w_aload_n dX9_count_52 rfl ?_
      refine r_getr  dX9_count_53 ft_8_10 R rfl (hS _ _ rfl) rfl (lb rfl) (cT_s hT 2 0 rfl) ?_
      refine r_geti  dX9_count_56 ft_8_48 R rfl (hS _ _ rfl) rfl (lb rfl) hT.2.1.1 ?_
      exact w_iret dX9_count_59 rfl rfl (by rw [show a_count τ l t = nI (tN τ 0) from by unfold a_count; rw [if_pos hs0]] at q; exact q)
    by_cases hs1 : t = 1
    ·
      refine w_tblIn (off := 59) (t := 60) dX9_count_1 hsw (by rw [hs1]; rfl) rfl ?_
      refine w_aload_n dX9_count_60 rfl ?_
      refine r_getr  dX9_count_61 ft_8_10 R rfl (hS _ _ rfl) rfl (lb rfl) (cT_s hT 2 0 rfl) ?_
      refine r_getr  dX9_count_64 ft_8_62 R rfl (hS _ _ rfl) rfl (lb rfl) (cT_s hT 3 0 rfl) ?_
      refine r_inv0  dX9_count_67 mt_8_66 R rfl (hS _ _ rfl) rfl (lb rfl) (lb rfl) (lb rfl) (lb rfl) rfl (c_lsize R rfl (hS _ _ rfl) (cT_l0 hT).2.1 ⟨_, rfl, ?_⟩)
      exact w_iret dX9_count_70 rfl rfl (by rw [show a_count τ l t = nI (tN τ 1) from by unfold a_count; rw [if_neg (show ¬ t = 0 by rw [hs1]; decide), if_pos hs1]] at q; exact q)
    by_cases hs2 : t = 2
    ·
      refine w_tblIn (off := 70) (t := 71) dX9_count_1 hsw (by rw [hs2]; rfl) rfl ?_
      refine w_aload_n dX9_count_71 rfl ?_
      refine r_getr  dX9_count_72 ft_8_10 R rfl (hS _ _ rfl) rfl (lb rfl) (cT_s hT 2 0 rfl) ?_
      refine r_getr  dX9_count_75 ft_8_119 R rfl (hS _ _ rfl) rfl (lb rfl) (cT_s hT 3 1 rfl) ?_
      refine r_inv0  dX9_count_78 mt_8_66 R rfl (hS _ _ rfl) rfl (lb rfl) (lb rfl) (lb rfl) (lb rfl) rfl (c_lsize R rfl (hS _ _ rfl) (cT_l1 hT).2.1 ⟨_, rfl, ?_⟩)
      exact w_iret dX9_count_81 rfl rfl (by rw [show a_count τ l t = nI (tN τ 2) from by unfold a_count; rw [if_neg (show ¬ t = 0 by rw [hs2]; decide), if_neg (show ¬ t = 1 by rw [hs2]; decide), if_pos hs2]] at q; exact q)
    by_cases hs3 : t = 3
    ·
      refine w_tblIn (off := 81) (t := 82) dX9_count_1 hsw (by rw [hs3]; rfl) rfl ?_
      refine w_aload_n dX9_count_82 rfl ?_
      refine r_getr  dX9_count_83 ft_8_10 R rfl (hS _ _ rfl) rfl (lb rfl) (cT_s hT 2 0 rfl) ?_
      refine r_getr  dX9_count_86 ft_8_145 R rfl (hS _ _ rfl) rfl (lb rfl) (cT_s hT 3 2 rfl) ?_
      refine r_inv0  dX9_count_89 mt_8_66 R rfl (hS _ _ rfl) rfl (lb rfl) (lb rfl) (lb rfl) (lb rfl) rfl (c_lsize R rfl (hS _ _ rfl) (cT_l2 hT).2.1 ⟨_, rfl, ?_⟩)
      exact w_iret dX9_count_92 rfl rfl (by rw [show a_count τ l t = nI (tN τ 3) from by unfold a_count; rw [if_neg (show ¬ t = 0 by rw [hs3]; decide), if_neg (show ¬ t = 1 by rw [hs3]; decide), if_neg (show ¬ t = 2 by rw [hs3]; decide), if_pos hs3]] at q; exact q)
    by_cases hs4 : t = 4
    ·
      refine w_tblIn (off := 92) (t := 93) dX9_count_1 hsw (by rw [hs4]; rfl) rfl ?_
      refine w_aload_n dX9_count_93 rfl ?_
      refine r_getr  dX9_count_94 ft_8_10 R rfl (hS _ _ rfl) rfl (lb rfl) (cT_s hT 2 0 rfl) ?_
      refine r_geti  dX9_count_97 ft_8_157 R rfl (hS _ _ rfl) rfl (lb rfl) hT.2.1.2.1 ?_
      exact w_iret dX9_count_100 rfl rfl (by rw [show a_count τ l t = nI (tN τ 4) from by unfold a_count; rw [if_neg (show ¬ t = 0 by rw [hs4]; decide), if_neg (show ¬ t = 1 by rw [hs4]; decide), if_neg (show ¬ t = 2 by rw [hs4]; decide), if_neg (show ¬ t = 3 by rw [hs4]; decide), if_pos hs4]] at q; exact q)
    by_cases hs5 : t = 5
    ·
      refine w_tblIn (off := 100) (t := 101) dX9_count_1 hsw (by rw [hs5]; rfl) rfl ?_
      refine w_aload_n dX9_count_101 rfl ?_
      refine r_geti  dX9_count_102 ft_8_176 R rfl (hS _ _ rfl) rfl (lb rfl) x25 ?_
      refine w_if_eq (t := 121) dX9_count_105 rfl (fun h => absurd h (by decide)) (fun h105 => ?_)
      refine w_aload_n dX9_count_108 rfl ?_
      refine r_getr  dX9_count_109 ft_8_26 R rfl (hS _ _ rfl) rfl (lb rfl) (cT_s hT 2 2 rfl) ?_
      refine r_getr  dX9_count_112 ft_8_273 R rfl (hS _ _ rfl) rfl (lb rfl) (cT_s hT 5 0 rfl) ?_
      refine r_inv0  dX9_count_115 mt_8_66 R rfl (hS _ _ rfl) rfl (lb rfl) (lb rfl) (lb rfl) (lb rfl) rfl (c_lsize R rfl (hS _ _ rfl) hF.1.2.1.2.1 ⟨_, rfl, ?_⟩)
      refine w_goto (t := 122) dX9_count_118 rfl ?_
      exact w_iret dX9_count_122 rfl rfl (by rw [show a_count τ l t = nI (kR τ).length from by unfold a_count; rw [if_neg (show ¬ t = 0 by rw [hs5]; decide), if_neg (show ¬ t = 1 by rw [hs5]; decide), if_neg (show ¬ t = 2 by rw [hs5]; decide), if_neg (show ¬ t = 3 by rw [hs5]; decide), if_neg (show ¬ t = 4 by rw [hs5]; decide), if_pos hs5, show a_found τ l false = (kR τ).length from by unfold a_found; rw [ek]; exact (kR_cl hV).2.2]] at q; exact q)
    by_cases hs6 : t = 6
    ·
      refine w_tblIn (off := 122) (t := 123) dX9_count_1 hsw (by rw [hs6]; rfl) rfl ?_
      refine w_aload_n dX9_count_123 rfl ?_
      refine r_geti  dX9_count_124 ft_8_176 R rfl (hS _ _ rfl) rfl (lb rfl) x25 ?_
      refine w_if_eq (t := 140) dX9_count_127 rfl (fun h => absurd h (by decide)) (fun h127 => ?_)
      refine w_aload_n dX9_count_130 rfl ?_
      refine r_getr  dX9_count_131 ft_8_33 R rfl (hS _ _ rfl) rfl (lb rfl) (cT_s hT 2 3 rfl) ?_
      refine r_geti  dX9_count_134 ft_8_276 R rfl (hS _ _ rfl) rfl (lb rfl) x60 ?_
      refine w_goto (t := 141) dX9_count_137 rfl ?_
      exact w_iret dX9_count_141 rfl rfl (by rw [show a_count τ l t = nI (cnt (fun x => (inO τ w x).isSome) (tN τ 1)) from by unfold a_count; rw [if_neg (show ¬ t = 0 by rw [hs6]; decide), if_neg (show ¬ t = 1 by rw [hs6]; decide), if_neg (show ¬ t = 2 by rw [hs6]; decide), if_neg (show ¬ t = 3 by rw [hs6]; decide), if_neg (show ¬ t = 4 by rw [hs6]; decide), if_neg (show ¬ t = 5 by rw [hs6]; decide), if_pos hs6, show a_found τ l true = cnt (fun x => (inO τ w x).isSome) (tN τ 1) from by unfold a_found; rw [ek]; rfl]] at q; exact q)
    by_cases hs7 : t = 7
    ·
      refine w_tblIn (off := 141) (t := 142) dX9_count_1 hsw (by rw [hs7]; rfl) rfl ?_
      refine w_aload_n dX9_count_142 rfl ?_
      refine r_geti  dX9_count_143 ft_8_190 R rfl (hS _ _ rfl) rfl (lb rfl) (hC.2.2.2.2.1 ei) ?_
      refine w_if_eq (t := 159) dX9_count_146 rfl (fun h146 => ?_) (fun h => absurd rfl h)
      refine w_iconst (v := 0) dX9_count_159 (by decide) ?_
      exact w_iret dX9_count_160 rfl rfl (by rw [show a_count τ l t = 0 from by unfold a_count; rw [if_neg (show ¬ t = 0 by rw [hs7]; decide), if_neg (show ¬ t = 1 by rw [hs7]; decide), if_neg (show ¬ t = 2 by rw [hs7]; decide), if_neg (show ¬ t = 3 by rw [hs7]; decide), if_neg (show ¬ t = 4 by rw [hs7]; decide), if_neg (show ¬ t = 5 by rw [hs7]; decide), if_neg (show ¬ t = 6 by rw [hs7]; decide), if_pos hs7, ei]] at q; exact q)
    have hs8 : t = 8 := by
      apply Int32.toInt_inj.mp; show t.toInt = 8
      have e0 : t.toInt ≠ 0 := fun e => hs0 (Int32.toInt_inj.mp e)
      have e1 : t.toInt ≠ 1 := fun e => hs1 (Int32.toInt_inj.mp e)
      have e2 : t.toInt ≠ 2 := fun e => hs2 (Int32.toInt_inj.mp e)
      have e3 : t.toInt ≠ 3 := fun e => hs3 (Int32.toInt_inj.mp e)
      have e4 : t.toInt ≠ 4 := fun e => hs4 (Int32.toInt_inj.mp e)
      have e5 : t.toInt ≠ 5 := fun e => hs5 (Int32.toInt_inj.mp e)
      have e6 : t.toInt ≠ 6 := fun e => hs6 (Int32.toInt_inj.mp e)
      have e7 : t.toInt ≠ 7 := fun e => hs7 (Int32.toInt_inj.mp e)
      omega
    refine w_tblIn (off := 160) (t := 161) dX9_count_1 hsw (by rw [hs8]; rfl) rfl ?_
    refine w_aload_n dX9_count_161 rfl ?_
    refine r_geti  dX9_count_162 ft_8_190 R rfl (hS _ _ rfl) rfl (lb rfl) (hC.2.2.2.2.1 ei) ?_
    refine w_if_eq (t := 178) dX9_count_165 rfl (fun h165 => ?_) (fun h => absurd rfl h)
    refine w_iconst (v := 0) dX9_count_178 (by decide) ?_
    exact w_iret dX9_count_179 rfl rfl (by rw [show a_count τ l t = 0 from by unfold a_count; rw [if_neg (show ¬ t = 0 by rw [hs8]; decide), if_neg (show ¬ t = 1 by rw [hs8]; decide), if_neg (show ¬ t = 2 by rw [hs8]; decide), if_neg (show ¬ t = 3 by rw [hs8]; decide), if_neg (show ¬ t = 4 by rw [hs8]; decide), if_neg (show ¬ t = 5 by rw [hs8]; decide), if_neg (show ¬ t = 6 by rw [hs8]; decide), if_neg (show ¬ t = 7 by rw [hs8]; decide), if_pos hs8, ei]] at q; exact q)
  ·
    obtain ⟨x25, hF, x60⟩ := hC.2.2.2.1 w ek
    obtain ⟨x26, hO, hv, hvi, hLO⟩ := hC.2.2.2.2.2 u ei
    refine w_iload_n dX9_count_0 rfl ?_
    by_cases hsw : t.toInt < 0 ∨ 8 < t.toInt
    ·
      refine w_tblOut (t := 180) dX9_count_1 hsw rfl ?_
      refine w_bipush (v := (-102)) dX9_count_180 (by decide) ?_
      refine w_iret dX9_count_182 rfl rfl ?_
      have hd : ∀ i : Int32, (0 ≤ i.toInt ∧ i.toInt ≤ 8) → ¬ t = i := fun i hi e => by rw [e] at hsw; omega
      rw [show a_count τ l t = -102 from by unfold a_count; rw [if_neg (hd 0 (by decide)), if_neg (hd 1 (by decide)), if_neg (hd 2 (by decide)), if_neg (hd 3 (by decide)), if_neg (hd 4 (by decide)), if_neg (hd 5 (by decide)), if_neg (hd 6 (by decide)), if_neg (hd 7 (by decide)), if_neg (hd 8 (by decide))]] at q; exact q
    by_cases hs0 : t = 0
    ·
      refine w_tblIn (off := 51) (t := 52) dX9_count_1 hsw (by rw [hs0]; rfl) rfl ?_
      refine w_aload_n dX9_count_52 rfl ?_
      refine r_getr  dX9_count_53 ft_8_10 R rfl (hS _ _ rfl) rfl (lb rfl) (cT_s hT 2 0 rfl) ?_
      refine r_geti  dX9_count_56 ft_8_48 R rfl (hS _ _ rfl) rfl (lb rfl) hT.2.1.1 ?_
      exact w_iret dX9_count_59 rfl rfl (by rw [show a_count τ l t = nI (tN τ 0) from by unfold a_count; rw [if_pos hs0]] at q; exact q)
    by_cases hs1 : t = 1
    ·
      refine w_tblIn (off := 59) (t := 60) dX9_count_1 hsw (by rw [hs1]; rfl) rfl ?_
      refine w_aload_n dX9_count_60 rfl ?_
      refine r_getr  dX9_count_61 ft_8_10 R rfl (hS _ _ rfl) rfl (lb rfl) (cT_s hT 2 0 rfl) ?_
      refine r_getr  dX9_count_64 ft_8_62 R rfl (hS _ _ rfl) rfl (lb rfl) (cT_s hT 3 0 rfl) ?_
      refine r_inv0  dX9_count_67 mt_8_66 R rfl (hS _ _ rfl) rfl (lb rfl) (lb rfl) (lb rfl) (lb rfl) rfl (c_lsize R rfl (hS _ _ rfl) (cT_l0 hT).2.1 ⟨_, rfl, ?_⟩)
      exact w_iret dX9_count_70 rfl rfl (by rw [show a_count τ l t = nI (tN τ 1) from by unfold a_count; rw [if_neg (show ¬ t = 0 by rw [hs1]; decide), if_pos hs1]] at q; exact q)
    by_cases hs2 : t = 2
    ·
      refine w_tblIn (off := 70) (t := 71) dX9_count_1 hsw (by rw [hs2]; rfl) rfl ?_
      refine w_aload_n dX9_count_71 rfl ?_
      refine r_getr  dX9_count_72 ft_8_10 R rfl (hS _ _ rfl) rfl (lb rfl) (cT_s hT 2 0 rfl) ?_
      refine r_getr  dX9_count_75 ft_8_119 R rfl (hS _ _ rfl) rfl (lb rfl) (cT_s hT 3 1 rfl) ?_
      refine r_inv0  dX9_count_78 mt_8_66 R rfl (hS _ _ rfl) rfl (lb rfl) (lb rfl) (lb rfl) (lb rfl) rfl (c_lsize R rfl (hS _ _ rfl) (cT_l1 hT).2.1 ⟨_, rfl, ?_⟩)
      exact w_iret dX9_count_81 rfl rfl (by rw [show a_count τ l t = nI (tN τ 2) from by unfold a_count; rw [if_neg (show ¬ t = 0 by rw [hs2]; decide), if_neg (show ¬ t = 1 by rw [hs2]; decide), if_pos hs2]] at q; exact q)
    by_cases hs3 : t = 3
    ·
      refine w_tblIn (off := 81) (t := 82) dX9_count_1 hsw (by rw [hs3]; rfl) rfl ?_
      refine w_aload_n dX9_count_82 rfl ?_
      refine r_getr  dX9_count_83 ft_8_10 R rfl (hS _ _ rfl) rfl (lb rfl) (cT_s hT 2 0 rfl) ?_
      refine r_getr  dX9_count_86 ft_8_145 R rfl (hS _ _ rfl) rfl (lb rfl) (cT_s hT 3 2 rfl) ?_
      refine r_inv0  dX9_count_89 mt_8_66 R rfl (hS _ _ rfl) rfl (lb rfl) (lb rfl) (lb rfl) (lb rfl) rfl (c_lsize R rfl (hS _ _ rfl) (cT_l2 hT).2.1 ⟨_, rfl, ?_⟩)
      exact w_iret dX9_count_92 rfl rfl (by rw [show a_count τ l t = nI (tN τ 3) from by unfold a_count; rw [if_neg (show ¬ t = 0 by rw [hs3]; decide), if_neg (show ¬ t = 1 by rw [hs3]; decide), if_neg (show ¬ t = 2 by rw [hs3]; decide), if_pos hs3]] at q; exact q)
    by_cases hs4 : t = 4
    ·
      refine w_tblIn (off := 92) (t := 93) dX9_count_1 hsw (by rw [hs4]; rfl) rfl ?_
      refine w_aload_n dX9_count_93 rfl ?_
      refine r_getr  dX9_count_94 ft_8_10 R rfl (hS _ _ rfl) rfl (lb rfl) (cT_s hT 2 0 rfl) ?_
      refine r_geti  dX9_count_97 ft_8_157 R rfl (hS _ _ rfl) rfl (lb rfl) hT.2.1.2.1 ?_
      exact w_iret dX9_count_100 rfl rfl (by rw [show a_count τ l t = nI (tN τ 4) from by unfold a_count; rw [if_neg (show ¬ t = 0 by rw [hs4]; decide), if_neg (show ¬ t = 1 by rw [hs4]; decide), if_neg (show ¬ t = 2 by rw [hs4]; decide), if_neg (show ¬ t = 3 by rw [hs4]; decide), if_pos hs4]] at q; exact q)
    by_cases hs5 : t = 5
    ·
      refine w_tblIn (off := 100) (t := 101) dX9_count_1 hsw (by rw [hs5]; rfl) rfl ?_
      refine w_aload_n dX9_count_101 rfl ?_
      refine r_geti  dX9_count_102 ft_8_176 R rfl (hS _ _ rfl) rfl (lb rfl) x25 ?_
      refine w_if_eq (t := 121) dX9_count_105 rfl (fun h => absurd h (by decide)) (fun h105 => ?_)
      refine w_aload_n dX9_count_108 rfl ?_
      refine r_getr  dX9_count_109 ft_8_26 R rfl (hS _ _ rfl) rfl (lb rfl) (cT_s hT 2 2 rfl) ?_
      refine r_getr  dX9_count_112 ft_8_273 R rfl (hS _ _ rfl) rfl (lb rfl) (cT_s hT 5 0 rfl) ?_
      refine r_inv0  dX9_count_115 mt_8_66 R rfl (hS _ _ rfl) rfl (lb rfl) (lb rfl) (lb rfl) (lb rfl) rfl (c_lsize R rfl (hS _ _ rfl) hF.1.2.1.2.1 ⟨_, rfl, ?_⟩)
      refine w_goto (t := 122) dX9_count_118 rfl ?_
      exact w_iret dX9_count_122 rfl rfl (by rw [show a_count τ l t = nI (kR τ).length from by unfold a_count; rw [if_neg (show ¬ t = 0 by rw [hs5]; decide), if_neg (show ¬ t = 1 by rw [hs5]; decide), if_neg (show ¬ t = 2 by rw [hs5]; decide), if_neg (show ¬ t = 3 by rw [hs5]; decide), if_neg (show ¬ t = 4 by rw [hs5]; decide), if_pos hs5, show a_found τ l false = (kR τ).length from by unfold a_found; rw [ek]; exact (kR_cl hV).2.2]] at q; exact q)
    by_cases hs6 : t = 6
    ·
      refine w_tblIn (off := 122) (t := 123) dX9_count_1 hsw (by rw [hs6]; rfl) rfl ?_
      refine w_aload_n dX9_count_123 rfl ?_
      refine r_geti  dX9_count_124 ft_8_176 R rfl (hS _ _ rfl) rfl (lb rfl) x25 ?_
      refine w_if_eq (t := 140) dX9_count_127 rfl (fun h => absurd h (by decide)) (fun h127 => ?_)
      refine w_aload_n dX9_count_130 rfl ?_
      refine r_getr  dX9_count_131 ft_8_33 R rfl (hS _ _ rfl) rfl (lb rfl) (cT_s hT 2 3 rfl) ?_
      refine r_geti  dX9_count_134 ft_8_276 R rfl (hS _ _ rfl) rfl (lb rfl) x60 ?_
      refine w_goto (t := 141) dX9_count_137 rfl ?_
      exact w_iret dX9_count_141 rfl rfl (by rw [show a_count τ l t = nI (cnt (fun x => (inO τ w x).isSome) (tN τ 1)) from by unfold a_count; rw [if_neg (show ¬ t = 0 by rw [hs6]; decide), if_neg (show ¬ t = 1 by rw [hs6]; decide), if_neg (show ¬ t = 2 by rw [hs6]; decide), if_neg (show ¬ t = 3 by rw [hs6]; decide), if_neg (show ¬ t = 4 by rw [hs6]; decide), if_neg (show ¬ t = 5 by rw [hs6]; decide), if_pos hs6, show a_found τ l true = cnt (fun x => (inO τ w x).isSome) (tN τ 1) from by unfold a_found; rw [ek]; rfl]] at q; exact q)
    by_cases hs7 : t = 7
    ·
      refine w_tblIn (off := 141) (t := 142) dX9_count_1 hsw (by rw [hs7]; rfl) rfl ?_
      refine w_aload_n dX9_count_142 rfl ?_
      refine r_geti  dX9_count_143 ft_8_190 R rfl (hS _ _ rfl) rfl (lb rfl) x26 ?_
      refine w_if_eq (t := 159) dX9_count_146 rfl (fun h => absurd h (by decide)) (fun h146 => ?_)
      refine w_aload_n dX9_count_149 rfl ?_
      refine r_getr  dX9_count_150 ft_8_40 R rfl (hS _ _ rfl) rfl (lb rfl) (cT_s hT 2 4 rfl) ?_
      refine r_geti  dX9_count_153 ft_8_279 R rfl (hS _ _ rfl) rfl (lb rfl) hLO.2.2.2 ?_
      refine w_goto (t := 160) dX9_count_156 rfl ?_
      exact w_iret dX9_count_160 rfl rfl (by rw [show a_count τ l t = nI (vR τ u).2 from by unfold a_count; rw [if_neg (show ¬ t = 0 by rw [hs7]; decide), if_neg (show ¬ t = 1 by rw [hs7]; decide), if_neg (show ¬ t = 2 by rw [hs7]; decide), if_neg (show ¬ t = 3 by rw [hs7]; decide), if_neg (show ¬ t = 4 by rw [hs7]; decide), if_neg (show ¬ t = 5 by rw [hs7]; decide), if_neg (show ¬ t = 6 by rw [hs7]; decide), if_pos hs7, ei]] at q; exact q)
    have hs8 : t = 8 := by
      apply Int32.toInt_inj.mp; show t.toInt = 8
      have e0 : t.toInt ≠ 0 := fun e => hs0 (Int32.toInt_inj.mp e)
      have e1 : t.toInt ≠ 1 := fun e => hs1 (Int32.toInt_inj.mp e)
      have e2 : t.toInt ≠ 2 := fun e => hs2 (Int32.toInt_inj.mp e)
      have e3 : t.toInt ≠ 3 := fun e => hs3 (Int32.toInt_inj.mp e)
      have e4 : t.toInt ≠ 4 := fun e => hs4 (Int32.toInt_inj.mp e)
      have e5 : t.toInt ≠ 5 := fun e => hs5 (Int32.toInt_inj.mp e)
      have e6 : t.toInt ≠ 6 := fun e => hs6 (Int32.toInt_inj.mp e)
      have e7 : t.toInt ≠ 7 := fun e => hs7 (Int32.toInt_inj.mp e)
      omega
    refine w_tblIn (off := 160) (t := 161) dX9_count_1 hsw (by rw [hs8]; rfl) rfl ?_
    refine w_aload_n dX9_count_161 rfl ?_
    refine r_geti  dX9_count_162 ft_8_190 R rfl (hS _ _ rfl) rfl (lb rfl) x26 ?_
    refine w_if_eq (t := 178) dX9_count_165 rfl (fun h => absurd h (by decide)) (fun h165 => ?_)
    refine w_aload_n dX9_count_168 rfl ?_
    refine r_getr  dX9_count_169 ft_8_40 R rfl (hS _ _ rfl) rfl (lb rfl) (cT_s hT 2 4 rfl) ?_
    refine r_geti  dX9_count_172 ft_8_282 R rfl (hS _ _ rfl) rfl (lb rfl) hv.2.2 ?_
    refine w_goto (t := 179) dX9_count_175 rfl ?_
    exact w_iret dX9_count_179 rfl rfl (by rw [show a_count τ l t = nI (vR τ u).1.1.length from by unfold a_count; rw [if_neg (show ¬ t = 0 by rw [hs8]; decide), if_neg (show ¬ t = 1 by rw [hs8]; decide), if_neg (show ¬ t = 2 by rw [hs8]; decide), if_neg (show ¬ t = 3 by rw [hs8]; decide), if_neg (show ¬ t = 4 by rw [hs8]; decide), if_neg (show ¬ t = 5 by rw [hs8]; decide), if_neg (show ¬ t = 6 by rw [hs8]; decide), if_neg (show ¬ t = 7 by rw [hs8]; decide), if_pos hs8, ei]] at q; exact q)
end
