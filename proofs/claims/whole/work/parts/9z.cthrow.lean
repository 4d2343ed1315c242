/-! ===== Where the class may throw ===== -/
section
variable {b0 mi z1 z2 : Nat} {E : Nat → Nat} {O : Nat → Option mx_C} {s : rx_S} {G : mx_H} {Q : mx_O → mx_H → Prop}
theorem c9_place (R : rx_R b0 O z1 z2 s G) (hS : rx_in s) {τ : tx_T} (hV : TV τ) {l : Option Bool} (hC : CL E s τ l) {x : Int32} (q0 : t_place τ l x = 0 → Q (.inl (some (.long (a_place τ l x)))) G) (q1 : t_place τ l x = 1 → Q (.inr (1, 0)) G) (q2 : t_place τ l x = 2 → Q (.inr (2, 0)) G) : mx_W (gt_P b0 mi E) mX9_place 0 (mx_en 0 [.ref (rA s 2 0), .int x]) [] G Q := by
  have hV0 := hV.1
  have hT := hC.1
  cases ei : im τ l with
  | none =>
    refine w_aload_n dX9_place_0 rfl ?_
    refine r_getr  dX9_place_1 ft_8_10 R rfl (hS _ _ rfl) rfl (lb rfl) (cT_s hT 2 0 rfl) ?_
    refine w_iload_n dX9_place_4 rfl ?_
    refine r_inv1  dX9_place_5 mt_8_88 R rfl (hS _ _ rfl) rfl (lb rfl) (lb rfl) (lb rfl) (lb rfl) rfl (c7_sectionAt R hS hT hV (fun e5 => ⟨_, rfl, ?_⟩) (fun j hj e5 => ⟨_, rfl, ?_⟩))
    ·
      refine w_astore_nN dX9_place_8 (lb rfl) ?_
      refine w_aload_nN dX9_place_9 rfl ?_
      refine r_nnF (t := 23) dX9_place_10 rfl ?_
      exact w_throw (e := 1) dX9_place_13 rfl (show (1, 214, 216, 218) ∈ mx_xt by decide) dX9_place_16 dX9_place_17 dX9_place_19 dX9_place_22 (q1 (if_pos e5))
    ·
      subst e5
      have hj2 : j < 2 ^ 31 := by omega
      have ej : cl (nI j) = j := nI_clamp hj2
      have en : ¬ ¬ (0 ≤ (nI j).toInt ∧ (nI j).toInt < tN τ 1) := Classical.not_not.mpr ⟨by rw [nI_toInt hj2]; omega, by rw [nI_toInt hj2]; omega⟩
      refine w_astore_n dX9_place_8 (lb rfl) ?_
      refine w_aload_n dX9_place_9 rfl ?_
      refine r_nnT (t := 23) dX9_place_10 rfl ?_
      refine w_aload_n dX9_place_23 rfl ?_
      refine r_geti  dX9_place_24 ft_8_190 R rfl (hS _ _ rfl) rfl (lb rfl) (hC.2.2.2.2.1 ei) ?_
      refine w_if_eq (t := 37) dX9_place_27 rfl (fun h27 => ?_) (fun h => absurd rfl h)
      exact w_throw (e := 2) dX9_place_37 rfl (show (2, 221, 223, 225) ∈ mx_xt by decide) dX9_place_40 dX9_place_41 dX9_place_43 dX9_place_46 (q2 (by unfold t_place; rw [if_neg en, ei]))
  | some w =>
    obtain ⟨x26, hO, hv, hvi, hLO⟩ := hC.2.2.2.2.2 w ei
    obtain ⟨x25, hF, x60⟩ := hC.2.2.2.1 w (im_kn ei)
    refine w_aload_n dX9_place_0 rfl ?_
    refine r_getr  dX9_place_1 ft_8_10 R rfl (hS _ _ rfl) rfl (lb rfl) (cT_s hT 2 0 rfl) ?_
    refine w_iload_n dX9_place_4 rfl ?_
    refine r_inv1  dX9_place_5 mt_8_88 R rfl (hS _ _ rfl) rfl (lb rfl) (lb rfl) (lb rfl) (lb rfl) rfl (c7_sectionAt R hS hT hV (fun e5 => ⟨_, rfl, ?_⟩) (fun j hj e5 => ⟨_, rfl, ?_⟩))
    ·
      refine w_astore_nN dX9_place_8 (lb rfl) ?_
      refine w_aload_nN dX9_place_9 rfl ?_
      refine r_nnF (t := 23) dX9_place_10 rfl ?_
      exact w_throw (e := 1) dX9_place_13 rfl (show (1, 214, 216, 218) ∈ mx_xt by decide) dX9_place_16 dX9_place_17 dX9_place_19 dX9_place_22 (q1 (if_pos e5))
    ·
      subst e5
      have hj2 : j < 2 ^ 31 := by omega
      have ej : cl (nI j) = j := nI_clamp hj2
      have en : ¬ ¬ (0 ≤ (nI j).toInt ∧ (nI j).toInt < tN τ 1) := Classical.not_not.mpr ⟨by rw [nI_toInt hj2]; omega, by rw [nI_toInt hj2]; omega⟩
      refine w_astore_n dX9_place_8 (lb rfl) ?_
      refine w_aload_n dX9_place_9 rfl ?_
      refine r_nnT (t := 23) dX9_place_10 rfl ?_
      refine w_aload_n dX9_place_23 rfl ?_
      refine r_geti  dX9_place_24 ft_8_190 R rfl (hS _ _ rfl) rfl (lb rfl) x26 ?_
      refine w_if_eq (t := 37) dX9_place_27 rfl (fun h => absurd h (by decide)) (fun h27 => ?_)
      refine w_aload_n dX9_place_30 rfl ?_
      refine r_inv0  dX9_place_31 mt_8_193 R rfl (cT_Su hT hj) rfl (lb rfl) (lb rfl) (lb rfl) (lb rfl) rfl (c5_kept R hS hT hV hF hj (fun e31 => ⟨_, rfl, ?_⟩) (fun e31 => ⟨_, rfl, ?_⟩))
      ·
        refine w_if_ne (t := 47) dX9_place_34 rfl (fun _ => ?_) (fun h => absurd (by decide) h)
        refine w_aload_n dX9_place_47 rfl ?_
        refine r_inv0  dX9_place_48 mt_8_226 R rfl (cT_Su hT hj) rfl (lb rfl) (lb rfl) (lb rfl) (lb rfl) rfl (c5_poN R hS hT hV hF hLO.1 hj e31 ⟨_, rfl, ?_⟩)
        refine w_lret dX9_place_51 rfl ?_
        have q := q0 (by unfold t_place; rw [if_neg en, ei]; show (if kin (kR τ) (cl (nI j)) = true then _ else _) = _; rw [ej, e31]; rfl)
        rw [show a_place τ l (nI j) = lN (poN τ w (vR τ w).1.1 j) from by unfold a_place; rw [ei, ej]] at q; exact q
      ·
        refine w_if_ne (t := 47) dX9_place_34 rfl (fun h => absurd h (by decide)) (fun _ => ?_)
        exact w_throw (e := 2) dX9_place_37 rfl (show (2, 221, 223, 225) ∈ mx_xt by decide) dX9_place_40 dX9_place_41 dX9_place_43 dX9_place_46 (q2 (by unfold t_place; rw [if_neg en, ei]; show (if kin (kR τ) (cl (nI j)) = true then _ else _) = _; rw [ej, e31]; rfl))
theorem c9_value (R : rx_R b0 O z1 z2 s G) (hS : rx_in s) {τ : tx_T} (hV : TV τ) {l : Option Bool} (hC : CL E s τ l) {x : Int32} (q0 : t_value τ l x = 0 → Q (.inl (some (.long (a_value τ l x)))) G) (q1 : t_value τ l x = 1 → Q (.inr (1, 0)) G) (q2 : t_value τ l x = 2 → Q (.inr (2, 0)) G) : mx_W (gt_P b0 mi E) mX9_value 0 (mx_en 0 [.ref (rA s 2 0), .int x]) [] G Q := by
  have hV0 := hV.1
  have hT := hC.1
  cases ei : im τ l with
  | none =>
    refine w_aload_n dX9_value_0 rfl ?_
    refine r_getr  dX9_value_1 ft_8_10 R rfl (hS _ _ rfl) rfl (lb rfl) (cT_s hT 2 0 rfl) ?_
    refine w_iload_n dX9_value_4 rfl ?_
    refine r_inv1  dX9_value_5 mt_8_127 R rfl (hS _ _ rfl) rfl (lb rfl) (lb rfl) (lb rfl) (lb rfl) rfl (c7_symbolAt R hS hT hV (fun e5 => ⟨_, rfl, ?_⟩) (fun j hj e5 => ⟨_, rfl, ?_⟩))
    ·
      refine w_astore_nN dX9_value_8 (lb rfl) ?_
      refine w_aload_nN dX9_value_9 rfl ?_
      refine r_nnF (t := 23) dX9_value_10 rfl ?_
      exact w_throw (e := 1) dX9_value_13 rfl (show (1, 214, 230, 218) ∈ mx_xt by decide) dX9_value_16 dX9_value_17 dX9_value_19 dX9_value_22 (q1 (if_pos e5))
    ·
      subst e5
      have hj2 : j < 2 ^ 31 := by omega
      have ej : cl (nI j) = j := nI_clamp hj2
      have en : ¬ ¬ (0 ≤ (nI j).toInt ∧ (nI j).toInt < tN τ 2) := Classical.not_not.mpr ⟨by rw [nI_toInt hj2]; omega, by rw [nI_toInt hj2]; omega⟩
      refine w_astore_n dX9_value_8 (lb rfl) ?_
      refine w_aload_n dX9_value_9 rfl ?_
      refine r_nnT (t := 23) dX9_value_10 rfl ?_
      refine w_aload_n dX9_value_23 rfl ?_
      refine r_geti  dX9_value_24 ft_8_190 R rfl (hS _ _ rfl) rfl (lb rfl) (hC.2.2.2.2.1 ei) ?_
      refine w_if_eq (t := 47) dX9_value_27 rfl (fun h27 => ?_) (fun h => absurd rfl h)
      exact w_throw (e := 2) dX9_value_47 rfl (show (2, 221, 235, 225) ∈ mx_xt by decide) dX9_value_50 dX9_value_51 dX9_value_53 dX9_value_56 (q2 (by unfold t_value; rw [if_neg en, ei]))
  | some w =>
    obtain ⟨x26, hO, hv, hvi, hLO⟩ := hC.2.2.2.2.2 w ei
    obtain ⟨x25, hF, x60⟩ := hC.2.2.2.1 w (im_kn ei)
    refine w_aload_n dX9_value_0 rfl ?_
    refine r_getr  dX9_value_1 ft_8_10 R rfl (hS _ _ rfl) rfl (lb rfl) (cT_s hT 2 0 rfl) ?_
    refine w_iload_n dX9_value_4 rfl ?_
    refine r_inv1  dX9_value_5 mt_8_127 R rfl (hS _ _ rfl) rfl (lb rfl) (lb rfl) (lb rfl) (lb rfl) rfl (c7_symbolAt R hS hT hV (fun e5 => ⟨_, rfl, ?_⟩) (fun j hj e5 => ⟨_, rfl, ?_⟩))
    ·
      refine w_astore_nN dX9_value_8 (lb rfl) ?_
      refine w_aload_nN dX9_value_9 rfl ?_
      refine r_nnF (t := 23) dX9_value_10 rfl ?_
      exact w_throw (e := 1) dX9_value_13 rfl (show (1, 214, 230, 218) ∈ mx_xt by decide) dX9_value_16 dX9_value_17 dX9_value_19 dX9_value_22 (q1 (if_pos e5))
    ·
      subst e5
      have hj2 : j < 2 ^ 31 := by omega
      have ej : cl (nI j) = j := nI_clamp hj2
      have en : ¬ ¬ (0 ≤ (nI j).toInt ∧ (nI j).toInt < tN τ 2) := Classical.not_not.mpr ⟨by rw [nI_toInt hj2]; omega, by rw [nI_toInt hj2]; omega⟩
      refine w_astore_n dX9_value_8 (lb rfl) ?_
      refine w_aload_n dX9_value_9 rfl ?_
      refine r_nnT (t := 23) dX9_value_10 rfl ?_
      refine w_aload_n dX9_value_23 rfl ?_
      refine r_geti  dX9_value_24 ft_8_190 R rfl (hS _ _ rfl) rfl (lb rfl) x26 ?_
      refine w_if_eq (t := 47) dX9_value_27 rfl (fun h => absurd h (by decide)) (fun h27 => ?_)
      refine w_aload_n dX9_value_30 rfl ?_
      cases et : tgS τ j with
      | none =>
        have na : ¬ aimI τ j = 1 := fun e => by rw [tgS_1 hV hj e] at et; cases et
        have nk := hF.1.1.2.2 j hj
        refine r_geti  dX9_value_31 ft_8_232 R rfl (cT_Yu hT hj) rfl (lb rfl) (nk.1.trans (congrArg oV et)) ?_
        refine r_nullT (t := 57) dX9_value_34 rfl ?_
        refine w_aload_n dX9_value_57 rfl ?_
        refine r_getr  dX9_value_58 ft_8_40 R rfl (hS _ _ rfl) rfl (lb rfl) (cT_s hT 2 4 rfl) ?_
        refine w_aload_n dX9_value_61 rfl ?_
        refine r_inv1  dX9_value_62 mt_8_237 R rfl (hS _ _ rfl) rfl (lb rfl) (lb rfl) (lb rfl) (lb rfl) rfl (c3_tv R hS hT hV hF (VI_nv hvi hV) hLO.1 hLO.2.2.1 hj (fun e => absurd e na) ⟨_, rfl, ?_⟩)
        refine w_lret dX9_value_65 rfl ?_
        have q := q0 (by unfold t_value; rw [if_neg en, ei]; show (if aimI τ (cl (nI j)) = 1 ∧ kin (kR τ) (cl (atI τ (cl (nI j)))) = false then _ else _) = _; rw [ej]; exact if_neg (fun e => na e.1))
        rw [show a_value τ l (nI j) = lN (vaN τ w (vR τ w).1.1 j) from by unfold a_value; rw [ei, ej]] at q; exact q
      | some i =>
        obtain ⟨ea, eb, ec⟩ := tgS_lt hV hj et
        subst eb
        have nk := hF.1.1.2.2 j hj
        refine r_getr  dX9_value_31 ft_8_232 R rfl (cT_Yu hT hj) rfl (lb rfl) (nk.1.trans (congrArg oV et)) ?_
        refine r_nullF (t := 57) dX9_value_34 rfl ?_
        refine w_aload_n dX9_value_37 rfl ?_
        refine r_getr  dX9_value_38 ft_8_232 R rfl (cT_Yu hT hj) rfl (lb rfl) (nk.1.trans (congrArg oV et)) ?_
        refine r_inv0  dX9_value_41 mt_8_193 R rfl (cT_Su hT ec) rfl (lb rfl) (lb rfl) (lb rfl) (lb rfl) rfl (c5_kept R hS hT hV hF ec (fun e41 => ⟨_, rfl, ?_⟩) (fun e41 => ⟨_, rfl, ?_⟩))
        ·
          refine w_if_ne (t := 57) dX9_value_44 rfl (fun _ => ?_) (fun h => absurd (by decide) h)
          refine w_aload_n dX9_value_57 rfl ?_
          refine r_getr  dX9_value_58 ft_8_40 R rfl (hS _ _ rfl) rfl (lb rfl) (cT_s hT 2 4 rfl) ?_
          refine w_aload_n dX9_value_61 rfl ?_
          refine r_inv1  dX9_value_62 mt_8_237 R rfl (hS _ _ rfl) rfl (lb rfl) (lb rfl) (lb rfl) (lb rfl) rfl (c3_tv R hS hT hV hF (VI_nv hvi hV) hLO.1 hLO.2.2.1 hj (fun _ => e41) ⟨_, rfl, ?_⟩)
          refine w_lret dX9_value_65 rfl ?_
          have q := q0 (by unfold t_value; rw [if_neg en, ei]; show (if aimI τ (cl (nI j)) = 1 ∧ kin (kR τ) (cl (atI τ (cl (nI j)))) = false then _ else _) = _; rw [ej]; exact if_neg (fun e => by rw [e41] at e; exact absurd e.2 (by decide)))
          rw [show a_value τ l (nI j) = lN (vaN τ w (vR τ w).1.1 j) from by unfold a_value; rw [ei, ej]] at q; exact q
        ·
          refine w_if_ne (t := 57) dX9_value_44 rfl (fun h => absurd h (by decide)) (fun _ => ?_)
          exact w_throw (e := 2) dX9_value_47 rfl (show (2, 221, 235, 225) ∈ mx_xt by decide) dX9_value_50 dX9_value_51 dX9_value_53 dX9_value_56 (q2 (by unfold t_value; rw [if_neg en, ei]; show (if aimI τ (cl (nI j)) = 1 ∧ kin (kR τ) (cl (atI τ (cl (nI j)))) = false then _ else _) = _; rw [ej]; exact if_pos ⟨ea, e41⟩))
theorem c9_range (R : rx_R b0 O z1 z2 s G) (hS : rx_in s) {τ : tx_T} (hV : TV τ) {l : Option Bool} (hC : CL E s τ l) {x : Int32} {e : Bool} (q0 : t_range τ l x = 0 → Q (.inl (some (.long (a_range τ l x e)))) G) (q1 : t_range τ l x = 1 → Q (.inr (1, 0)) G) (q2 : t_range τ l x = 2 → Q (.inr (2, 0)) G) : mx_W (gt_P b0 mi E) mX9_range 0 (mx_en 0 [.ref (rA s 2 0), .int x, .int (b32 e)]) [] G Q := by
  have hV0 := hV.1
  have hT := hC.1
  cases ei : im τ l with
  | none =>
    refine w_iload_n dX9_range_0 rfl ?_
    refine w_iconst (v := 0) dX9_range_1 (by decide) ?_
    refine w_iconst (v := nI 3) dX9_range_2 (by decide) ?_
    refine r_stat3 dX9_range_3 mt_8_58 (lb rfl) (lb rfl) (lb rfl) (lb rfl) rfl (c9_inI (b := 0) (by decide) (c := 3) (by decide) (fun i3a i3b => ⟨_, rfl, ?_⟩) (fun i3 => ⟨_, rfl, ?_⟩))
    ·
      refine w_if_ne (t := 20) dX9_range_6 rfl (fun _ => ?_) (fun h => absurd (by decide) h)
      refine w_aload_n dX9_range_20 rfl ?_
      refine r_geti  dX9_range_21 ft_8_190 R rfl (hS _ _ rfl) rfl (lb rfl) (hC.2.2.2.2.1 ei) ?_
      refine r_if_neP (t := 38) dX9_range_24 rfl (fun h => absurd rfl h) (fun h24 => ?_)
      exact w_throwW (e := 2) dX9_range_27 rfl (show (2, 221, 261, 225) ∈ mx_xt by decide) dX9_range_30 dX9_range_31 dX9_range_34 dX9_range_37 (q2 (by unfold t_range; rw [if_neg (Classical.not_not.mpr ⟨i3a, i3b⟩), ei]))
    ·
      refine w_if_ne (t := 20) dX9_range_6 rfl (fun h => absurd h (by decide)) (fun _ => ?_)
      exact w_throwW (e := 1) dX9_range_9 rfl (show (1, 214, 259, 218) ∈ mx_xt by decide) dX9_range_12 dX9_range_13 dX9_range_16 dX9_range_19 (q1 (if_pos (fun e => i3 e.1 e.2)))
  | some w =>
    obtain ⟨x26, hO, hv, hvi, hLO⟩ := hC.2.2.2.2.2 w ei
    obtain ⟨x25, hF, x60⟩ := hC.2.2.2.1 w (im_kn ei)
    refine w_iload_n dX9_range_0 rfl ?_
    refine w_iconst (v := 0) dX9_range_1 (by decide) ?_
    refine w_iconst (v := nI 3) dX9_range_2 (by decide) ?_
    refine r_stat3 dX9_range_3 mt_8_58 (lb rfl) (lb rfl) (lb rfl) (lb rfl) rfl (c9_inI (b := 0) (by decide) (c := 3) (by decide) (fun i3a i3b => ⟨_, rfl, ?_⟩) (fun i3 => ⟨_, rfl, ?_⟩))
    ·
      refine w_if_ne (t := 20) dX9_range_6 rfl (fun _ => ?_) (fun h => absurd (by decide) h)
      refine w_aload_n dX9_range_20 rfl ?_
      refine r_geti  dX9_range_21 ft_8_190 R rfl (hS _ _ rfl) rfl (lb rfl) x26 ?_
      refine r_if_neP (t := 38) dX9_range_24 rfl (fun h24 => ?_) (fun h => absurd h (by decide))
      have hx0 : x = nI (cl x) := (nIcl (by omega)).symm
      have hx4 : cl x < 4 := by have := clI (x := x) (by omega); omega
      refine w_iload_n dX9_range_38 rfl ?_
      cases he : e with
      | true =>
        refine w_if_eq (t := 54) dX9_range_39 rfl (fun h => absurd h (by decide)) (fun h39 => ?_)
        refine w_aload_n dX9_range_42 rfl ?_
        refine r_getr  dX9_range_43 ft_8_40 R rfl (hS _ _ rfl) rfl (lb rfl) (cT_s hT 2 4 rfl) ?_
        refine r_getr  dX9_range_46 ft_8_263 R rfl (hS _ _ rfl) rfl (lb rfl) (cT_s hT 7 1 rfl) ?_
        refine w_iload_n dX9_range_49 rfl ?_
        rw [hx0]
        refine r_lald  dX9_range_50 R rfl (hS _ _ rfl) rfl rfl hx4 (lb rfl) (hLO.2.1 (cl x) hx4).2.1 ?_
        refine w_goto (t := 63) dX9_range_51 rfl ?_
        refine w_lret dX9_range_63 rfl ?_
        have q := q0 (by unfold t_range; rw [if_neg (Classical.not_not.mpr ⟨i3a, i3b⟩), ei])
        rw [show a_range τ l x e = lN (enN τ w (vR τ w).1.1 (cl x)) from by unfold a_range; rw [ei, he]; rfl] at q; exact q
      | false =>
        refine w_if_eq (t := 54) dX9_range_39 rfl (fun h39 => ?_) (fun h => absurd rfl h)
        refine w_aload_n dX9_range_54 rfl ?_
        refine r_getr  dX9_range_55 ft_8_40 R rfl (hS _ _ rfl) rfl (lb rfl) (cT_s hT 2 4 rfl) ?_
        refine r_getr  dX9_range_58 ft_8_267 R rfl (hS _ _ rfl) rfl (lb rfl) (cT_s hT 7 0 rfl) ?_
        refine w_iload_n dX9_range_61 rfl ?_
        rw [hx0]
        refine r_lald  dX9_range_62 R rfl (hS _ _ rfl) rfl rfl hx4 (lb rfl) (hLO.2.1 (cl x) hx4).1 ?_
        refine w_lret dX9_range_63 rfl ?_
        have q := q0 (by unfold t_range; rw [if_neg (Classical.not_not.mpr ⟨i3a, i3b⟩), ei])
        rw [show a_range τ l x e = lN (bgN τ w (vR τ w).1.1 (cl x)) from by unfold a_range; rw [ei, he]; rfl] at q; exact q
    ·
      refine w_if_ne (t := 20) dX9_range_6 rfl (fun h => absurd h (by decide)) (fun _ => ?_)
      exact w_throwW (e := 1) dX9_range_9 rfl (show (1, 214, 259, 218) ∈ mx_xt by decide) dX9_range_12 dX9_range_13 dX9_range_16 dX9_range_19 (q1 (if_pos (fun e => i3 e.1 e.2)))
end
