theorem tyW_wide {t : Nat} (h : t < 5) : (tyW t).toInt = t_wide (nI t) ∧ 0 ≤ (tyW t).toInt := by
  rcases (show t = 0 ∨ t = 1 ∨ t = 2 ∨ t = 3 ∨ t = 4 by omega) with rfl | rfl | rfl | rfl | rfl <;> decide
section
variable {b0 mi z1 z2 : Nat} {E : Nat → Nat} {O : Nat → Option mx_C} {s : rx_S} {G : mx_H} {Q : mx_O → mx_H → Prop}
theorem c9_sort {x r : Int32} (q1 : ((if x.toInt = -1 then (1 : Int) else 0) ≤ r.toInt ∧ r.toInt ≤ (if x.toInt < -1 then (0 : Int) else 2)) → Q (.inl (some (.int 1))) G) (q0 : ¬ ((if x.toInt = -1 then (1 : Int) else 0) ≤ r.toInt ∧ r.toInt ≤ (if x.toInt < -1 then (0 : Int) else 2)) → Q (.inl (some (.int 0))) G) : mx_W (gt_P b0 mi E) mX9_isSortFor 0 (mx_en 0 [.int x, .int r]) [] G Q := by
  refine w_iload_n dX9_isSortFor_0 rfl ?_
  refine r_if_lti (t := 11) dX9_isSortFor_1 rfl (fun h1 => ?_) (fun h1 => ?_)
  ·
    refine w_iload_n dX9_isSortFor_11 rfl ?_
    refine w_iconst (v := (-1)) dX9_isSortFor_12 (by decide) ?_
    refine r_icmp_neP (t := 25) dX9_isSortFor_13 rfl (fun h13 => ?_) (fun h13 => ?_)
    ·
      refine w_iload_n dX9_isSortFor_25 rfl ?_
      refine r_if_neP (t := 33) dX9_isSortFor_26 rfl (fun h26 => ?_) (fun h26 => ?_)
      ·
        refine w_iconst (v := 0) dX9_isSortFor_33 (by decide) ?_
        refine w_iret dX9_isSortFor_34 rfl rfl ?_
        have hx1 : ¬ x.toInt = -1 := fun e => h13 (Int32.toInt_inj.mp (by rw [e]; decide))
        rw [if_neg hx1, if_pos (show x.toInt < -1 by omega)] at *
        exact q0 (fun h => h26 (Int32.toInt_inj.mp (by show r.toInt = 0; omega)))
      ·
        refine w_iconst (v := 1) dX9_isSortFor_29 (by decide) ?_
        refine w_goto (t := 34) dX9_isSortFor_30 rfl ?_
        refine w_iret dX9_isSortFor_34 rfl rfl ?_
        have hx1 : ¬ x.toInt = -1 := fun e => h13 (Int32.toInt_inj.mp (by rw [e]; decide))
        rw [if_neg hx1, if_pos (show x.toInt < -1 by omega)] at *
        have er : r.toInt = 0 := by rw [h26]; decide
        exact q1 ⟨by omega, by omega⟩
    ·
      refine w_iload_n dX9_isSortFor_16 rfl ?_
      refine w_iconst (v := 1) dX9_isSortFor_17 (by decide) ?_
      refine w_iconst (v := nI 2) dX9_isSortFor_18 (by decide) ?_
      refine r_stat3 dX9_isSortFor_19 mt_8_58 (lb rfl) (lb rfl) (lb rfl) (lb rfl) rfl (c9_inI (b := 1) (by decide) (c := 2) (by decide) (fun i19a i19b => ⟨_, rfl, ?_⟩) (fun i19 => ⟨_, rfl, ?_⟩))
      ·
        refine w_goto (t := 34) dX9_isSortFor_22 rfl ?_
        refine w_iret dX9_isSortFor_34 rfl rfl ?_
        have m1 : (-1 : Int32).toInt = -1 := by decide
        have ex : x.toInt = -1 := by rw [h13]; decide
        rw [if_pos ex, if_neg (show ¬ x.toInt < -1 by omega)] at *
        exact q1 ⟨i19a, i19b⟩
      ·
        refine w_goto (t := 34) dX9_isSortFor_22 rfl ?_
        refine w_iret dX9_isSortFor_34 rfl rfl ?_
        have m1 : (-1 : Int32).toInt = -1 := by decide
        have ex : x.toInt = -1 := by rw [h13]; decide
        rw [if_pos ex, if_neg (show ¬ x.toInt < -1 by omega)] at *
        exact q0 (fun h => i19 h.1 h.2)
  ·
    refine w_iload_n dX9_isSortFor_4 rfl ?_
    refine w_iconst (v := 0) dX9_isSortFor_5 (by decide) ?_
    refine w_iconst (v := nI 2) dX9_isSortFor_6 (by decide) ?_
    refine r_stat3 dX9_isSortFor_7 mt_8_58 (lb rfl) (lb rfl) (lb rfl) (lb rfl) rfl (c9_inI (b := 0) (by decide) (c := 2) (by decide) (fun i7a i7b => ⟨_, rfl, ?_⟩) (fun i7 => ⟨_, rfl, ?_⟩))
    ·
      refine w_iret dX9_isSortFor_10 rfl rfl ?_
      rw [if_neg (show ¬ x.toInt = -1 by omega), if_neg (show ¬ x.toInt < -1 by omega)] at *
      exact q1 ⟨i7a, i7b⟩
    ·
      refine w_iret dX9_isSortFor_10 rfl rfl ?_
      rw [if_neg (show ¬ x.toInt = -1 by omega), if_neg (show ¬ x.toInt < -1 by omega)] at *
      exact q0 (fun h => i7 h.1 h.2)
theorem c9_typeAt (R : rx_R b0 O z1 z2 s G) (hE : WE b0 O E) {t : Int32} (q0 : ¬ iw t 0 4 → Q (.inl (some .null)) G) (q1 : ∀ j, j < 5 → t = nI j → Q (.inl (some (.ref (E j)))) G) : mx_W (gt_P b0 mi E) mX9_typeAt 0 (mx_en 0 [.int t]) [] G Q := by
  obtain ⟨_, ⟨hb5, g5, hO5, hgk⟩, _⟩ := id hE
  have hg : G.1 (E 5) = some (.inl (98, 5, mx_aq g5)) := (R.2.2.2.2.2.2.2.2 (E 5) hb5).trans hO5
  refine w_iload_n dX9_typeAt_0 rfl ?_
  refine w_iconst (v := 0) dX9_typeAt_1 (by decide) ?_
  refine w_gets dX9_typeAt_2 st_8_301 ?_
  refine w_alen dX9_typeAt_5 hg (Or.inr (Or.inl rfl)) ?_
  refine w_iconst (v := 1) dX9_typeAt_6 (by decide) ?_
  refine w_isub dX9_typeAt_7 ?_
  refine r_stat3 dX9_typeAt_8 mt_8_58 (lb rfl) (lb rfl) (lb rfl) (lb rfl) rfl (c9_inI (b := 0) (c := 4) (by decide) (by decide) (fun i8a i8b => ⟨_, rfl, ?_⟩) (fun i8 => ⟨_, rfl, ?_⟩))
  ·
    refine w_if_eq (t := 22) dX9_typeAt_11 rfl (fun h => absurd h (by decide)) (fun _ => ?_)
    obtain ⟨j, hj, rfl⟩ := nI_ofI i8a
    rw [nI_toInt hj] at i8b
    have hj5 : j < 5 := by omega
    refine w_gets dX9_typeAt_14 st_8_301 ?_
    refine w_iload_n dX9_typeAt_17 rfl ?_
    refine w_aald dX9_typeAt_18 (Or.inr rfl) hg hj5 (by omega) ?_
    rw [hgk j hj5]
    refine w_goto (t := 23) dX9_typeAt_19 rfl ?_
    exact w_aret (x := some _) dX9_typeAt_23 rfl (by first | exact Or.inl ⟨_, rfl⟩ | exact Or.inr ⟨_, rfl⟩) (q1 j hj5 rfl)
  ·
    refine w_if_eq (t := 22) dX9_typeAt_11 rfl (fun _ => ?_) (fun h => absurd (by decide) h)
    refine w_null dX9_typeAt_22 ?_
    exact w_aret (x := none) dX9_typeAt_23 rfl (by first | exact Or.inl ⟨_, rfl⟩ | exact Or.inr ⟨_, rfl⟩) (q0 (fun h => i8 h.1 h.2))
theorem c9_symbol (R : rx_R b0 O z1 z2 s G) (hS : rx_in s) {τ : tx_T} (hT : CT E s τ) (hV : TV τ) (hE : WE b0 O E) {o n x i r : Int32} (qn : ∀ r9, f_symbol τ o n x i r = (r9, none) → Q (.inl (some (.int r9))) G) (qs : ∀ r9 τ', f_symbol τ o n x i r = (r9, some τ') → ∀ s' G', rx_R b0 O (z1 + 3) (z2 + 220) s' G' → gfr s s' → CT E s' τ' → GT s' → Q (.inl (some (.int r9))) G') : mx_W (gt_P b0 mi E) mX9_symbol 0 (mx_en 0 [.ref (rA s 2 0), .int o, .int n, .int x, .int i, .int r]) [] G Q := by
  have hV0 := hV.1
  refine w_aload_n dX9_symbol_0 rfl ?_
  refine r_getr  dX9_symbol_1 ft_8_10 R rfl (hS _ _ rfl) rfl (lb rfl) (cT_s hT 2 0 rfl) ?_
  refine w_iload_n dX9_symbol_4 rfl ?_
  refine r_inv1  dX9_symbol_5 mt_8_54 R rfl (hS _ _ rfl) rfl (lb rfl) (lb rfl) (lb rfl) (lb rfl) rfl (c7_hasObject R hS hT hV (fun e5 => ⟨_, rfl, ?_⟩) (fun e5 => ⟨_, rfl, ?_⟩))
  ·
    refine w_if_eq (t := 17) dX9_symbol_8 rfl (fun h => absurd h (by decide)) (fun _ => ?_)
    refine w_iload_n dX9_symbol_11 rfl ?_
    refine w_bipush (v := (-17)) dX9_symbol_12 (by decide) ?_
    refine r_icmp_gei (t := 20) dX9_symbol_14 rfl (fun h14 => ?_) (fun h14 => ?_)
    ·
      refine w_aload_n dX9_symbol_20 rfl ?_
      refine r_getr  dX9_symbol_21 ft_8_10 R rfl (hS _ _ rfl) rfl (lb rfl) (cT_s hT 2 0 rfl) ?_
      refine w_iload_n dX9_symbol_24 rfl ?_
      refine r_inv1  dX9_symbol_25 mt_8_88 R rfl (hS _ _ rfl) rfl (lb rfl) (lb rfl) (lb rfl) (lb rfl) rfl (c7_sectionAt R hS hT hV (fun e25 => ⟨_, rfl, ?_⟩) (fun j hj e25 => ⟨_, rfl, ?_⟩))
      ·
        have m17 : (-17 : Int32).toInt = -17 := by decide
        refine w_astoreN dX9_symbol_28 (lb rfl) ?_
        refine w_iload_n dX9_symbol_30 rfl ?_
        refine r_if_lti (t := 51) dX9_symbol_31 rfl (fun h31 => ?_) (fun h31 => ?_)
        ·
          have hho : hmO x = none := by unfold hmO; rw [if_neg (by omega)]
          refine w_aloadN dX9_symbol_51 rfl ?_
          refine r_nnF (t := 60) dX9_symbol_53 rfl ?_
          refine w_iconst (v := 0) dX9_symbol_56 (by decide) ?_
          refine w_goto (t := 65) dX9_symbol_57 rfl ?_
          refine w_istore dX9_symbol_65 (lb rfl) ?_
          refine w_iload_n dX9_symbol_67 rfl ?_
          refine w_iconst (v := 0) dX9_symbol_68 (by decide) ?_
          refine w_bipush (v := nI 63) dX9_symbol_69 (by decide) ?_
          refine r_stat3 dX9_symbol_71 mt_8_58 (lb rfl) (lb rfl) (lb rfl) (lb rfl) rfl (c9_inI (b := 0) (by decide) (c := 63) (by decide) (fun i71a i71b => ⟨_, rfl, ?_⟩) (fun i71 => ⟨_, rfl, ?_⟩))
          ·
            refine w_if_eq (t := 97) dX9_symbol_74 rfl (fun h => absurd h (by decide)) (fun _ => ?_)
            refine w_iload dX9_symbol_77 rfl ?_
            refine w_iconst (v := 0) dX9_symbol_79 (by decide) ?_
            refine w_iload dX9_symbol_80 rfl ?_
            refine r_stat3 dX9_symbol_82 mt_8_58 (lb rfl) (lb rfl) (lb rfl) (lb rfl) rfl (c9_inI (b := 0) (c := 0) (by decide) (by decide) (fun i82a i82b => ⟨_, rfl, ?_⟩) (fun i82 => ⟨_, rfl, ?_⟩))
            ·
              refine w_if_eq (t := 97) dX9_symbol_85 rfl (fun h => absurd h (by decide)) (fun _ => ?_)
              refine w_iload_n dX9_symbol_88 rfl ?_
              refine w_iload dX9_symbol_89 rfl ?_
              refine r_stat2 dX9_symbol_91 mt_8_116 (lb rfl) (lb rfl) (lb rfl) (lb rfl) rfl (c9_sort (fun e91 => ⟨_, rfl, ?_⟩) (fun e91 => ⟨_, rfl, ?_⟩))
              ·
                refine w_if_ne (t := 100) dX9_symbol_94 rfl (fun _ => ?_) (fun h => absurd (by decide) h)
                refine w_aload_n dX9_symbol_100 rfl ?_
                refine r_getr  dX9_symbol_101 ft_8_10 R rfl (hS _ _ rfl) rfl (lb rfl) (cT_s hT 2 0 rfl) ?_
                refine r_getr  dX9_symbol_104 ft_8_119 R rfl (hS _ _ rfl) rfl (lb rfl) (cT_s hT 3 1 rfl) ?_
                refine r_inv0  dX9_symbol_107 mt_8_66 R rfl (hS _ _ rfl) rfl (lb rfl) (lb rfl) (lb rfl) (lb rfl) rfl (c_lsize R rfl (hS _ _ rfl) (cT_l1 hT).2.1 ⟨_, rfl, ?_⟩)
                refine w_bipush (v := nI 120) dX9_symbol_110 (by decide) ?_
                refine r_icmp_ltn (t := 118) dX9_symbol_112 rfl (by omega) (by omega) (fun h112 => ?_) (fun h112 => ?_)
                ·
                  refine w_aload_n dX9_symbol_118 rfl ?_
                  refine r_inv0  dX9_symbol_119 mt_8_51 R rfl (hS _ _ rfl) rfl (lb rfl) (lb rfl) (lb rfl) (lb rfl) rfl (c9_forget R hS (fun Gt Rt => ⟨_, rfl, ?_⟩))
                  have hfr := hT.2.2.2.2.2.2.2.2.2.2.1 (tN τ 2) (Nat.le_refl _)
                  refine r_new 24 (tN τ 2) gSym dX9_symbol_122 nt_8_122 Rt (lb9 rfl) hfr ((rx_c_o rfl).trans rfl) (fun G1 R1 => ?_)
                  refine w_dup dX9_symbol_125 rfl ?_
                  refine w_iload_n dX9_symbol_126 rfl ?_
                  refine w_iload_n dX9_symbol_127 rfl ?_
                  refine w_aloadN dX9_symbol_128 rfl ?_
                  refine w_iload dX9_symbol_130 rfl ?_
                  refine w_iload dX9_symbol_132 rfl ?_
                  refine w_iload_n dX9_symbol_134 rfl ?_
                  refine r_spec6 dX9_symbol_135 mt_8_124 (by decide) (lb rfl) (lb rfl) (lb rfl) (lb rfl) rfl (c6_init (s := (sNw (g_told s) 24 (tN τ 2) Gt.2.1 0 gSym)) (o := none) R1 (show rU (sNw (g_told s) 24 (tN τ 2) Gt.2.1 0 gSym) 24 (tN τ 2) = true from Nw_s) (fun j2 e2 => by cases e2) (fun s3 G3 R3 e3 u3 fY => ⟨_, rfl, ?_⟩))
                  have e3t : efr (g_told s) s3 (fun r i => r = 24 ∧ i = tN τ 2) := fun r i hp => by
                    obtain ⟨a1, a2, a3, a4, a5, a6, a7⟩ := e3 r i hp
                    obtain ⟨b1, b2, b3, b4, b5, b6, b7⟩ := (efr.N (efr.rf (g_told s) (fun r i => r = 24 ∧ i = tN τ 2)) ⟨rfl, rfl⟩ : efr (g_told s) (sNw (g_told s) 24 (tN τ 2) Gt.2.1 0 gSym) (fun r i => r = 24 ∧ i = tN τ 2)) r i hp
                    exact ⟨a1.trans b1, a2.trans b2, a3.trans b3, a4.trans b4, a5.trans b5, a6.trans b6, a7.trans b7⟩
                  have uS : ∀ r i, rx_s r i = true → r ≠ 24 → rU s3 r i = true := fun r i h1 h2 => by rw [(e3t r i (by omega)).2.1]; exact hS r i h1
                  have L3 : rLS (E 6) s3 8 1 (tN τ 2) (fun j => (24, j)) := rLS_efr (cT_l1 (CT_told hT hS)) e3t (by omega) (fun a => by omega)
                  obtain ⟨⟨h6, c6, hO6⟩, _⟩ := id hE
                  refine w_astore dX9_symbol_138 (lb rfl) ?_
                  refine w_aload_n dX9_symbol_140 rfl ?_
                  refine r_getr (r := 2) (i := 0) dX9_symbol_141 ft_8_10 R3 (e3 2 0 (by omega)).1 ((e3 2 0 (by omega)).2.1.trans (hS 2 0 rfl)) rfl (lb rfl) ((congrFun (e3 2 0 (by omega)).2.2.2.1 0).trans (cT_s hT 2 0 rfl)) ?_
                  refine r_getr (r := 3) (i := 0) dX9_symbol_144 ft_8_119 R3 rfl ((e3 3 0 (by omega)).2.1.trans (hS 3 0 rfl)) rfl (lb rfl) ((congrFun (e3 3 0 (by omega)).2.2.2.1 1).trans (cT_s hT 3 1 rfl)) ?_
                  refine w_aload dX9_symbol_147 (congrArg (fun q => some (Value.ref q)) u3.2.symm) ?_
                  refine r_inv1 (r := 8) (i := 1) dX9_symbol_149 mt_8_81 R3 rfl (uS 8 1 rfl (by omega)) rfl (lb rfl) (lb rfl) (lb rfl) (lb rfl) rfl (c_ladd (s := s3) (r := 8) (i := 1) R3 rfl (uS 8 1 rfl (by omega)) L3 (by omega) (e := (24, tN τ 2)) u3.1 (Or.inr (Or.inl rfl)) h6 hO6 (fun s4 G4 R4 l4 r4 => ⟨_, rfl, ?_⟩))
                  refine w_pop dX9_symbol_152 rfl ?_
                  have a4 : ∀ r i, r ≠ 24 → rA s4 r i = rA s r i := fun r i h1 => (congrFun (congrFun l4.1 r) i).trans (e3t r i (by omega)).1
                  have x4 : ∀ r i f, r ≠ 9 → r ≠ 8 → r ≠ 24 → rX s4 r i f = rX (g_told s) r i f := fun r i f h1 h2 h3 => (l4.2.2.2.1 r i f h1 (by omega)).trans (congrFun (e3t r i (by omega)).2.2.2.1 f)
                  have u4 : ∀ r i, rU s3 r i = true → rU s4 r i = true := l4.2.2.2.2.1
                  refine w_aload_n dX9_symbol_153 rfl ?_
                  refine r_getr (r := 2) (i := 0) dX9_symbol_154 ft_8_10 R4 (a4 2 0 (by omega)) (u4 _ _ (uS 2 0 rfl (by omega))) rfl (lb rfl) ((x4 2 0 0 (by omega) (by omega) (by omega)).trans (cT_s hT 2 0 rfl)) ?_
                  refine r_getr (r := 3) (i := 0) dX9_symbol_157 ft_8_119 R4 rfl (u4 _ _ (uS 3 0 rfl (by omega))) rfl (lb rfl) ((x4 3 0 1 (by omega) (by omega) (by omega)).trans (cT_s hT 3 1 rfl)) ?_
                  refine r_inv0 (r := 8) (i := 1) dX9_symbol_160 mt_8_66 R4 rfl (u4 _ _ (uS 8 1 rfl (by omega))) rfl (lb rfl) (lb rfl) (lb rfl) (lb rfl) rfl (c_lsize (s := s4) (r := 8) (i := 1) R4 rfl (u4 _ _ (uS 8 1 rfl (by omega))) r4.2.1 ⟨_, rfl, ?_⟩)
                  refine w_iconst (v := 1) dX9_symbol_163 (by decide) ?_
                  refine w_isub dX9_symbol_164 ?_
                  rw [nI_pred]
                  refine w_iret dX9_symbol_165 rfl rfl ?_
                  refine qs _ _ (by rw [f_symbol, if_neg (Classical.not_not.mpr ⟨e5.1, e5.2, by omega, by omega, fun q => by omega⟩), if_neg (Classical.not_not.mpr ⟨⟨i71a, i71b⟩, by rw [if_neg (show ¬ (0 : Int) ≤ x.toInt by omega)]; exact ⟨i82a, i82b⟩, e91⟩), if_neg (by omega)]) _ _ (rx_w R4 (by omega) (by show z2 + 9 + _ ≤ _; omega)) ?_ (CT_sym (CT_told hT hS) hS R3 e3t u3.1 (by rw [hho]; exact fY) l4 r4) ⟨x4 2 0 5 (by omega) (by omega) (by omega), x4 2 0 6 (by omega) (by omega) (by omega), x4 2 0 7 (by omega) (by omega) (by omega)⟩
                  · refine ⟨fun r i u => ?_, fun f => (l4.2.2.2.1 0 0 f (by omega) (by omega)).trans (congrFun (e3t 0 0 (by omega)).2.2.2.1 f), ?_, ?_, ?_, fun K hK i m u x => hK i m ((e3t 22 i (by omega)).2.1.symm.trans ((l4.2.2.2.2.2.1 22 i (by omega)).1.symm.trans u)) ((congrFun (e3t 22 i (by omega)).2.2.2.1 2).symm.trans ((l4.2.2.2.1 22 i 2 (by omega) (by omega)).symm.trans x))⟩
                    · have hne : ¬ (r = 24 ∧ i = tN τ 2) := fun q => by rw [q.1, q.2] at u; exact absurd (hfr.symm.trans u) (by decide)
                      exact ⟨l4.2.2.2.2.1 r i (by rw [(e3t r i hne).2.1]; exact u), (congrFun (congrFun l4.1 r) i).trans (e3t r i hne).1⟩
                    · rw [l4.2.1]; funext i; exact (e3t 1 i (by omega)).2.2.2.2.1
                    · rw [l4.2.2.1]; funext i; exact (e3t 1 i (by omega)).2.2.2.2.2.1
                    · rw [l4.2.2.1]; funext i; exact (e3t 26 i (by omega)).2.2.2.2.2.1
                ·
                  refine w_bipush (v := (-104)) dX9_symbol_115 (by decide) ?_
                  exact w_iret dX9_symbol_117 rfl rfl (qn _ (by rw [f_symbol, if_neg (Classical.not_not.mpr ⟨e5.1, e5.2, by omega, by omega, fun q => by omega⟩), if_neg (Classical.not_not.mpr ⟨⟨i71a, i71b⟩, by rw [if_neg (show ¬ (0 : Int) ≤ x.toInt by omega)]; exact ⟨i82a, i82b⟩, e91⟩), if_pos (by omega)]))
              ·
                refine w_if_ne (t := 100) dX9_symbol_94 rfl (fun h => absurd h (by decide)) (fun _ => ?_)
                refine w_bipush (v := (-102)) dX9_symbol_97 (by decide) ?_
                exact w_iret dX9_symbol_99 rfl rfl (qn _ (by rw [f_symbol, if_neg (Classical.not_not.mpr ⟨e5.1, e5.2, by omega, by omega, fun q => by omega⟩), if_pos (fun e => e91 e.2.2)]))
            ·
              refine w_if_eq (t := 97) dX9_symbol_85 rfl (fun _ => ?_) (fun h => absurd (by decide) h)
              refine w_bipush (v := (-102)) dX9_symbol_97 (by decide) ?_
              exact w_iret dX9_symbol_99 rfl rfl (qn _ (by rw [f_symbol, if_neg (Classical.not_not.mpr ⟨e5.1, e5.2, by omega, by omega, fun q => by omega⟩), if_pos (fun e => by rw [if_neg (show ¬ (0 : Int) ≤ x.toInt by omega)] at e; exact i82 e.2.1.1 e.2.1.2)]))
          ·
            refine w_if_eq (t := 97) dX9_symbol_74 rfl (fun _ => ?_) (fun h => absurd (by decide) h)
            refine w_bipush (v := (-102)) dX9_symbol_97 (by decide) ?_
            exact w_iret dX9_symbol_99 rfl rfl (qn _ (by rw [f_symbol, if_neg (Classical.not_not.mpr ⟨e5.1, e5.2, by omega, by omega, fun q => by omega⟩), if_pos (fun e => i71 e.1.1 e.1.2)]))
        ·
          refine w_aloadN dX9_symbol_34 rfl ?_
          refine r_nullT (t := 48) dX9_symbol_36 rfl ?_
          refine w_bipush (v := (-101)) dX9_symbol_48 (by decide) ?_
          exact w_iret dX9_symbol_50 rfl rfl (qn _ (by rw [f_symbol, if_pos (fun e => e25 ⟨h31, e.2.2.2.1⟩)]))
      ·
        have m17 : (-17 : Int32).toInt = -17 := by decide
        subst e25
        have hj2 : j < 2 ^ 31 := by omega
        have ej : cl (nI j) = j := nI_clamp hj2
        have hz := (hV.2.1 j hj).2.2.1
        have hho : hmO (nI j) = some j := by unfold hmO; rw [if_pos (by rw [nI_toInt hj2]; omega), ej]
        refine w_astore dX9_symbol_28 (lb rfl) ?_
        refine w_iload_n dX9_symbol_30 rfl ?_
        refine r_if_lti (t := 51) dX9_symbol_31 rfl (fun h => by rw [nI_toInt hj2] at h; omega) (fun h31 => ?_)
        refine w_aload dX9_symbol_34 rfl ?_
        refine r_nullF (t := 48) dX9_symbol_36 rfl ?_
        refine w_aload dX9_symbol_39 rfl ?_
        refine r_geti  dX9_symbol_41 ft_8_113 R rfl (cT_Su hT hj) rfl (lb rfl) (cT_S hT hj 1 rfl) ?_
        refine w_iload_n dX9_symbol_44 rfl ?_
        refine w_icmp_eq (t := 51) dX9_symbol_45 rfl (fun h45 => ?_) (fun h45 => ?_)
        ·
          refine w_aload dX9_symbol_51 rfl ?_
          refine r_nnT (t := 60) dX9_symbol_53 rfl ?_
          refine w_aload dX9_symbol_60 rfl ?_
          refine r_geti  dX9_symbol_62 ft_8_95 R rfl (cT_Su hT hj) rfl (lb rfl) (cT_S hT hj 3 rfl) ?_
          refine w_istore dX9_symbol_65 (lb rfl) ?_
          refine w_iload_n dX9_symbol_67 rfl ?_
          refine w_iconst (v := 0) dX9_symbol_68 (by decide) ?_
          refine w_bipush (v := nI 63) dX9_symbol_69 (by decide) ?_
          refine r_stat3 dX9_symbol_71 mt_8_58 (lb rfl) (lb rfl) (lb rfl) (lb rfl) rfl (c9_inI (b := 0) (by decide) (c := 63) (by decide) (fun i71a i71b => ⟨_, rfl, ?_⟩) (fun i71 => ⟨_, rfl, ?_⟩))
          ·
            refine w_if_eq (t := 97) dX9_symbol_74 rfl (fun h => absurd h (by decide)) (fun _ => ?_)
            refine w_iload dX9_symbol_77 rfl ?_
            refine w_iconst (v := 0) dX9_symbol_79 (by decide) ?_
            refine w_iload dX9_symbol_80 rfl ?_
            refine r_stat3 dX9_symbol_82 mt_8_58 (lb rfl) (lb rfl) (lb rfl) (lb rfl) rfl (c9_inI (b := 0) (by decide) rfl (fun i82a i82b => ⟨_, rfl, ?_⟩) (fun i82 => ⟨_, rfl, ?_⟩))
            ·
              refine w_if_eq (t := 97) dX9_symbol_85 rfl (fun h => absurd h (by decide)) (fun _ => ?_)
              refine w_iload_n dX9_symbol_88 rfl ?_
              refine w_iload dX9_symbol_89 rfl ?_
              refine r_stat2 dX9_symbol_91 mt_8_116 (lb rfl) (lb rfl) (lb rfl) (lb rfl) rfl (c9_sort (fun e91 => ⟨_, rfl, ?_⟩) (fun e91 => ⟨_, rfl, ?_⟩))
              ·
                refine w_if_ne (t := 100) dX9_symbol_94 rfl (fun _ => ?_) (fun h => absurd (by decide) h)
                refine w_aload_n dX9_symbol_100 rfl ?_
                refine r_getr  dX9_symbol_101 ft_8_10 R rfl (hS _ _ rfl) rfl (lb rfl) (cT_s hT 2 0 rfl) ?_
                refine r_getr  dX9_symbol_104 ft_8_119 R rfl (hS _ _ rfl) rfl (lb rfl) (cT_s hT 3 1 rfl) ?_
                refine r_inv0  dX9_symbol_107 mt_8_66 R rfl (hS _ _ rfl) rfl (lb rfl) (lb rfl) (lb rfl) (lb rfl) rfl (c_lsize R rfl (hS _ _ rfl) (cT_l1 hT).2.1 ⟨_, rfl, ?_⟩)
                refine w_bipush (v := nI 120) dX9_symbol_110 (by decide) ?_
                refine r_icmp_ltn (t := 118) dX9_symbol_112 rfl (by omega) (by omega) (fun h112 => ?_) (fun h112 => ?_)
                ·
                  refine w_aload_n dX9_symbol_118 rfl ?_
                  refine r_inv0  dX9_symbol_119 mt_8_51 R rfl (hS _ _ rfl) rfl (lb rfl) (lb rfl) (lb rfl) (lb rfl) rfl (c9_forget R hS (fun Gt Rt => ⟨_, rfl, ?_⟩))
                  have hfr := hT.2.2.2.2.2.2.2.2.2.2.1 (tN τ 2) (Nat.le_refl _)
                  refine r_new 24 (tN τ 2) gSym dX9_symbol_122 nt_8_122 Rt (lb9 rfl) hfr ((rx_c_o rfl).trans rfl) (fun G2 R2 => ?_)
                  refine w_dup dX9_symbol_125 rfl ?_
                  refine w_iload_n dX9_symbol_126 rfl ?_
                  refine w_iload_n dX9_symbol_127 rfl ?_
                  refine w_aload dX9_symbol_128 rfl ?_
                  refine w_iload dX9_symbol_130 rfl ?_
                  refine w_iload dX9_symbol_132 rfl ?_
                  refine w_iload_n dX9_symbol_134 rfl ?_
                  refine r_spec6 dX9_symbol_135 mt_8_124 (by decide) (lb rfl) (lb rfl) (lb rfl) (lb rfl) rfl (c6_init (s := (sNw (g_told s) 24 (tN τ 2) Gt.2.1 0 gSym)) (o := some j) R2 (show rU (sNw (g_told s) 24 (tN τ 2) Gt.2.1 0 gSym) 24 (tN τ 2) = true from Nw_s) (fun j2 e2 => by cases e2; exact cT_Su hT hj) (fun s3 G3 R3 e3 u3 fY => ⟨_, rfl, ?_⟩))
                  have e3t : efr (g_told s) s3 (fun r i => r = 24 ∧ i = tN τ 2) := fun r i hp => by
                    obtain ⟨a1, a2, a3, a4, a5, a6, a7⟩ := e3 r i hp
                    obtain ⟨b1, b2, b3, b4, b5, b6, b7⟩ := (efr.N (efr.rf (g_told s) (fun r i => r = 24 ∧ i = tN τ 2)) ⟨rfl, rfl⟩ : efr (g_told s) (sNw (g_told s) 24 (tN τ 2) Gt.2.1 0 gSym) (fun r i => r = 24 ∧ i = tN τ 2)) r i hp
                    exact ⟨a1.trans b1, a2.trans b2, a3.trans b3, a4.trans b4, a5.trans b5, a6.trans b6, a7.trans b7⟩
                  have uS : ∀ r i, rx_s r i = true → r ≠ 24 → rU s3 r i = true := fun r i h1 h2 => by rw [(e3t r i (by omega)).2.1]; exact hS r i h1
                  have L3 : rLS (E 6) s3 8 1 (tN τ 2) (fun j => (24, j)) := rLS_efr (cT_l1 (CT_told hT hS)) e3t (by omega) (fun a => by omega)
                  obtain ⟨⟨h6, c6, hO6⟩, _⟩ := id hE
                  refine w_astore dX9_symbol_138 (lb rfl) ?_
                  refine w_aload_n dX9_symbol_140 rfl ?_
                  refine r_getr (r := 2) (i := 0) dX9_symbol_141 ft_8_10 R3 (e3 2 0 (by omega)).1 ((e3 2 0 (by omega)).2.1.trans (hS 2 0 rfl)) rfl (lb rfl) ((congrFun (e3 2 0 (by omega)).2.2.2.1 0).trans (cT_s hT 2 0 rfl)) ?_
                  refine r_getr (r := 3) (i := 0) dX9_symbol_144 ft_8_119 R3 rfl ((e3 3 0 (by omega)).2.1.trans (hS 3 0 rfl)) rfl (lb rfl) ((congrFun (e3 3 0 (by omega)).2.2.2.1 1).trans (cT_s hT 3 1 rfl)) ?_
                  refine w_aload dX9_symbol_147 (congrArg (fun q => some (Value.ref q)) u3.2.symm) ?_
                  refine r_inv1 (r := 8) (i := 1) dX9_symbol_149 mt_8_81 R3 rfl (uS 8 1 rfl (by omega)) rfl (lb rfl) (lb rfl) (lb rfl) (lb rfl) rfl (c_ladd (s := s3) (r := 8) (i := 1) R3 rfl (uS 8 1 rfl (by omega)) L3 (by omega) (e := (24, tN τ 2)) u3.1 (Or.inr (Or.inl rfl)) h6 hO6 (fun s4 G4 R4 l4 r4 => ⟨_, rfl, ?_⟩))
                  refine w_pop dX9_symbol_152 rfl ?_
                  have a4 : ∀ r i, r ≠ 24 → rA s4 r i = rA s r i := fun r i h1 => (congrFun (congrFun l4.1 r) i).trans (e3t r i (by omega)).1
                  have x4 : ∀ r i f, r ≠ 9 → r ≠ 8 → r ≠ 24 → rX s4 r i f = rX (g_told s) r i f := fun r i f h1 h2 h3 => (l4.2.2.2.1 r i f h1 (by omega)).trans (congrFun (e3t r i (by omega)).2.2.2.1 f)
                  have u4 : ∀ r i, rU s3 r i = true → rU s4 r i = true := l4.2.2.2.2.1
                  refine w_aload_n dX9_symbol_153 rfl ?_
                  refine r_getr (r := 2) (i := 0) dX9_symbol_154 ft_8_10 R4 (a4 2 0 (by omega)) (u4 _ _ (uS 2 0 rfl (by omega))) rfl (lb rfl) ((x4 2 0 0 (by omega) (by omega) (by omega)).trans (cT_s hT 2 0 rfl)) ?_
                  refine r_getr (r := 3) (i := 0) dX9_symbol_157 ft_8_119 R4 rfl (u4 _ _ (uS 3 0 rfl (by omega))) rfl (lb rfl) ((x4 3 0 1 (by omega) (by omega) (by omega)).trans (cT_s hT 3 1 rfl)) ?_
                  refine r_inv0 (r := 8) (i := 1) dX9_symbol_160 mt_8_66 R4 rfl (u4 _ _ (uS 8 1 rfl (by omega))) rfl (lb rfl) (lb rfl) (lb rfl) (lb rfl) rfl (c_lsize (s := s4) (r := 8) (i := 1) R4 rfl (u4 _ _ (uS 8 1 rfl (by omega))) r4.2.1 ⟨_, rfl, ?_⟩)
                  refine w_iconst (v := 1) dX9_symbol_163 (by decide) ?_
                  refine w_isub dX9_symbol_164 ?_
                  rw [nI_pred]
                  refine w_iret dX9_symbol_165 rfl rfl ?_
                  refine qs _ _ (by rw [f_symbol, if_neg (Classical.not_not.mpr ⟨e5.1, e5.2, by omega, by rw [nI_toInt hj2]; omega, fun _ => by rw [ej]; exact h45⟩), if_neg (Classical.not_not.mpr ⟨⟨i71a, i71b⟩, by rw [if_pos (show (0 : Int) ≤ (nI j).toInt by rw [nI_toInt hj2]; omega), ej]; exact ⟨i82a, i82b⟩, e91⟩), if_neg (by omega)]) _ _ (rx_w R4 (by omega) (by show z2 + 9 + _ ≤ _; omega)) ?_ (CT_sym (CT_told hT hS) hS R3 e3t u3.1 (by rw [hho]; exact fY) l4 r4) ⟨x4 2 0 5 (by omega) (by omega) (by omega), x4 2 0 6 (by omega) (by omega) (by omega), x4 2 0 7 (by omega) (by omega) (by omega)⟩
                  · refine ⟨fun r i u => ?_, fun f => (l4.2.2.2.1 0 0 f (by omega) (by omega)).trans (congrFun (e3t 0 0 (by omega)).2.2.2.1 f), ?_, ?_, ?_, fun K hK i m u x => hK i m ((e3t 22 i (by omega)).2.1.symm.trans ((l4.2.2.2.2.2.1 22 i (by omega)).1.symm.trans u)) ((congrFun (e3t 22 i (by omega)).2.2.2.1 2).symm.trans ((l4.2.2.2.1 22 i 2 (by omega) (by omega)).symm.trans x))⟩
                    · have hne : ¬ (r = 24 ∧ i = tN τ 2) := fun q => by rw [q.1, q.2] at u; exact absurd (hfr.symm.trans u) (by decide)
                      exact ⟨l4.2.2.2.2.1 r i (by rw [(e3t r i hne).2.1]; exact u), (congrFun (congrFun l4.1 r) i).trans (e3t r i hne).1⟩
                    · rw [l4.2.1]; funext i; exact (e3t 1 i (by omega)).2.2.2.2.1
                    · rw [l4.2.2.1]; funext i; exact (e3t 1 i (by omega)).2.2.2.2.2.1
                    · rw [l4.2.2.1]; funext i; exact (e3t 26 i (by omega)).2.2.2.2.2.1
                ·
                  refine w_bipush (v := (-104)) dX9_symbol_115 (by decide) ?_
                  exact w_iret dX9_symbol_117 rfl rfl (qn _ (by rw [f_symbol, if_neg (Classical.not_not.mpr ⟨e5.1, e5.2, by omega, by rw [nI_toInt hj2]; omega, fun _ => by rw [ej]; exact h45⟩), if_neg (Classical.not_not.mpr ⟨⟨i71a, i71b⟩, by rw [if_pos (show (0 : Int) ≤ (nI j).toInt by rw [nI_toInt hj2]; omega), ej]; exact ⟨i82a, i82b⟩, e91⟩), if_pos (by omega)]))
              ·
                refine w_if_ne (t := 100) dX9_symbol_94 rfl (fun h => absurd h (by decide)) (fun _ => ?_)
                refine w_bipush (v := (-102)) dX9_symbol_97 (by decide) ?_
                exact w_iret dX9_symbol_99 rfl rfl (qn _ (by rw [f_symbol, if_neg (Classical.not_not.mpr ⟨e5.1, e5.2, by omega, by rw [nI_toInt hj2]; omega, fun _ => by rw [ej]; exact h45⟩), if_pos (fun e => e91 e.2.2)]))
            ·
              refine w_if_eq (t := 97) dX9_symbol_85 rfl (fun _ => ?_) (fun h => absurd (by decide) h)
              refine w_bipush (v := (-102)) dX9_symbol_97 (by decide) ?_
              exact w_iret dX9_symbol_99 rfl rfl (qn _ (by rw [f_symbol, if_neg (Classical.not_not.mpr ⟨e5.1, e5.2, by omega, by rw [nI_toInt hj2]; omega, fun _ => by rw [ej]; exact h45⟩), if_pos (fun e => by rw [if_pos (show (0 : Int) ≤ (nI j).toInt by rw [nI_toInt hj2]; omega), ej] at e; exact i82 e.2.1.1 e.2.1.2)]))
          ·
            refine w_if_eq (t := 97) dX9_symbol_74 rfl (fun _ => ?_) (fun h => absurd (by decide) h)
            refine w_bipush (v := (-102)) dX9_symbol_97 (by decide) ?_
            exact w_iret dX9_symbol_99 rfl rfl (qn _ (by rw [f_symbol, if_neg (Classical.not_not.mpr ⟨e5.1, e5.2, by omega, by rw [nI_toInt hj2]; omega, fun _ => by rw [ej]; exact h45⟩), if_pos (fun e => i71 e.1.1 e.1.2)]))
        ·
          refine w_bipush (v := (-101)) dX9_symbol_48 (by decide) ?_
          exact w_iret dX9_symbol_50 rfl rfl (qn _ (by rw [f_symbol, if_pos (fun e => h45 (by have := e.2.2.2.2 (by rw [nI_toInt hj2]; omega); rw [ej] at this; exact this))]))
    ·
      refine w_bipush (v := (-101)) dX9_symbol_17 (by decide) ?_
      refine w_iret dX9_symbol_19 rfl rfl ?_
      have m17 : (-17 : Int32).toInt = -17 := by decide
      exact qn _ (by rw [f_symbol, if_pos (fun e => by omega)])
  ·
    refine w_if_eq (t := 17) dX9_symbol_8 rfl (fun _ => ?_) (fun h => absurd (by decide) h)
    refine w_bipush (v := (-101)) dX9_symbol_17 (by decide) ?_
    exact w_iret dX9_symbol_19 rfl rfl (qn _ (by rw [f_symbol, if_pos (fun e => e5 ⟨e.1, e.2.1⟩)]))
theorem c9_relocation (R : rx_R b0 O z1 z2 s G) (hS : rx_in s) {τ : tx_T} (hT : CT E s τ) (hV : TV τ) (hE : WE b0 O E) {x i t y a : Int32} (qn : ∀ r9, f_relocation τ x i t y a = (r9, none) → Q (.inl (some (.int r9))) G) (qs : ∀ r9 τ', f_relocation τ x i t y a = (r9, some τ') → ∀ s' G', rx_R b0 O (z1 + 3) (z2 + 700) s' G' → gfr s s' → CT E s' τ' → GT s' → Q (.inl (some (.int r9))) G') : mx_W (gt_P b0 mi E) mX9_relocation 0 (mx_en 0 [.ref (rA s 2 0), .int x, .int i, .int t, .int y, .int a]) [] G Q := by
  have hV0 := hV.1
  refine w_aload_n dX9_relocation_0 rfl ?_
  refine r_getr  dX9_relocation_1 ft_8_10 R rfl (hS _ _ rfl) rfl (lb rfl) (cT_s hT 2 0 rfl) ?_
  refine w_iload_n dX9_relocation_4 rfl ?_
  refine r_inv1  dX9_relocation_5 mt_8_88 R rfl (hS _ _ rfl) rfl (lb rfl) (lb rfl) (lb rfl) (lb rfl) rfl (c7_sectionAt R hS hT hV (fun e5 => ⟨_, rfl, ?_⟩) (fun j hj e5 => ⟨_, rfl, ?_⟩))
  ·
    refine w_astoreN dX9_relocation_8 (lb rfl) ?_
    refine w_aload_n dX9_relocation_10 rfl ?_
    refine r_getr  dX9_relocation_11 ft_8_10 R rfl (hS _ _ rfl) rfl (lb rfl) (cT_s hT 2 0 rfl) ?_
    refine w_iload dX9_relocation_14 rfl ?_
    refine r_inv1  dX9_relocation_16 mt_8_127 R rfl (hS _ _ rfl) rfl (lb rfl) (lb rfl) (lb rfl) (lb rfl) rfl (c7_symbolAt R hS hT hV (fun e16 => ⟨_, rfl, ?_⟩) (fun l hl e16 => ⟨_, rfl, ?_⟩))
    ·
      refine w_astoreN dX9_relocation_19 (lb rfl) ?_
      refine w_aloadN dX9_relocation_21 rfl ?_
      refine r_nullT (t := 53) dX9_relocation_23 rfl ?_
      refine w_bipush (v := (-101)) dX9_relocation_53 (by decide) ?_
      exact w_iret dX9_relocation_55 rfl rfl (qn _ (by rw [f_relocation, if_pos (fun e => e5 ⟨e.1.1, e.1.2.1⟩)]))
    ·
      subst e16
      have hl2 : l < 2 ^ 31 := by omega
      have el : cl (nI l) = l := nI_clamp hl2
      refine w_astore dX9_relocation_19 (lb rfl) ?_
      refine w_aloadN dX9_relocation_21 rfl ?_
      refine r_nullT (t := 53) dX9_relocation_23 rfl ?_
      refine w_bipush (v := (-101)) dX9_relocation_53 (by decide) ?_
      exact w_iret dX9_relocation_55 rfl rfl (qn _ (by rw [f_relocation, if_pos (fun e => e5 ⟨e.1.1, e.1.2.1⟩)]))
  ·
    subst e5
    have hj2 : j < 2 ^ 31 := by omega
    have ej : cl (nI j) = j := nI_clamp hj2
    have hz := (hV.2.1 j hj).2.2.1
    have hk3 := (hV.2.1 j hj).2.1
    have n3 : (nI 3).toInt = 3 := rfl
    refine w_astore dX9_relocation_8 (lb rfl) ?_
    refine w_aload_n dX9_relocation_10 rfl ?_
    refine r_getr  dX9_relocation_11 ft_8_10 R rfl (hS _ _ rfl) rfl (lb rfl) (cT_s hT 2 0 rfl) ?_
    refine w_iload dX9_relocation_14 rfl ?_
    refine r_inv1  dX9_relocation_16 mt_8_127 R rfl (hS _ _ rfl) rfl (lb rfl) (lb rfl) (lb rfl) (lb rfl) rfl (c7_symbolAt R hS hT hV (fun e16 => ⟨_, rfl, ?_⟩) (fun l hl e16 => ⟨_, rfl, ?_⟩))
    ·
      refine w_astoreN dX9_relocation_19 (lb rfl) ?_
      refine w_aload dX9_relocation_21 rfl ?_
      refine r_nullF (t := 53) dX9_relocation_23 rfl ?_
      refine w_aload dX9_relocation_26 rfl ?_
      refine r_geti  dX9_relocation_28 ft_8_92 R rfl (cT_Su hT hj) rfl (lb rfl) (cT_S hT hj 2 rfl) ?_
      refine w_iconst (v := nI 3) dX9_relocation_31 (by decide) ?_
      refine r_icmp_eqi (t := 53) dX9_relocation_32 rfl (fun h32 => ?_) (fun h32 => ?_)
      ·
        refine w_bipush (v := (-101)) dX9_relocation_53 (by decide) ?_
        exact w_iret dX9_relocation_55 rfl rfl (qn _ (by rw [f_relocation, if_pos (fun e => by have e := e.1.2.2; rw [ej] at e; omega)]))
      ·
        refine w_aloadN dX9_relocation_35 rfl ?_
        refine r_nullT (t := 53) dX9_relocation_37 rfl ?_
        refine w_bipush (v := (-101)) dX9_relocation_53 (by decide) ?_
        exact w_iret dX9_relocation_55 rfl rfl (qn _ (by rw [f_relocation, if_pos (fun e => e16 e.2.1)]))
    ·
      subst e16
      have hl2 : l < 2 ^ 31 := by omega
      have el : cl (nI l) = l := nI_clamp hl2
      refine w_astore dX9_relocation_19 (lb rfl) ?_
      refine w_aload dX9_relocation_21 rfl ?_
      refine r_nullF (t := 53) dX9_relocation_23 rfl ?_
      refine w_aload dX9_relocation_26 rfl ?_
      refine r_geti  dX9_relocation_28 ft_8_92 R rfl (cT_Su hT hj) rfl (lb rfl) (cT_S hT hj 2 rfl) ?_
      refine w_iconst (v := nI 3) dX9_relocation_31 (by decide) ?_
      refine r_icmp_eqi (t := 53) dX9_relocation_32 rfl (fun h32 => ?_) (fun h32 => ?_)
      ·
        refine w_bipush (v := (-101)) dX9_relocation_53 (by decide) ?_
        exact w_iret dX9_relocation_55 rfl rfl (qn _ (by rw [f_relocation, if_pos (fun e => by have e := e.1.2.2; rw [ej] at e; omega)]))
      ·
        refine w_aload dX9_relocation_35 rfl ?_
        refine r_nullF (t := 53) dX9_relocation_37 rfl ?_
        refine w_aload dX9_relocation_40 rfl ?_
        refine r_geti  dX9_relocation_42 ft_8_131 R rfl (cT_Yu hT hl) rfl (lb rfl) (cT_Y hT hl 0 (lb rfl)) ?_
        refine w_aload dX9_relocation_45 rfl ?_
        refine r_geti  dX9_relocation_47 ft_8_113 R rfl (cT_Su hT hj) rfl (lb rfl) (cT_S hT hj 1 rfl) ?_
        refine w_icmp_eq (t := 56) dX9_relocation_50 rfl (fun h50 => ?_) (fun h50 => ?_)
        ·
          refine w_iload_n dX9_relocation_56 rfl ?_
          refine r_stat1 dX9_relocation_57 mt_8_132 (lb rfl) (lb rfl) (lb rfl) (lb rfl) rfl (c9_typeAt R hE (fun e57 => ⟨_, rfl, ?_⟩) (fun m hm5 e57 => ⟨_, rfl, ?_⟩))
          ·
            refine w_astoreN dX9_relocation_60 (lb rfl) ?_
            refine w_aloadN dX9_relocation_62 rfl ?_
            refine r_nullT (t := 86) dX9_relocation_64 rfl ?_
            refine w_bipush (v := (-102)) dX9_relocation_86 (by decide) ?_
            exact w_iret dX9_relocation_88 rfl rfl (qn _ (by rw [f_relocation, if_neg (Classical.not_not.mpr ⟨⟨by rw [nI_toInt hj2]; omega, by rw [nI_toInt hj2]; omega, by rw [ej]; omega⟩, ⟨by rw [nI_toInt hl2]; omega, by rw [nI_toInt hl2]; omega⟩, by rw [ej, el]; exact h50⟩), if_pos (fun e => e57 e.1)]))
          ·
            subst e57
            have em : cl (nI m) = m := nI_clamp (by omega)
            have e57 : iw (nI m) 0 4 := ⟨by rw [nI_toInt (by omega)]; omega, by rw [nI_toInt (by omega)]; omega⟩
            have hw := tyW_wide hm5
            refine w_astore dX9_relocation_60 (lb rfl) ?_
            refine w_aload dX9_relocation_62 rfl ?_
            refine r_nullF (t := 86) dX9_relocation_64 rfl ?_
            refine w_iload_n dX9_relocation_67 rfl ?_
            refine w_iconst (v := 0) dX9_relocation_68 (by decide) ?_
            refine w_aload dX9_relocation_69 rfl ?_
            refine r_geti  dX9_relocation_71 ft_8_95 R rfl (cT_Su hT hj) rfl (lb rfl) (cT_S hT hj 3 rfl) ?_
            refine w_aload dX9_relocation_74 rfl ?_
            refine w_getE dX9_relocation_76 ((et_8_136 _).trans (ev_W hE.2.2 hm5)) ?_
            refine w_isub dX9_relocation_79 ?_
            refine r_stat3 dX9_relocation_80 mt_8_58 (lb rfl) (lb rfl) (lb rfl) (lb rfl) rfl (c9_inI (b := 0) (by decide) (t_sub hz.1 hw.2) (fun i80a i80b => ⟨_, rfl, ?_⟩) (fun i80 => ⟨_, rfl, ?_⟩))
            ·
              refine w_if_ne (t := 89) dX9_relocation_83 rfl (fun _ => ?_) (fun h => absurd (by decide) h)
              refine w_aload dX9_relocation_89 rfl ?_
              refine w_gets dX9_relocation_91 st_8_141 ?_
              refine r_acmp_ne (t := 108) dX9_relocation_94 rfl (fun h94 => ?_) (fun h94 => ?_)
              ·
                refine w_aload_n dX9_relocation_108 rfl ?_
                refine r_getr  dX9_relocation_109 ft_8_10 R rfl (hS _ _ rfl) rfl (lb rfl) (cT_s hT 2 0 rfl) ?_
                refine r_getr  dX9_relocation_112 ft_8_145 R rfl (hS _ _ rfl) rfl (lb rfl) (cT_s hT 3 2 rfl) ?_
                refine r_inv0  dX9_relocation_115 mt_8_66 R rfl (hS _ _ rfl) rfl (lb rfl) (lb rfl) (lb rfl) (lb rfl) rfl (c_lsize R rfl (hS _ _ rfl) (cT_l2 hT).2.1 ⟨_, rfl, ?_⟩)
                refine w_sipush (v := nI 200) dX9_relocation_118 (by decide) ?_
                refine r_icmp_ltn (t := 127) dX9_relocation_121 rfl (by omega) (by omega) (fun h121 => ?_) (fun h121 => ?_)
                ·
                  refine w_aload_n dX9_relocation_127 rfl ?_
                  refine r_inv0  dX9_relocation_128 mt_8_51 R rfl (hS _ _ rfl) rfl (lb rfl) (lb rfl) (lb rfl) (lb rfl) rfl (c9_forget R hS (fun Gt Rt => ⟨_, rfl, ?_⟩))
                  have hfr := hT.2.2.2.2.2.2.2.2.2.2.2.1 (tN τ 3) (Nat.le_refl _)
                  refine r_new 25 (tN τ 3) gRel dX9_relocation_131 nt_8_148 Rt (lb9 rfl) hfr ((rx_c_o rfl).trans rfl) (fun G1 R1 => ?_)
                  refine w_dup dX9_relocation_134 rfl ?_
                  refine w_aload dX9_relocation_135 rfl ?_
                  refine w_iload_n dX9_relocation_137 rfl ?_
                  refine w_aload dX9_relocation_138 rfl ?_
                  refine w_aload dX9_relocation_140 rfl ?_
                  refine w_iload dX9_relocation_142 rfl ?_
                  refine r_spec5 dX9_relocation_144 mt_8_150 (by decide) (lb rfl) (lb rfl) (lb rfl) (lb rfl) rfl (c4_init (s := (sNw (g_told s) 25 (tN τ 3) Gt.2.1 0 gRel)) (k := tN τ 3) (i := j) (y := l) (t := m) R1 (show rU (sNw (g_told s) 25 (tN τ 3) Gt.2.1 0 gRel) 25 (tN τ 3) = true from Nw_s) (cT_Su hT hj) (cT_Yu hT hl) (fun s3 G3 R3 e3 u3 fR => ⟨_, rfl, ?_⟩))
                  have e3t : efr (g_told s) s3 (fun r i => r = 25 ∧ i = tN τ 3) := fun r i hp => by
                    obtain ⟨a1, a2, a3, a4, a5, a6, a7⟩ := e3 r i hp
                    obtain ⟨b1, b2, b3, b4, b5, b6, b7⟩ := (efr.N (efr.rf (g_told s) (fun r i => r = 25 ∧ i = tN τ 3)) ⟨rfl, rfl⟩ : efr (g_told s) (sNw (g_told s) 25 (tN τ 3) Gt.2.1 0 gRel) (fun r i => r = 25 ∧ i = tN τ 3)) r i hp
                    exact ⟨a1.trans b1, a2.trans b2, a3.trans b3, a4.trans b4, a5.trans b5, a6.trans b6, a7.trans b7⟩
                  have uS : ∀ r i, rU s r i = true → r ≠ 25 → rU s3 r i = true := fun r i h1 h2 => by rw [(e3t r i (by omega)).2.1]; exact h1
                  have L3 : rLS (E 6) s3 8 2 (tN τ 3) (fun j => (25, j)) := rLS_efr (cT_l2 (CT_told hT hS)) e3t (by omega) (fun a => by omega)
                  obtain ⟨⟨h6, c6, hO6⟩, _⟩ := id hE
                  refine w_astore dX9_relocation_147 (lb rfl) ?_
                  refine w_aload_n dX9_relocation_149 rfl ?_
                  refine r_getr (r := 2) (i := 0) dX9_relocation_150 ft_8_10 R3 (e3 2 0 (by omega)).1 ((e3 2 0 (by omega)).2.1.trans (hS 2 0 rfl)) rfl (lb rfl) ((congrFun (e3 2 0 (by omega)).2.2.2.1 0).trans (cT_s hT 2 0 rfl)) ?_
                  refine r_getr (r := 3) (i := 0) dX9_relocation_153 ft_8_145 R3 rfl ((e3 3 0 (by omega)).2.1.trans (hS 3 0 rfl)) rfl (lb rfl) ((congrFun (e3 3 0 (by omega)).2.2.2.1 2).trans (cT_s hT 3 2 rfl)) ?_
                  refine w_aload dX9_relocation_156 (congrArg (fun q => some (Value.ref q)) u3.2.symm) ?_
                  refine r_inv1 (r := 8) (i := 2) dX9_relocation_158 mt_8_81 R3 rfl (uS 8 2 (hS _ _ rfl) (by omega)) rfl (lb rfl) (lb rfl) (lb rfl) (lb rfl) rfl (c_ladd (s := s3) (r := 8) (i := 2) R3 rfl (uS 8 2 (hS _ _ rfl) (by omega)) L3 (by omega) (e := (25, tN τ 3)) u3.1 (Or.inr (Or.inr (Or.inl rfl))) h6 hO6 (fun s4 G4 R4 l4 r4 => ⟨_, rfl, ?_⟩))
                  refine w_pop dX9_relocation_161 rfl ?_
                  have a4 : ∀ r i, r ≠ 25 → rA s4 r i = rA s r i := fun r i h1 => (congrFun (congrFun l4.1 r) i).trans (e3t r i (by omega)).1
                  have x4 : ∀ r i f, r ≠ 9 → r ≠ 8 → r ≠ 25 → rX s4 r i f = rX (g_told s) r i f := fun r i f h1 h2 h3 => (l4.2.2.2.1 r i f h1 (by omega)).trans (congrFun (e3t r i (by omega)).2.2.2.1 f)
                  have u4 : ∀ r i, rU s3 r i = true → rU s4 r i = true := l4.2.2.2.2.1
                  have own3 : OWN s3 := OWN_efr (CT_told hT hS).2.2.2.1 e3t (fun r i hr hp b => by omega)
                  have L4 : rLS (E 6) s4 21 j (rlN τ j) (fun q => (25, rlG τ j q)) := rLS_lfr (rLS_efr (cT_l (CT_told hT hS) hj) e3t (by omega) (fun a => by omega)) l4 (by omega) (by omega) (fun w x y => by have := own3 21 j 8 2 w (Or.inr (Or.inl rfl)) (Or.inl rfl) (uS 21 j (cT_Lu hT hj) (by omega)) (uS 8 2 (hS _ _ rfl) (by omega)) x y; omega)
                  have hrl : rlN τ j ≤ 200 := Nat.le_trans (cnt_le _ _) hV0.2.2.2.1
                  have u21 : rU s4 21 j = true := u4 _ _ (uS 21 j (cT_Lu hT hj) (by omega))
                  refine w_aload dX9_relocation_162 rfl ?_
                  refine r_getr (r := 20) (i := j) dX9_relocation_164 ft_8_153 R4 (a4 20 j (by omega)) (u4 _ _ (uS 20 j (cT_Su hT hj) (by omega))) rfl (lb rfl) ((x4 20 j 6 (by omega) (by omega) (by omega)).trans (cT_S (CT_told hT hS) hj 6 rfl)) ?_
                  refine w_aload dX9_relocation_167 (congrArg (fun q => some (Value.ref q)) ((congrFun (congrFun l4.1 25) (tN τ 3)).trans u3.2).symm) ?_
                  refine r_inv1 (r := 21) (i := j) dX9_relocation_169 mt_8_81 R4 rfl u21 rfl (lb rfl) (lb rfl) (lb rfl) (lb rfl) rfl (c_ladd (s := s4) (r := 21) (i := j) R4 rfl u21 L4 (by omega) (e := (25, tN τ 3)) (u4 _ _ u3.1) (Or.inr (Or.inr (Or.inl rfl))) h6 hO6 (fun s5 G5 R5 l5 r5 => ⟨_, rfl, ?_⟩))
                  refine w_pop dX9_relocation_172 rfl ?_
                  have a5 : ∀ r i, r ≠ 25 → rA s5 r i = rA s r i := fun r i h1 => (congrFun (congrFun l5.1 r) i).trans (a4 r i h1)
                  have x5 : ∀ r i f, r ≠ 9 → r ≠ 8 → r ≠ 21 → r ≠ 25 → rX s5 r i f = rX (g_told s) r i f := fun r i f h1 h2 h3 h4 => (l5.2.2.2.1 r i f h1 (by omega)).trans (x4 r i f h1 h2 h4)
                  have u5 : ∀ r i, rU s3 r i = true → rU s5 r i = true := fun r i h => l5.2.2.2.2.1 r i (u4 r i h)
                  have hC : CT E s5 (u1 τ.1 3 (tN τ 3 + 1), u2 (u2 (u2 (u2 (u2 τ.2.1 21 (tN τ 3) (nI j)) 22 (tN τ 3) i) 23 (tN τ 3) (nI m)) 24 (tN τ 3) (nI l)) 25 (tN τ 3) a, τ.2.2) := CT_rel (x := nI j) (i := i) (t := nI m) (y := nI l) (a := a) (CT_told hT hS) hV hS R3 R4 (by rw [ej]; exact hj) (by rw [nI_toInt hj2]; omega) e3t u3.1 (by rw [ej, em, el]; exact fR) l4 r4 (by rw [ej]; exact l5) (by rw [ej]; exact r5)
                  refine w_aload_n dX9_relocation_173 rfl ?_
                  refine r_getr (r := 2) (i := 0) dX9_relocation_174 ft_8_10 R5 (a5 2 0 (by omega)) (u5 _ _ (uS 2 0 (hS _ _ rfl) (by omega))) rfl (lb rfl) ((x5 2 0 0 (by omega) (by omega) (by omega) (by omega)).trans (cT_s hT 2 0 rfl)) ?_
                  refine r_getr (r := 3) (i := 0) dX9_relocation_177 ft_8_145 R5 rfl (u5 _ _ (uS 3 0 (hS _ _ rfl) (by omega))) rfl (lb rfl) ((x5 3 0 2 (by omega) (by omega) (by omega) (by omega)).trans (cT_s hT 3 2 rfl)) ?_
                  refine r_inv0 (r := 8) (i := 2) dX9_relocation_180 mt_8_66 R5 rfl (u5 _ _ (uS 8 2 (hS _ _ rfl) (by omega))) rfl (lb rfl) (lb rfl) (lb rfl) (lb rfl) rfl (c_lsize (s := s5) (r := 8) (i := 2) (n := tN τ 3 + 1) R5 rfl (u5 _ _ (uS 8 2 (hS _ _ rfl) (by omega))) (cT_l2 hC).2.1 ⟨_, rfl, ?_⟩)
                  refine w_iconst (v := 1) dX9_relocation_183 (by decide) ?_
                  refine w_isub dX9_relocation_184 ?_
                  rw [nI_pred]
                  refine w_iret dX9_relocation_185 rfl rfl ?_
                  refine qs _ _ (by rw [f_relocation, if_neg (Classical.not_not.mpr ⟨⟨by rw [nI_toInt hj2]; omega, by rw [nI_toInt hj2]; omega, by rw [ej]; omega⟩, ⟨by rw [nI_toInt hl2]; omega, by rw [nI_toInt hl2]; omega⟩, by rw [ej, el]; exact h50⟩), if_neg (Classical.not_not.mpr ⟨e57, ⟨i80a, by rw [ej]; omega⟩, fun e => absurd (congrArg E (show m = 3 from by have := congrArg cl e; rw [em] at this; exact this)) h94⟩), if_neg (by omega)]) _ _ (rx_w R5 (by omega) (by show z2 + 6 + _ + _ ≤ _; omega)) ?_ hC ⟨x5 2 0 5 (by omega) (by omega) (by omega) (by omega), x5 2 0 6 (by omega) (by omega) (by omega) (by omega), x5 2 0 7 (by omega) (by omega) (by omega) (by omega)⟩
                  refine ⟨fun r i u => ?_, fun f => (x5 0 0 f (by omega) (by omega) (by omega) (by omega)), ?_, ?_, ?_, fun K hK i m u x => hK i m ((e3t 22 i (by omega)).2.1.symm.trans ((l4.2.2.2.2.2.1 22 i (by omega)).1.symm.trans ((l5.2.2.2.2.2.1 22 i (by omega)).1.symm.trans u))) ((congrFun (e3t 22 i (by omega)).2.2.2.1 2).symm.trans ((l4.2.2.2.1 22 i 2 (by omega) (by omega)).symm.trans ((l5.2.2.2.1 22 i 2 (by omega) (by omega)).symm.trans x)))⟩
                  · have hne : ¬ (r = 25 ∧ i = tN τ 3) := fun q => by rw [q.1, q.2] at u; exact absurd (hfr.symm.trans u) (by decide)
                    exact ⟨u5 r i (by rw [(e3t r i hne).2.1]; exact u), (congrFun (congrFun l5.1 r) i).trans ((congrFun (congrFun l4.1 r) i).trans (e3t r i hne).1)⟩
                  · rw [l5.2.1, l4.2.1]; funext i; exact (e3t 1 i (by omega)).2.2.2.2.1
                  · rw [l5.2.2.1, l4.2.2.1]; funext i; exact (e3t 1 i (by omega)).2.2.2.2.2.1
                  · rw [l5.2.2.1, l4.2.2.1]; funext i; exact (e3t 26 i (by omega)).2.2.2.2.2.1
                ·
                  refine w_bipush (v := (-104)) dX9_relocation_124 (by decide) ?_
                  exact w_iret dX9_relocation_126 rfl rfl (qn _ (by rw [f_relocation, if_neg (Classical.not_not.mpr ⟨⟨by rw [nI_toInt hj2]; omega, by rw [nI_toInt hj2]; omega, by rw [ej]; omega⟩, ⟨by rw [nI_toInt hl2]; omega, by rw [nI_toInt hl2]; omega⟩, by rw [ej, el]; exact h50⟩), if_neg (Classical.not_not.mpr ⟨e57, ⟨i80a, by rw [ej]; omega⟩, fun e => absurd (congrArg E (show m = 3 from by have := congrArg cl e; rw [em] at this; exact this)) h94⟩), if_pos (by omega)]))
              ·
                refine w_aload dX9_relocation_97 rfl ?_
                refine r_geti  dX9_relocation_99 ft_8_92 R rfl (cT_Su hT hj) rfl (lb rfl) (cT_S hT hj 2 rfl) ?_
                refine w_if_eq (t := 108) dX9_relocation_102 rfl (fun h102 => ?_) (fun h102 => ?_)
                ·
                  refine w_aload_n dX9_relocation_108 rfl ?_
                  refine r_getr  dX9_relocation_109 ft_8_10 R rfl (hS _ _ rfl) rfl (lb rfl) (cT_s hT 2 0 rfl) ?_
                  refine r_getr  dX9_relocation_112 ft_8_145 R rfl (hS _ _ rfl) rfl (lb rfl) (cT_s hT 3 2 rfl) ?_
                  refine r_inv0  dX9_relocation_115 mt_8_66 R rfl (hS _ _ rfl) rfl (lb rfl) (lb rfl) (lb rfl) (lb rfl) rfl (c_lsize R rfl (hS _ _ rfl) (cT_l2 hT).2.1 ⟨_, rfl, ?_⟩)
                  refine w_sipush (v := nI 200) dX9_relocation_118 (by decide) ?_
                  refine r_icmp_ltn (t := 127) dX9_relocation_121 rfl (by omega) (by omega) (fun h121 => ?_) (fun h121 => ?_)
                  ·
                    refine w_aload_n dX9_relocation_127 rfl ?_
                    refine r_inv0  dX9_relocation_128 mt_8_51 R rfl (hS _ _ rfl) rfl (lb rfl) (lb rfl) (lb rfl) (lb rfl) rfl (c9_forget R hS (fun Gt Rt => ⟨_, rfl, ?_⟩))
                    have hfr := hT.2.2.2.2.2.2.2.2.2.2.2.1 (tN τ 3) (Nat.le_refl _)
                    refine r_new 25 (tN τ 3) gRel dX9_relocation_131 nt_8_148 Rt (lb9 rfl) hfr ((rx_c_o rfl).trans rfl) (fun G2 R2 => ?_)
                    refine w_dup dX9_relocation_134 rfl ?_
                    refine w_aload dX9_relocation_135 rfl ?_
                    refine w_iload_n dX9_relocation_137 rfl ?_
                    refine w_aload dX9_relocation_138 rfl ?_
                    refine w_aload dX9_relocation_140 rfl ?_
                    refine w_iload dX9_relocation_142 rfl ?_
                    refine r_spec5 dX9_relocation_144 mt_8_150 (by decide) (lb rfl) (lb rfl) (lb rfl) (lb rfl) rfl (c4_init (s := (sNw (g_told s) 25 (tN τ 3) Gt.2.1 0 gRel)) (k := tN τ 3) (i := j) (y := l) (t := m) R2 (show rU (sNw (g_told s) 25 (tN τ 3) Gt.2.1 0 gRel) 25 (tN τ 3) = true from Nw_s) (cT_Su hT hj) (cT_Yu hT hl) (fun s3 G3 R3 e3 u3 fR => ⟨_, rfl, ?_⟩))
                    have e3t : efr (g_told s) s3 (fun r i => r = 25 ∧ i = tN τ 3) := fun r i hp => by
                      obtain ⟨a1, a2, a3, a4, a5, a6, a7⟩ := e3 r i hp
                      obtain ⟨b1, b2, b3, b4, b5, b6, b7⟩ := (efr.N (efr.rf (g_told s) (fun r i => r = 25 ∧ i = tN τ 3)) ⟨rfl, rfl⟩ : efr (g_told s) (sNw (g_told s) 25 (tN τ 3) Gt.2.1 0 gRel) (fun r i => r = 25 ∧ i = tN τ 3)) r i hp
                      exact ⟨a1.trans b1, a2.trans b2, a3.trans b3, a4.trans b4, a5.trans b5, a6.trans b6, a7.trans b7⟩
                    have uS : ∀ r i, rU s r i = true → r ≠ 25 → rU s3 r i = true := fun r i h1 h2 => by rw [(e3t r i (by omega)).2.1]; exact h1
                    have L3 : rLS (E 6) s3 8 2 (tN τ 3) (fun j => (25, j)) := rLS_efr (cT_l2 (CT_told hT hS)) e3t (by omega) (fun a => by omega)
                    obtain ⟨⟨h6, c6, hO6⟩, _⟩ := id hE
                    refine w_astore dX9_relocation_147 (lb rfl) ?_
                    refine w_aload_n dX9_relocation_149 rfl ?_
                    refine r_getr (r := 2) (i := 0) dX9_relocation_150 ft_8_10 R3 (e3 2 0 (by omega)).1 ((e3 2 0 (by omega)).2.1.trans (hS 2 0 rfl)) rfl (lb rfl) ((congrFun (e3 2 0 (by omega)).2.2.2.1 0).trans (cT_s hT 2 0 rfl)) ?_
                    refine r_getr (r := 3) (i := 0) dX9_relocation_153 ft_8_145 R3 rfl ((e3 3 0 (by omega)).2.1.trans (hS 3 0 rfl)) rfl (lb rfl) ((congrFun (e3 3 0 (by omega)).2.2.2.1 2).trans (cT_s hT 3 2 rfl)) ?_
                    refine w_aload dX9_relocation_156 (congrArg (fun q => some (Value.ref q)) u3.2.symm) ?_
                    refine r_inv1 (r := 8) (i := 2) dX9_relocation_158 mt_8_81 R3 rfl (uS 8 2 (hS _ _ rfl) (by omega)) rfl (lb rfl) (lb rfl) (lb rfl) (lb rfl) rfl (c_ladd (s := s3) (r := 8) (i := 2) R3 rfl (uS 8 2 (hS _ _ rfl) (by omega)) L3 (by omega) (e := (25, tN τ 3)) u3.1 (Or.inr (Or.inr (Or.inl rfl))) h6 hO6 (fun s4 G4 R4 l4 r4 => ⟨_, rfl, ?_⟩))
                    refine w_pop dX9_relocation_161 rfl ?_
                    have a4 : ∀ r i, r ≠ 25 → rA s4 r i = rA s r i := fun r i h1 => (congrFun (congrFun l4.1 r) i).trans (e3t r i (by omega)).1
                    have x4 : ∀ r i f, r ≠ 9 → r ≠ 8 → r ≠ 25 → rX s4 r i f = rX (g_told s) r i f := fun r i f h1 h2 h3 => (l4.2.2.2.1 r i f h1 (by omega)).trans (congrFun (e3t r i (by omega)).2.2.2.1 f)
                    have u4 : ∀ r i, rU s3 r i = true → rU s4 r i = true := l4.2.2.2.2.1
                    have own3 : OWN s3 := OWN_efr (CT_told hT hS).2.2.2.1 e3t (fun r i hr hp b => by omega)
                    have L4 : rLS (E 6) s4 21 j (rlN τ j) (fun q => (25, rlG τ j q)) := rLS_lfr (rLS_efr (cT_l (CT_told hT hS) hj) e3t (by omega) (fun a => by omega)) l4 (by omega) (by omega) (fun w x y => by have := own3 21 j 8 2 w (Or.inr (Or.inl rfl)) (Or.inl rfl) (uS 21 j (cT_Lu hT hj) (by omega)) (uS 8 2 (hS _ _ rfl) (by omega)) x y; omega)
                    have hrl : rlN τ j ≤ 200 := Nat.le_trans (cnt_le _ _) hV0.2.2.2.1
                    have u21 : rU s4 21 j = true := u4 _ _ (uS 21 j (cT_Lu hT hj) (by omega))
                    refine w_aload dX9_relocation_162 rfl ?_
                    refine r_getr (r := 20) (i := j) dX9_relocation_164 ft_8_153 R4 (a4 20 j (by omega)) (u4 _ _ (uS 20 j (cT_Su hT hj) (by omega))) rfl (lb rfl) ((x4 20 j 6 (by omega) (by omega) (by omega)).trans (cT_S (CT_told hT hS) hj 6 rfl)) ?_
                    refine w_aload dX9_relocation_167 (congrArg (fun q => some (Value.ref q)) ((congrFun (congrFun l4.1 25) (tN τ 3)).trans u3.2).symm) ?_
                    refine r_inv1 (r := 21) (i := j) dX9_relocation_169 mt_8_81 R4 rfl u21 rfl (lb rfl) (lb rfl) (lb rfl) (lb rfl) rfl (c_ladd (s := s4) (r := 21) (i := j) R4 rfl u21 L4 (by omega) (e := (25, tN τ 3)) (u4 _ _ u3.1) (Or.inr (Or.inr (Or.inl rfl))) h6 hO6 (fun s5 G5 R5 l5 r5 => ⟨_, rfl, ?_⟩))
                    refine w_pop dX9_relocation_172 rfl ?_
                    have a5 : ∀ r i, r ≠ 25 → rA s5 r i = rA s r i := fun r i h1 => (congrFun (congrFun l5.1 r) i).trans (a4 r i h1)
                    have x5 : ∀ r i f, r ≠ 9 → r ≠ 8 → r ≠ 21 → r ≠ 25 → rX s5 r i f = rX (g_told s) r i f := fun r i f h1 h2 h3 h4 => (l5.2.2.2.1 r i f h1 (by omega)).trans (x4 r i f h1 h2 h4)
                    have u5 : ∀ r i, rU s3 r i = true → rU s5 r i = true := fun r i h => l5.2.2.2.2.1 r i (u4 r i h)
                    have hC : CT E s5 (u1 τ.1 3 (tN τ 3 + 1), u2 (u2 (u2 (u2 (u2 τ.2.1 21 (tN τ 3) (nI j)) 22 (tN τ 3) i) 23 (tN τ 3) (nI m)) 24 (tN τ 3) (nI l)) 25 (tN τ 3) a, τ.2.2) := CT_rel (x := nI j) (i := i) (t := nI m) (y := nI l) (a := a) (CT_told hT hS) hV hS R3 R4 (by rw [ej]; exact hj) (by rw [nI_toInt hj2]; omega) e3t u3.1 (by rw [ej, em, el]; exact fR) l4 r4 (by rw [ej]; exact l5) (by rw [ej]; exact r5)
                    refine w_aload_n dX9_relocation_173 rfl ?_
                    refine r_getr (r := 2) (i := 0) dX9_relocation_174 ft_8_10 R5 (a5 2 0 (by omega)) (u5 _ _ (uS 2 0 (hS _ _ rfl) (by omega))) rfl (lb rfl) ((x5 2 0 0 (by omega) (by omega) (by omega) (by omega)).trans (cT_s hT 2 0 rfl)) ?_
                    refine r_getr (r := 3) (i := 0) dX9_relocation_177 ft_8_145 R5 rfl (u5 _ _ (uS 3 0 (hS _ _ rfl) (by omega))) rfl (lb rfl) ((x5 3 0 2 (by omega) (by omega) (by omega) (by omega)).trans (cT_s hT 3 2 rfl)) ?_
                    refine r_inv0 (r := 8) (i := 2) dX9_relocation_180 mt_8_66 R5 rfl (u5 _ _ (uS 8 2 (hS _ _ rfl) (by omega))) rfl (lb rfl) (lb rfl) (lb rfl) (lb rfl) rfl (c_lsize (s := s5) (r := 8) (i := 2) (n := tN τ 3 + 1) R5 rfl (u5 _ _ (uS 8 2 (hS _ _ rfl) (by omega))) (cT_l2 hC).2.1 ⟨_, rfl, ?_⟩)
                    refine w_iconst (v := 1) dX9_relocation_183 (by decide) ?_
                    refine w_isub dX9_relocation_184 ?_
                    rw [nI_pred]
                    refine w_iret dX9_relocation_185 rfl rfl ?_
                    refine qs _ _ (by rw [f_relocation, if_neg (Classical.not_not.mpr ⟨⟨by rw [nI_toInt hj2]; omega, by rw [nI_toInt hj2]; omega, by rw [ej]; omega⟩, ⟨by rw [nI_toInt hl2]; omega, by rw [nI_toInt hl2]; omega⟩, by rw [ej, el]; exact h50⟩), if_neg (Classical.not_not.mpr ⟨e57, ⟨i80a, by rw [ej]; omega⟩, fun _ => by rw [ej]; exact h102⟩), if_neg (by omega)]) _ _ (rx_w R5 (by omega) (by show z2 + 6 + _ + _ ≤ _; omega)) ?_ hC ⟨x5 2 0 5 (by omega) (by omega) (by omega) (by omega), x5 2 0 6 (by omega) (by omega) (by omega) (by omega), x5 2 0 7 (by omega) (by omega) (by omega) (by omega)⟩
                    refine ⟨fun r i u => ?_, fun f => (x5 0 0 f (by omega) (by omega) (by omega) (by omega)), ?_, ?_, ?_, fun K hK i m u x => hK i m ((e3t 22 i (by omega)).2.1.symm.trans ((l4.2.2.2.2.2.1 22 i (by omega)).1.symm.trans ((l5.2.2.2.2.2.1 22 i (by omega)).1.symm.trans u))) ((congrFun (e3t 22 i (by omega)).2.2.2.1 2).symm.trans ((l4.2.2.2.1 22 i 2 (by omega) (by omega)).symm.trans ((l5.2.2.2.1 22 i 2 (by omega) (by omega)).symm.trans x)))⟩
                    · have hne : ¬ (r = 25 ∧ i = tN τ 3) := fun q => by rw [q.1, q.2] at u; exact absurd (hfr.symm.trans u) (by decide)
                      exact ⟨u5 r i (by rw [(e3t r i hne).2.1]; exact u), (congrFun (congrFun l5.1 r) i).trans ((congrFun (congrFun l4.1 r) i).trans (e3t r i hne).1)⟩
                    · rw [l5.2.1, l4.2.1]; funext i; exact (e3t 1 i (by omega)).2.2.2.2.1
                    · rw [l5.2.2.1, l4.2.2.1]; funext i; exact (e3t 1 i (by omega)).2.2.2.2.2.1
                    · rw [l5.2.2.1, l4.2.2.1]; funext i; exact (e3t 26 i (by omega)).2.2.2.2.2.1
                  ·
                    refine w_bipush (v := (-104)) dX9_relocation_124 (by decide) ?_
                    exact w_iret dX9_relocation_126 rfl rfl (qn _ (by rw [f_relocation, if_neg (Classical.not_not.mpr ⟨⟨by rw [nI_toInt hj2]; omega, by rw [nI_toInt hj2]; omega, by rw [ej]; omega⟩, ⟨by rw [nI_toInt hl2]; omega, by rw [nI_toInt hl2]; omega⟩, by rw [ej, el]; exact h50⟩), if_neg (Classical.not_not.mpr ⟨e57, ⟨i80a, by rw [ej]; omega⟩, fun _ => by rw [ej]; exact h102⟩), if_pos (by omega)]))
                ·
                  refine w_bipush (v := (-102)) dX9_relocation_105 (by decide) ?_
                  exact w_iret dX9_relocation_107 rfl rfl (qn _ (by rw [f_relocation, if_neg (Classical.not_not.mpr ⟨⟨by rw [nI_toInt hj2]; omega, by rw [nI_toInt hj2]; omega, by rw [ej]; omega⟩, ⟨by rw [nI_toInt hl2]; omega, by rw [nI_toInt hl2]; omega⟩, by rw [ej, el]; exact h50⟩), if_pos (fun e => h102 (by have e := e.2.2 (by rw [hE.2.2 _ _ hm5 (by omega) h94]; rfl); rw [ej] at e; exact e))]))
            ·
              refine w_if_ne (t := 89) dX9_relocation_83 rfl (fun h => absurd h (by decide)) (fun _ => ?_)
              refine w_bipush (v := (-102)) dX9_relocation_86 (by decide) ?_
              exact w_iret dX9_relocation_88 rfl rfl (qn _ (by rw [f_relocation, if_neg (Classical.not_not.mpr ⟨⟨by rw [nI_toInt hj2]; omega, by rw [nI_toInt hj2]; omega, by rw [ej]; omega⟩, ⟨by rw [nI_toInt hl2]; omega, by rw [nI_toInt hl2]; omega⟩, by rw [ej, el]; exact h50⟩), if_pos (fun e => by have e := e.2.1; rw [ej] at e; exact i80 e.1 (by have := e.2; omega))]))
        ·
          refine w_bipush (v := (-101)) dX9_relocation_53 (by decide) ?_
          exact w_iret dX9_relocation_55 rfl rfl (qn _ (by rw [f_relocation, if_pos (fun e => h50 (by have e := e.2.2; rw [ej, el] at e; exact e))]))
end
