section
variable {b0 mi z1 z2 : Nat} {E : Nat → Nat} {O : Nat → Option mx_C} {s : rx_S} {G : mx_H} {Q : mx_O → mx_H → Prop}
theorem c9_section (R : rx_R b0 O z1 z2 s G) (hS : rx_in s) {τ : tx_T} (hT : CT E s τ) (hV : TV τ) (hE : WE b0 O E) {o k z a sd : Int32} (qn : ∀ r9, f_section τ o k z a sd = (r9, none) → Q (.inl (some (.int r9))) G) (qs : ∀ r9 τ', f_section τ o k z a sd = (r9, some τ') → ∀ s' G', rx_R b0 O (z1 + 4) (z2 + 200) s' G' → gfr s s' → CT E s' τ' → GT s' → Q (.inl (some (.int r9))) G') : mx_W (gt_P b0 mi E) mX9_section 0 (mx_en 0 [.ref (rA s 2 0), .int o, .int k, .int z, .int a, .int sd]) [] G Q := by
  have hV0 := hV.1
  refine w_aload_n dX9_section_0 rfl ?_
  refine r_getr  dX9_section_1 ft_8_10 R rfl (hS _ _ rfl) rfl (lb rfl) (cT_s hT 2 0 rfl) ?_
  refine w_iload_n dX9_section_4 rfl ?_
  refine r_inv1  dX9_section_5 mt_8_54 R rfl (hS _ _ rfl) rfl (lb rfl) (lb rfl) (lb rfl) (lb rfl) rfl (c7_hasObject R hS hT hV (fun e5 => ⟨_, rfl, ?_⟩) (fun e5 => ⟨_, rfl, ?_⟩))
  ·
    refine w_if_ne (t := 14) dX9_section_8 rfl (fun _ => ?_) (fun h => absurd (by decide) h)
    refine w_iload_n dX9_section_14 rfl ?_
    refine w_iconst (v := 0) dX9_section_15 (by decide) ?_
    refine w_iconst (v := nI 3) dX9_section_16 (by decide) ?_
    refine r_stat3 dX9_section_17 mt_8_58 (lb rfl) (lb rfl) (lb rfl) (lb rfl) rfl (c9_inI (b := 0) (by decide) (c := 3) (by decide) (fun i17a i17b => ⟨_, rfl, ?_⟩) (fun i17 => ⟨_, rfl, ?_⟩))
    ·
      refine w_if_eq (t := 45) dX9_section_20 rfl (fun h => absurd h (by decide)) (fun _ => ?_)
      refine w_iload_n dX9_section_23 rfl ?_
      refine w_iconst (v := 0) dX9_section_24 (by decide) ?_
      refine w_sipush (v := nI 20000) dX9_section_25 (by decide) ?_
      refine r_stat3 dX9_section_28 mt_8_58 (lb rfl) (lb rfl) (lb rfl) (lb rfl) rfl (c9_inI (b := 0) (by decide) (c := 20000) (by decide) (fun i28a i28b => ⟨_, rfl, ?_⟩) (fun i28 => ⟨_, rfl, ?_⟩))
      ·
        refine w_if_eq (t := 45) dX9_section_31 rfl (fun h => absurd h (by decide)) (fun _ => ?_)
        refine w_iload dX9_section_34 rfl ?_
        refine w_iconst (v := 0) dX9_section_36 (by decide) ?_
        refine w_bipush (v := nI 8) dX9_section_37 (by decide) ?_
        refine r_stat3 dX9_section_39 mt_8_58 (lb rfl) (lb rfl) (lb rfl) (lb rfl) rfl (c9_inI (b := 0) (by decide) (c := 8) (by decide) (fun i39a i39b => ⟨_, rfl, ?_⟩) (fun i39 => ⟨_, rfl, ?_⟩))
        ·
          refine w_if_ne (t := 48) dX9_section_42 rfl (fun _ => ?_) (fun h => absurd (by decide) h)
          obtain ⟨m, hm, rfl⟩ := nI_ofI i28a
          have i28c := i28b
          rw [nI_toInt hm] at i28c
          have em : cl (nI m) = m := nI_clamp hm
          have e6k : (60000 : Int32).toInt = 60000 := rfl
          refine w_aload_n dX9_section_48 rfl ?_
          refine r_getr  dX9_section_49 ft_8_10 R rfl (hS _ _ rfl) rfl (lb rfl) (cT_s hT 2 0 rfl) ?_
          refine r_getr  dX9_section_52 ft_8_62 R rfl (hS _ _ rfl) rfl (lb rfl) (cT_s hT 3 0 rfl) ?_
          refine r_inv0  dX9_section_55 mt_8_66 R rfl (hS _ _ rfl) rfl (lb rfl) (lb rfl) (lb rfl) (lb rfl) rfl (c_lsize R rfl (hS _ _ rfl) (cT_l0 hT).2.1 ⟨_, rfl, ?_⟩)
          refine w_bipush (v := nI 60) dX9_section_58 (by decide) ?_
          refine r_icmp_gen (t := 77) dX9_section_60 rfl (by omega) (by omega) (fun h60 => ?_) (fun h60 => ?_)
          ·
            refine w_bipush (v := (-104)) dX9_section_77 (by decide) ?_
            exact w_iret dX9_section_79 rfl rfl (qn _ (by rw [f_section, if_neg (Classical.not_not.mpr e5), if_neg (Classical.not_not.mpr ⟨⟨i17a, i17b⟩, ⟨i28a, i28b⟩, ⟨i39a, i39b⟩⟩), if_pos (Or.inl (by omega))]))
          ·
            refine w_aload_n dX9_section_63 rfl ?_
            refine r_getr  dX9_section_64 ft_8_10 R rfl (hS _ _ rfl) rfl (lb rfl) (cT_s hT 2 0 rfl) ?_
            refine r_geti  dX9_section_67 ft_8_72 R rfl (hS _ _ rfl) rfl (lb rfl) hT.2.1.2.2 ?_
            refine w_iload_n dX9_section_70 rfl ?_
            refine w_iadd dX9_section_71 ?_
            rw [nI_add]
            refine w_ldc dX9_section_72 ct_8_75 ?_
            refine r_icmp_lei (t := 80) dX9_section_74 rfl (fun h74 => ?_) (fun h74 => ?_)
            ·
              refine w_aload_n dX9_section_80 rfl ?_
              refine r_inv0  dX9_section_81 mt_8_51 R rfl (hS _ _ rfl) rfl (lb rfl) (lb rfl) (lb rfl) (lb rfl) rfl (c9_forget R hS (fun Gt Rt => ⟨_, rfl, ?_⟩))
              rw [nI_toInt (by omega)] at h74
              have hfr := hT.2.2.2.2.2.2.2.2.2.1 (tN τ 1) (Nat.le_refl _)
              refine r_new 20 (tN τ 1) gSec dX9_section_84 nt_8_76 Rt (lb9 rfl) hfr.1 ((rx_c_o rfl).trans rfl) (fun G1 R1 => ?_)
              refine w_dup dX9_section_87 rfl ?_
              refine w_aload_n dX9_section_88 rfl ?_
              refine r_getr (r := 2) (i := 0) dX9_section_89 ft_8_10 R1 rfl (hS 2 0 rfl) rfl (lb rfl) (cT_s hT 2 0 rfl) ?_
              refine r_getr (r := 3) (i := 0) dX9_section_92 ft_8_62 R1 rfl (hS 3 0 rfl) rfl (lb rfl) (cT_s hT 3 0 rfl) ?_
              refine r_inv0 (r := 8) (i := 0) dX9_section_95 mt_8_66 R1 rfl (hS 8 0 rfl) rfl (lb rfl) (lb rfl) (lb rfl) (lb rfl) rfl (c_lsize (s := (sNw (g_told s) 20 (tN τ 1) Gt.2.1 0 gSec)) (r := 8) (i := 0) R1 rfl (hS 8 0 rfl) (cT_l0 hT).2.1 ⟨_, rfl, ?_⟩)
              refine w_iload_n dX9_section_98 rfl ?_
              refine w_iload_n dX9_section_99 rfl ?_
              refine w_iload_n dX9_section_100 rfl ?_
              refine w_iload dX9_section_101 rfl ?_
              refine w_iload dX9_section_103 rfl ?_
              refine r_spec6 dX9_section_105 mt_8_78 (by decide) (lb rfl) (lb rfl) (lb rfl) (lb rfl) rfl (c5_init (s := (sNw (g_told s) 20 (tN τ 1) Gt.2.1 0 gSec)) R1 (show rU (sNw (g_told s) 20 (tN τ 1) Gt.2.1 0 gSec) 20 (tN τ 1) = true from Nw_s) hfr.2.1 hfr.2.2.1 (fun s3 G3 R3 e3 u3 fS fL fP => ⟨_, rfl, ?_⟩))
              have e3' : efr s s3 (fun r _ => r = 20 ∨ r = 21 ∨ r = 22 ∨ r = 2) := fun r i hp => by
                obtain ⟨a1, a2, a3, a4, a5, a6, a7⟩ := e3 r i (by omega)
                obtain ⟨b1, b2, b3, b4, b5, b6, b7⟩ := (efr.N (efr.X (efr.X (efr.X (efr.rf s (fun r _ => r = 20 ∨ r = 21 ∨ r = 22 ∨ r = 2)) (Or.inr (Or.inr (Or.inr rfl)))) (Or.inr (Or.inr (Or.inr rfl)))) (Or.inr (Or.inr (Or.inr rfl)))) (Or.inl rfl) : efr s (sNw (g_told s) 20 (tN τ 1) Gt.2.1 0 gSec) (fun r _ => r = 20 ∨ r = 21 ∨ r = 22 ∨ r = 2)) r i hp
                exact ⟨a1.trans b1, a2.trans b2, a3.trans b3, a4.trans b4, a5.trans b5, a6.trans b6, a7.trans b7⟩
              have e3t : efr (g_told s) s3 (fun r i => (r = 20 ∨ r = 21 ∨ r = 22) ∧ i = tN τ 1) := fun r i hp => by
                obtain ⟨a1, a2, a3, a4, a5, a6, a7⟩ := e3 r i hp
                obtain ⟨b1, b2, b3, b4, b5, b6, b7⟩ := (efr.N (efr.rf (g_told s) (fun r i => (r = 20 ∨ r = 21 ∨ r = 22) ∧ i = tN τ 1)) ⟨Or.inl rfl, rfl⟩ : efr (g_told s) (sNw (g_told s) 20 (tN τ 1) Gt.2.1 0 gSec) (fun r i => (r = 20 ∨ r = 21 ∨ r = 22) ∧ i = tN τ 1)) r i hp
                exact ⟨a1.trans b1, a2.trans b2, a3.trans b3, a4.trans b4, a5.trans b5, a6.trans b6, a7.trans b7⟩
              have uS : ∀ r i, rx_s r i = true → r ≠ 20 → r ≠ 21 → r ≠ 22 → rU s3 r i = true := fun r i h1 h2 h3 h4 => by rw [(e3t r i (by omega)).2.1]; exact hS r i h1
              have L3 : rLS (E 6) s3 8 0 (tN τ 1) (fun j => (20, j)) := rLS_efr (cT_l0 (CT_told hT hS)) e3t (by omega) (fun a => by omega)
              obtain ⟨⟨h6, c6, hO6⟩, _⟩ := id hE
              refine w_astore dX9_section_108 (lb rfl) ?_
              refine w_aload_n dX9_section_110 rfl ?_
              refine r_getr (r := 2) (i := 0) dX9_section_111 ft_8_10 R3 (e3 2 0 (by omega)).1 ((e3 2 0 (by omega)).2.1.trans (hS 2 0 rfl)) rfl (lb rfl) ((congrFun (e3 2 0 (by omega)).2.2.2.1 0).trans (cT_s hT 2 0 rfl)) ?_
              refine r_getr (r := 3) (i := 0) dX9_section_114 ft_8_62 R3 rfl ((e3 3 0 (by omega)).2.1.trans (hS 3 0 rfl)) rfl (lb rfl) ((congrFun (e3 3 0 (by omega)).2.2.2.1 0).trans (cT_s hT 3 0 rfl)) ?_
              refine w_aload dX9_section_117 (congrArg (fun q => some (Value.ref q)) u3.2.symm) ?_
              refine r_inv1 (r := 8) (i := 0) dX9_section_119 mt_8_81 R3 rfl (uS 8 0 rfl (by omega) (by omega) (by omega)) rfl (lb rfl) (lb rfl) (lb rfl) (lb rfl) rfl (c_ladd (s := s3) (r := 8) (i := 0) R3 rfl (uS 8 0 rfl (by omega) (by omega) (by omega)) L3 (by omega) (e := (20, tN τ 1)) u3.1 (Or.inl rfl) h6 hO6 (fun s4 G4 R4 l4 r4 => ⟨_, rfl, ?_⟩))
              refine w_pop dX9_section_122 rfl ?_
              have a4 : ∀ r i, r ≠ 20 → r ≠ 21 → r ≠ 22 → rA s4 r i = rA s r i := fun r i h1 h2 h3 => (congrFun (congrFun l4.1 r) i).trans (e3t r i (by omega)).1
              have x4 : ∀ r i f, r ≠ 9 → r ≠ 8 → r ≠ 20 → r ≠ 21 → r ≠ 22 → rX s4 r i f = rX (g_told s) r i f := fun r i f h1 h2 h3 h4 h5 => (l4.2.2.2.1 r i f h1 (by omega)).trans (congrFun (e3t r i (by omega)).2.2.2.1 f)
              have u4 : ∀ r i, rU s3 r i = true → rU s4 r i = true := l4.2.2.2.2.1
              refine w_aload_n dX9_section_123 rfl ?_
              refine r_getr (r := 2) (i := 0) dX9_section_124 ft_8_10 R4 (a4 2 0 (by omega) (by omega) (by omega)) (u4 _ _ (uS 2 0 rfl (by omega) (by omega) (by omega))) rfl (lb rfl) ((x4 2 0 0 (by omega) (by omega) (by omega) (by omega) (by omega)).trans (cT_s hT 2 0 rfl)) ?_
              refine w_dup dX9_section_127 rfl ?_
              refine r_geti (r := 3) (i := 0) dX9_section_128 ft_8_72 R4 rfl (u4 _ _ (uS 3 0 rfl (by omega) (by omega) (by omega))) rfl (lb rfl) ((x4 3 0 7 (by omega) (by omega) (by omega) (by omega) (by omega)).trans hT.2.1.2.2) ?_
              refine w_iload_n dX9_section_131 rfl ?_
              refine w_iadd dX9_section_132 ?_
              rw [nI_add]
              refine r_puti (r := 3) (i := 0) dX9_section_133 ft_8_72 R4 rfl (u4 _ _ (uS 3 0 rfl (by omega) (by omega) (by omega))) rfl (lb rfl) (fun h => by cases h) rfl rfl (fun G2 R2 => ?_)
              refine w_aload dX9_section_136 rfl ?_
              refine r_geti (r := 20) (i := tN τ 1) dX9_section_138 ft_8_85 R2 ((congrFun (congrFun l4.1 20) _).trans u3.2) (u4 _ _ u3.1) rfl (lb rfl) ((sX_p (by omega)).trans ((l4.2.2.2.1 20 (tN τ 1) 0 (by omega) (by omega)).trans fS.1)) ?_
              refine w_iret dX9_section_141 rfl rfl ?_
              refine qs _ _ (by rw [f_section, if_neg (Classical.not_not.mpr e5), if_neg (Classical.not_not.mpr ⟨⟨i17a, i17b⟩, ⟨i28a, i28b⟩, ⟨i39a, i39b⟩⟩), if_neg (by rw [nI_toInt hm]; omega), em]) _ _ (rx_w R2 (by omega) (by show z2 + 20 + 6 + _ ≤ _; omega)) ?_ ?_ ⟨?_, ?_, ?_⟩
              · refine ⟨fun r i u => ?_, fun f => (sX_p (by omega)).trans ((l4.2.2.2.1 0 0 f (by omega) (by omega)).trans (congrFun (e3' 0 0 (by omega)).2.2.2.1 f)), ?_, ?_, ?_, fun K hK i m u x => ?_⟩
                · have hne : ¬ ((r = 20 ∨ r = 21 ∨ r = 22) ∧ i = tN τ 1) := fun q => by
                    have hq := q.2; subst hq
                    rcases q.1 with q | q | q
                    · subst q; rw [hfr.1] at u; cases u
                    · subst q; rw [hfr.2.1] at u; cases u
                    · subst q; rw [hfr.2.2.1] at u; cases u
                  exact ⟨l4.2.2.2.2.1 r i (by rw [(e3t r i hne).2.1]; exact u), (congrFun (congrFun l4.1 r) i).trans (e3t r i hne).1⟩
                · show rI s4 1 = rI s 1
                  rw [l4.2.1]; funext i; exact (e3' 1 i (by omega)).2.2.2.2.1
                · show rL s4 1 = rL s 1
                  rw [l4.2.2.1]; funext i; exact (e3' 1 i (by omega)).2.2.2.2.2.1
                · show rL s4 26 = rL s 26
                  rw [l4.2.2.1]; funext i; exact (e3' 26 i (by omega)).2.2.2.2.2.1
                · by_cases e : i = tN τ 1
                  · subst e
                    have x1 : rX s4 22 (tN τ 1) 2 = .inl (.int m) := (sX_p (by omega)).symm.trans x
                    rw [l4.2.2.2.1 22 (tN τ 1) 2 (by omega) (by omega), fP.2.2.2] at x1
                    injection x1 with x1
                    injection x1 with x1
                    rw [← x1]; exact Int.natCast_nonneg K
                  · exact hK i m ((e3t 22 i (by omega)).2.1.symm.trans ((l4.2.2.2.2.2.1 22 i (by omega)).1.symm.trans u)) ((congrFun (e3t 22 i (by omega)).2.2.2.1 2).symm.trans ((l4.2.2.2.1 22 i 2 (by omega) (by omega)).symm.trans ((sX_p (by omega)).symm.trans x)))
              · have := CT_sec (o := o) (k := k) (z := nI m) (a := a) (sd := sd) (CT_told hT hS) hV hS R3 e3t u3.1 ⟨fS.1, fS.2.1, fS.2.2.1, fS.2.2.2.1, fS.2.2.2.2.1, fS.2.2.2.2.2.1, fS.2.2.2.2.2.2.1, fS.2.2.2.2.2.2.2.1, fS.2.2.2.2.2.2.2.2.1.trans ((Nw_X 20 (tN τ 1) 8).trans (if_pos ⟨rfl, rfl⟩)), fS.2.2.2.2.2.2.2.2.2.1, fS.2.2.2.2.2.2.2.2.2.2⟩ fL fP l4 r4
                rw [em] at this; exact this
              · exact (sX_p (by omega)).trans (x4 2 0 5 (by omega) (by omega) (by omega) (by omega) (by omega))
              · exact (sX_p (by omega)).trans (x4 2 0 6 (by omega) (by omega) (by omega) (by omega) (by omega))
              · exact (sX_p (by omega)).trans (x4 2 0 7 (by omega) (by omega) (by omega) (by omega) (by omega))
            ·
              refine w_bipush (v := (-104)) dX9_section_77 (by decide) ?_
              refine w_iret dX9_section_79 rfl rfl ?_
              rw [nI_toInt (by omega)] at h74
              exact qn _ (by rw [f_section, if_neg (Classical.not_not.mpr e5), if_neg (Classical.not_not.mpr ⟨⟨i17a, i17b⟩, ⟨i28a, i28b⟩, ⟨i39a, i39b⟩⟩), if_pos (Or.inr (by rw [nI_toInt hm]; omega))])
        ·
          refine w_if_ne (t := 48) dX9_section_42 rfl (fun h => absurd h (by decide)) (fun _ => ?_)
          refine w_bipush (v := (-102)) dX9_section_45 (by decide) ?_
          exact w_iret dX9_section_47 rfl rfl (qn _ (by rw [f_section, if_neg (Classical.not_not.mpr e5), if_pos (fun e => i39 e.2.2.1 e.2.2.2)]))
      ·
        refine w_if_eq (t := 45) dX9_section_31 rfl (fun _ => ?_) (fun h => absurd (by decide) h)
        refine w_bipush (v := (-102)) dX9_section_45 (by decide) ?_
        exact w_iret dX9_section_47 rfl rfl (qn _ (by rw [f_section, if_neg (Classical.not_not.mpr e5), if_pos (fun e => i28 e.2.1.1 e.2.1.2)]))
    ·
      refine w_if_eq (t := 45) dX9_section_20 rfl (fun _ => ?_) (fun h => absurd (by decide) h)
      refine w_bipush (v := (-102)) dX9_section_45 (by decide) ?_
      exact w_iret dX9_section_47 rfl rfl (qn _ (by rw [f_section, if_neg (Classical.not_not.mpr e5), if_pos (fun e => i17 e.1.1 e.1.2)]))
  ·
    refine w_if_ne (t := 14) dX9_section_8 rfl (fun h => absurd h (by decide)) (fun _ => ?_)
    refine w_bipush (v := (-101)) dX9_section_11 (by decide) ?_
    exact w_iret dX9_section_13 rfl rfl (qn _ (by rw [f_section, if_pos e5]))
end
