section
variable {b0 mi z1 z2 : Nat} {E : Nat → Nat} {O : Nat → Option mx_C} {s : rx_S} {G : mx_H} {Q : mx_O → mx_H → Prop}
theorem c9_link (R : rx_R b0 O z1 z2 s G) (hS : rx_in s) {τ : tx_T} (hT : CT E s τ) (hV : TV τ) (hE : WE b0 O E) {w : Bool} (q : ∀ (s' : rx_S) (G' : mx_H), rx_R b0 O (z1 + 60) (z2 + 6000) s' G' → gfr s s' → CL E s' τ (some w) → Q (.inl (some (.int (a_link τ w)))) G') : mx_W (gt_P b0 mi E) mX9_link 0 (mx_en 0 [.ref (rA s 2 0), .int (b32 w)]) [] G Q := by
  have hV0 := hV.1
  refine w_aload_n dX9_link_0 rfl ?_
  refine r_inv0  dX9_link_1 mt_8_51 R rfl (hS _ _ rfl) rfl (lb rfl) (lb rfl) (lb rfl) (lb rfl) rfl (c9_forget R hS (fun Gt Rt => ⟨_, rfl, ?_⟩))
  refine w_aload_n dX9_link_4 rfl ?_
  refine w_aload_n dX9_link_5 rfl ?_
  refine r_getr  dX9_link_6 ft_8_19 Rt rfl (hS _ _ rfl) rfl (lb rfl) (cT_s hT 2 1 rfl) ?_
  refine w_aload_n dX9_link_9 rfl ?_
  refine r_getr  dX9_link_10 ft_8_10 Rt rfl (hS _ _ rfl) rfl (lb rfl) (cT_s hT 2 0 rfl) ?_
  refine r_inv1  dX9_link_13 mt_8_165 Rt rfl (hS _ _ rfl) rfl (lb rfl) (lb rfl) (lb rfl) (lb rfl) rfl (c2_resolve (s := g_told s) Rt hS (CT_told hT hS) hV (fun e0 s2 G2 R2 f2 n2 => ⟨_, rfl, ?_⟩) (fun k hk e0 s2 G2 R2 f2 => ⟨_, rfl, ?_⟩))
  ·
    have hT2 := CT_cf (CT_told hT hS) hS f2
    have hS2 := f2.inn hS
    have e2 : rA s2 = rA s := f2.1
    rw [← e2]
    refine r_puti  dX9_link_16 ft_8_44 R2 rfl (hS2 _ _ rfl) rfl (lb rfl) (fun h => by cases h) rfl rfl (fun G1 R1 => ?_)
    refine w_aload_n dX9_link_19 rfl ?_
    refine r_geti  dX9_link_20 ft_8_44 R1 rfl (hS2 _ _ rfl) rfl (lb rfl) sX_s ?_
    refine w_iconst (v := (-1)) dX9_link_23 (by decide) ?_
    refine w_icmp_eq (t := 29) dX9_link_24 rfl (fun h24 => ?_) (fun h => absurd rfl h)
    refine w_aload_n dX9_link_29 rfl ?_
    refine r_getr  dX9_link_30 ft_8_26 R1 rfl (hS2 _ _ rfl) rfl (lb rfl) (cT_s hT2 2 2 rfl) ?_
    refine w_aload_n dX9_link_33 rfl ?_
    refine r_getr  dX9_link_34 ft_8_10 R1 rfl (hS2 _ _ rfl) rfl (lb rfl) (cT_s hT2 2 0 rfl) ?_
    refine w_aload_n dX9_link_37 rfl ?_
    refine r_getr  dX9_link_38 ft_8_19 R1 rfl (hS2 _ _ rfl) rfl (lb rfl) (cT_s hT2 2 1 rfl) ?_
    refine r_inv2  dX9_link_41 mt_8_169 R1 rfl (hS2 _ _ rfl) rfl (lb rfl) (lb rfl) (lb rfl) (lb rfl) rfl (c1_find (s := (sX s2 2 0 7 (.inl (.int (-1))))) R1 hS2 (CT_X hT2 hS2) hV hE n2 (fun s4 G4 R4 f4 k4 => ⟨_, rfl, ?_⟩))
    have hvR := (kR_cl hV).2
    have hlen := kV_len hvR
    have hT4 := CT_kf (CT_X hT2 hS2) hS2 f4 k4 (by omega)
    have hS4 := f4.inn hS2
    have n3 : NC (sX s2 2 0 7 (.inl (.int (-1)))) τ := n2
    have d4 : KD E s4 τ := ⟨NC_kf n3 f4, k4⟩
    have e4 : rA s4 = rA s2 := f4.1
    rw [← e4]
    refine w_aload_n dX9_link_44 rfl ?_
    refine r_getr  dX9_link_45 ft_8_33 R4 rfl (hS4 _ _ rfl) rfl (lb rfl) (cT_s hT4 2 3 rfl) ?_
    refine w_aload_n dX9_link_48 rfl ?_
    refine r_getr  dX9_link_49 ft_8_10 R4 rfl (hS4 _ _ rfl) rfl (lb rfl) (cT_s hT4 2 0 rfl) ?_
    refine r_getr  dX9_link_52 ft_8_62 R4 rfl (hS4 _ _ rfl) rfl (lb rfl) (cT_s hT4 3 0 rfl) ?_
    refine w_iload_n dX9_link_55 rfl ?_
    refine r_inv2  dX9_link_56 mt_8_173 R4 rfl (hS4 _ _ rfl) rfl (lb rfl) (lb rfl) (lb rfl) (lb rfl) rfl (c0_find (s := s4) R4 hS4 hT4 hV hE d4 (w := w) (fun s5 G5 R5 f5 o5 c5 => ⟨_, rfl, ?_⟩))
    have hT5 := CT_cf hT4 hS4 f5
    have hS5 := f5.inn hS4
    have F5 : FD E s5 τ w := ⟨KD_cf d4 f5, o5⟩
    have e5 : rA s5 = rA s4 := f5.1
    rw [← e5]
    refine w_aload_n dX9_link_59 rfl ?_
    refine w_iconst (v := 1) dX9_link_60 (by decide) ?_
    refine r_puti  dX9_link_61 ft_8_176 R5 rfl (hS5 _ _ rfl) rfl (lb rfl) (fun h => by cases h) rfl rfl (fun G2 R2 => ?_)
    refine w_aload_n dX9_link_64 rfl ?_
    refine r_inv0  dX9_link_65 mt_8_180 R2 rfl (hS5 _ _ rfl) rfl (lb rfl) (lb rfl) (lb rfl) (lb rfl) rfl (c9_before (s := (sX s5 2 0 5 (.inl (.int 1)))) R2 hS5 (CT_X hT5 hS5) hV (FD_b F5 (cf.rf wB s5).X) (fun s7 G7 R7 f7 g7 => ⟨_, rfl, ?_⟩))
    have hT7 := CT_cf (CT_X hT5 hS5) hS5 f7
    have hS7 := f7.inn hS5
    have F7 : FD E s7 τ w := FD_b (FD_b F5 (cf.rf wB s5).X) (f7.w wA_B)
    have x75 : rX s7 2 0 5 = .inl (.int 1) := (f7.2.2.1 2 5 0 rfl).trans sX_s
    have x76 : rX s7 2 0 6 = .inl (.int 0) := (f7.2.2.1 2 6 0 rfl).trans ((sX_p (by omega)).trans ((f5.2.2.1 2 6 0 rfl).trans ((f4.2.2.2.1 2 6 0 rfl).trans ((sX_p (by omega)).trans (f2.2.2.1 2 6 0 rfl)))))
    have x60 : rX s7 6 0 0 = .inl (.int (nI (cnt (fun x => (inO τ w x).isSome) (tN τ 1)))) := (f7.2.2.1 6 0 0 rfl).trans ((sX_p (by omega)).trans c5)
    have e7 : rA s7 = rA s5 := f7.1
    have ek : kn τ (some w) = some w := by unfold kn; rw [e0]; rfl
    rw [← e7]
    refine w_istore_n dX9_link_68 (lb rfl) ?_
    refine w_iload_n dX9_link_69 rfl ?_
    refine w_if_eq (t := 75) dX9_link_70 rfl (fun h70 => ?_) (fun h70 => ?_)
    ·
      have hW : W4 τ (tN τ 3) = (0, -1) := by
        rw [W4_eq] at h70 ⊢
        cases e2 : fst1 (F2B τ) (tN τ 4) with
        | some r => rw [e2] at h70; exact absurd h70 (show ¬ (2 : Int32) = 0 by decide)
        | none =>
          rw [e2] at h70
          cases e3 : fst1 (f3B τ) (tN τ 3) with
          | some r => rw [e3] at h70; exact absurd h70 (show ¬ (3 : Int32) = 0 by decide)
          | none =>
            rw [e3] at h70
            cases e4 : fst1 (f4B τ) (tN τ 3) with
            | some r => rw [e4] at h70; exact absurd h70 (show ¬ (4 : Int32) = 0 by decide)
            | none => rfl
      have hO : AO τ := f4_AO hV (W4_0 h70)
      refine w_aload_n dX9_link_75 rfl ?_
      refine r_getr  dX9_link_76 ft_8_40 R7 rfl (hS7 _ _ rfl) rfl (lb rfl) (cT_s hT7 2 4 rfl) ?_
      refine w_aload_n dX9_link_79 rfl ?_
      refine r_getr  dX9_link_80 ft_8_10 R7 rfl (hS7 _ _ rfl) rfl (lb rfl) (cT_s hT7 2 0 rfl) ?_
      refine r_inv1  dX9_link_83 mt_8_183 R7 rfl (hS7 _ _ rfl) rfl (lb rfl) (lb rfl) (lb rfl) (lb rfl) rfl (c3_run (s := s7) R7 hS7 hT7 hV F7 hE hO (fun s8 G8 R8 f8 v8 i8 l8 => ⟨_, rfl, ?_⟩))
      have hT8 := CT_cf hT7 hS7 f8
      have hS8 := f8.inn hS7
      have F8 := FD_cf F7 f8
      have e8 : rA s8 = rA s7 := f8.1
      rw [← e8]
      refine w_aload_n dX9_link_86 rfl ?_
      refine r_inv0  dX9_link_87 mt_8_187 R8 rfl (hS8 _ _ rfl) rfl (lb rfl) (lb rfl) (lb rfl) (lb rfl) rfl (c9_after (s := s8) R8 hS8 hT8 hV F8 hE hO hW i8 v8 l8 (fun s9 G9 R9 f9 g9 => ⟨_, rfl, ?_⟩))
      have hT9 := CT_cf hT8 hS8 f9
      have hS9 := f9.inn hS8
      have F9 := FD_b F8 (f9.w wA_B)
      have v9 := VC_b v8 (f9.w wA_B)
      have l9 := LO_b l8 (f9.w wA_B)
      have e9 : rA s9 = rA s8 := f9.1
      have el : lkR τ w = W6 τ w (vR τ w).1 (tN τ 3) := if_pos h70
      have ea : a_link τ w = (W6 τ w (vR τ w).1 (tN τ 3)).1 := by unfold a_link; rw [e0, el]
      have ef : a_fault τ (some w) = (W6 τ w (vR τ w).1 (tN τ 3)).2 := by show (match secO τ with | some k => nI k | none => (lkR τ w).2) = _; rw [e0]; show (lkR τ w).2 = _; rw [el]
      rw [ea] at q
      rw [← e9]
      refine w_istore_n dX9_link_90 (lb rfl) ?_
      refine w_aload_n dX9_link_91 rfl ?_
      refine w_iload_n dX9_link_92 rfl ?_
      refine r_if_neP (t := 100) dX9_link_93 rfl (fun h93 => ?_) (fun h93 => ?_)
      ·
        refine w_iconst (v := 0) dX9_link_100 (by decide) ?_
        refine r_puti  dX9_link_101 ft_8_190 R9 rfl (hS9 _ _ rfl) rfl (lb rfl) (fun h => by cases h) rfl rfl (fun G3 R3 => ?_)
        refine w_iload_n dX9_link_104 rfl ?_
        refine w_iret dX9_link_105 rfl rfl ?_
        have ei : im τ (some w) = none := by unfold im; rw [ek]; exact if_neg (by rw [el]; exact h93)
        refine q _ _ (rx_w R3 (by omega) (by omega)) ((((((((((((((tfr.rf s).X rfl).X rfl).X rfl : tfr s (g_told s)).tr f2.2.1).X rfl : tfr s (sX s2 2 0 7 (.inl (.int (-1))))).tr f4.2.1).tr f5.2.1).X rfl : tfr s (sX s5 2 0 5 (.inl (.int 1)))).tr f7.2.1).tr f8.2.1).tr f9.2.1).X rfl : tfr s _).g) ⟨CT_X hT9 hS9, (sX_p (by omega)).trans (g9.trans (by rw [ef])), fun h9 => (by rw [ek] at h9; cases h9), fun w9 h9 => (by rw [ek] at h9; cases h9; exact ⟨(sX_p (by omega)).trans ((f9.2.2.1 2 5 0 rfl).trans ((f8.2.2.1 2 5 0 rfl).trans x75)), FD_b F9 (cf.rf wB s9).X, (sX_p (by omega)).trans ((f9.2.2.1 6 0 0 rfl).trans ((f8.2.2.1 6 0 0 rfl).trans x60))⟩), fun _ => sX_s, fun w9 h9 => (by rw [ei] at h9; cases h9)⟩
      ·
        refine w_iconst (v := 1) dX9_link_96 (by decide) ?_
        refine w_goto (t := 101) dX9_link_97 rfl ?_
        refine r_puti  dX9_link_101 ft_8_190 R9 rfl (hS9 _ _ rfl) rfl (lb rfl) (fun h => by cases h) rfl rfl (fun G4 R4 => ?_)
        refine w_iload_n dX9_link_104 rfl ?_
        refine w_iret dX9_link_105 rfl rfl ?_
        have ei : im τ (some w) = some w := by unfold im; rw [ek]; exact if_pos (by rw [el]; exact h93)
        refine q _ _ (rx_w R4 (by omega) (by omega)) ((((((((((((((tfr.rf s).X rfl).X rfl).X rfl : tfr s (g_told s)).tr f2.2.1).X rfl : tfr s (sX s2 2 0 7 (.inl (.int (-1))))).tr f4.2.1).tr f5.2.1).X rfl : tfr s (sX s5 2 0 5 (.inl (.int 1)))).tr f7.2.1).tr f8.2.1).tr f9.2.1).X rfl : tfr s _).g) ⟨CT_X hT9 hS9, (sX_p (by omega)).trans (g9.trans (by rw [ef])), fun h9 => (by rw [ek] at h9; cases h9), fun w9 h9 => (by rw [ek] at h9; cases h9; exact ⟨(sX_p (by omega)).trans ((f9.2.2.1 2 5 0 rfl).trans ((f8.2.2.1 2 5 0 rfl).trans x75)), FD_b F9 (cf.rf wB s9).X, (sX_p (by omega)).trans ((f9.2.2.1 6 0 0 rfl).trans ((f8.2.2.1 6 0 0 rfl).trans x60))⟩), fun h9 => (by rw [ei] at h9; cases h9), fun w9 h9 => (by rw [ei] at h9; cases h9; exact ⟨sX_s, hO, VC_b v9 (cf.rf wB s9).X, i8, LO_b l9 (cf.rf wB s9).X⟩)⟩
    ·
      refine w_iload_n dX9_link_73 rfl ?_
      refine w_iret dX9_link_74 rfl rfl ?_
      have el : lkR τ w = W4 τ (tN τ 3) := if_neg h70
      have ea : a_link τ w = (W4 τ (tN τ 3)).1 := by unfold a_link; rw [e0, el]
      have ef : a_fault τ (some w) = (W4 τ (tN τ 3)).2 := by show (match secO τ with | some k => nI k | none => (lkR τ w).2) = _; rw [e0]; show (lkR τ w).2 = _; rw [el]
      have ei : im τ (some w) = none := by unfold im; rw [ek]; exact if_neg (by rw [el]; exact h70)
      rw [ea] at q
      refine q _ _ (rx_w R7 (by omega) (by omega)) (((((((((((tfr.rf s).X rfl).X rfl).X rfl : tfr s (g_told s)).tr f2.2.1).X rfl : tfr s (sX s2 2 0 7 (.inl (.int (-1))))).tr f4.2.1).tr f5.2.1).X rfl : tfr s (sX s5 2 0 5 (.inl (.int 1)))).tr f7.2.1).g) ⟨hT7, g7.trans (by rw [ef]), fun h9 => (by rw [ek] at h9; cases h9), fun w9 h9 => (by rw [ek] at h9; cases h9; exact ⟨x75, F7, x60⟩), fun _ => x76, fun w9 h9 => (by rw [ei] at h9; cases h9)⟩
  ·
    have hT2 := CT_cf (CT_told hT hS) hS f2
    have hS2 := f2.inn hS
    have e2 : rA s2 = rA s := f2.1
    rw [← e2]
    refine r_puti  dX9_link_16 ft_8_44 R2 rfl (hS2 _ _ rfl) rfl (lb rfl) (fun h => by cases h) rfl rfl (fun G5 R5 => ?_)
    refine w_aload_n dX9_link_19 rfl ?_
    refine r_geti  dX9_link_20 ft_8_44 R5 rfl (hS2 _ _ rfl) rfl (lb rfl) sX_s ?_
    refine w_iconst (v := (-1)) dX9_link_23 (by decide) ?_
    refine w_icmp_eq (t := 29) dX9_link_24 rfl (fun h => absurd h (nI_m1 (by omega))) (fun h24 => ?_)
    refine w_iconst (v := 1) dX9_link_27 (by decide) ?_
    refine w_iret dX9_link_28 rfl rfl ?_
    have ea : a_link τ w = 1 := by unfold a_link; rw [e0]
    have ef : a_fault τ (some w) = nI k := by unfold a_fault; rw [e0]
    have ek : kn τ (some w) = none := by unfold kn; rw [e0]; rfl
    have ei : im τ (some w) = none := by unfold im; rw [ek]
    rw [ea] at q
    refine q _ _ (rx_w R5 (by omega) (by omega)) (((((((tfr.rf s).X rfl).X rfl).X rfl : tfr s (g_told s)).tr f2.2.1).X rfl : tfr s _).g) ⟨CT_X hT2 hS2, sX_s.trans (by rw [ef]), fun _ => (sX_p (by omega)).trans (f2.2.2.1 2 5 0 rfl), fun w9 h9 => (by rw [ek] at h9; cases h9), fun _ => (sX_p (by omega)).trans (f2.2.2.1 2 6 0 rfl), fun w9 h9 => (by rw [ei] at h9; cases h9)⟩
end
