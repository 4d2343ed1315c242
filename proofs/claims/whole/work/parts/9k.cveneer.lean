/-! ===== The class's veneers ===== -/
def vw (r f : Nat) : Bool := (Nat.beq r 20 && Nat.beq f 19) || ((Nat.beq r 7 && Nat.beq f 6) || (Nat.beq r 25 && Nat.beq f 5))
def vfr (s s' : rx_S) : Prop := (∀ r f i, vw r f = false → rX s' r i f = rX s r i f) ∧ rL s' = rL s ∧ rI s' = rI s
theorem vfr.rf (s : rx_S) : vfr s s := ⟨fun _ _ _ _ => rfl, rfl, rfl⟩
theorem vfr.tr {s s' s'' : rx_S} (h : vfr s s') (h' : vfr s' s'') : vfr s s'' := ⟨fun r f i e => (h'.1 r f i e).trans (h.1 r f i e), h'.2.1.trans h.2.1, h'.2.2.trans h.2.2⟩
theorem vfr.X {s s' : rx_S} (h : vfr s s') {r i f : Nat} {v : rx_V} (hw : vw r f = true := by rfl) : vfr s (sX s' r i f v) := ⟨fun r' f' i' e => (sX_p (fun q => by rw [q.1, q.2.2, hw] at e; cases e)).trans (h.1 r' f' i' e), h.2⟩
/-- what a layout has found -/
def LO (s : rx_S) (τ : tx_T) (w : Bool) (V : List (Nat × Nat)) (tm : Nat) : Prop := PC s τ w V ∧ EK s τ w V 4 ∧ ES s τ w V ∧ rX s 7 0 5 = .inl (.int (nI tm))
theorem LO_v {s s' : rx_S} {τ : tx_T} {w : Bool} {V : List (Nat × Nat)} {tm : Nat} (h : LO s τ w V tm) (f : vfr s s') : LO s' τ w V tm := by
  obtain ⟨h1, h2, h3, h4⟩ := h
  refine ⟨fun x hx hp => (f.1 20 18 x rfl).trans (h1 x hx hp), fun k hk => ?_, fun g hg => ?_, (f.1 7 5 0 rfl).trans h4⟩
  · rw [f.2.1, f.2.2]; exact h2 k hk
  · rw [f.2.1]; exact h3 g hg
theorem VI_need {τ : tx_T} {w : Bool} {S : vS} (h : VI τ w S) {x k : Nat} (hx : x < tN τ 1) (hk : k < tN τ 3) (hr : tT τ 21 k = nI x) (hcx : cl (tT τ 21 k) = x) (hn : S.2 k = none) (h3 : tT τ 23 k = 3) (hp : plB τ w x = true) : VI τ w (vneed τ S x k) := ⟨vV_need h.1 hx hk hr hn, vQ_need h.2.1 hr, vU_need h.2.2.1, vT_need h.2.2.2 h3 (by rw [hcx]; exact hp)⟩
section
variable {b0 mi z1 z2 : Nat} {E : Nat → Nat} {O : Nat → Option mx_C} {s : rx_S} {G : mx_H} {Q : mx_O → mx_H → Prop}
theorem c3_dv1 {s0 : rx_S} {τ : tx_T} (hT0 : CT E s0 τ) (hS0 : rx_in s0) (hV : TV τ) (hE : WE b0 O E) {w : Bool} (hF0 : FD E s0 τ w)  : ∀ (d : Nat) (t : Nat) (L : mx_L) (s : rx_S) (G : mx_H), tN τ 1 - t < d → rx_R b0 O z1 z2 s G → t ≤ tN τ 1 → cf wP s0 s → (∀ x, x < t → rX s 20 x 19 = .inl (.int 0)) → (rX s 7 0 5 = .inl (.int 0) ∧ rX s 7 0 6 = .inl (.int 0)) → L 1 = some (.ref (rA s 3 0)) → L 2 = some (.int (nI t)) → (∀ (L : mx_L) (s : rx_S) (G : mx_H), rx_R b0 O z1 z2 s G → cf wP s0 s → (∀ x, x < tN τ 1 → rX s 20 x 19 = .inl (.int 0)) → (rX s 7 0 5 = .inl (.int 0) ∧ rX s 7 0 6 = .inl (.int 0)) → L 1 = some (.ref (rA s 3 0)) → mx_W (gt_P b0 mi E) mX3_dropVeneers 34 L [] G Q) → mx_W (gt_P b0 mi E) mX3_dropVeneers 2 L [] G Q := by
  intro d
  induction d with
  | zero => intro t L s G hd; exact absurd hd (Nat.not_lt_zero _)
  | succ d ih =>
    intro t L s G hd R ht hf hz h56 h1 h2 kx
    have hV0 := hV.1
    have hT := CT_cf hT0 hS0 hf
    have hS := hf.inn hS0
    have hF := FD_cf hF0 hf
    refine w_iload_n dX3_dropVeneers_2 h2 ?_
    refine w_aload_n dX3_dropVeneers_3 h1 ?_
    refine r_getr  dX3_dropVeneers_4 ft_3_42 R rfl (hS _ _ rfl) rfl (lb rfl) (cT_s hT 3 0 rfl) ?_
    refine r_inv0  dX3_dropVeneers_7 mt_3_52 R rfl (hS _ _ rfl) rfl (lb rfl) (lb rfl) (lb rfl) (lb rfl) rfl (c_lsize R rfl (hS _ _ rfl) (cT_l0 hT).2.1 ⟨_, rfl, ?_⟩)
    refine r_icmp_gen (t := 34) dX3_dropVeneers_10 rfl (by omega) (by omega) (fun h10 => ?_) (fun h10 => ?_)
    ·
      obtain rfl : t = tN τ 1 := by omega
      exact kx _ _ _ R hf hz h56 h1
    ·
      have htn : t < tN τ 1 := by omega
      have hus := cT_Su hT htn
      refine w_aload_n dX3_dropVeneers_13 h1 ?_
      refine r_getr  dX3_dropVeneers_14 ft_3_42 R rfl (hS _ _ rfl) rfl (lb rfl) (cT_s hT 3 0 rfl) ?_
      refine w_iload_n dX3_dropVeneers_17 h2 ?_
      refine r_inv1  dX3_dropVeneers_18 mt_3_58 R rfl (hS _ _ rfl) rfl (lb rfl) (lb rfl) (lb rfl) (lb rfl) rfl (c_lget R rfl (hS _ _ rfl) (cT_l0 hT) htn ⟨_, rfl, ?_⟩)
      refine r_cast dX3_dropVeneers_21 qt_3_69 R rfl hus rfl (by decide) ?_
      refine w_iconst (v := 0) dX3_dropVeneers_24 (by decide) ?_
      refine r_puti  dX3_dropVeneers_25 ft_3_127 R rfl hus rfl (lb rfl) (fun h => by cases h) rfl rfl (fun G1 R1 => ?_)
      refine w_iinc dX3_dropVeneers_28 h2 (nI_1 _) (lb rfl) ?_
      refine w_goto (t := 2) dX3_dropVeneers_31 rfl ?_
      exact ih (t + 1) _ _ _ (by omega) R1 (by omega) hf.X (fun x hx => by
        by_cases e : x = t
        · rw [e]; exact sX_s
        · exact (sX_p (by omega)).trans (hz x (by omega))) ⟨(sX_p (by omega)).trans h56.1, (sX_p (by omega)).trans h56.2⟩ h1 rfl kx
theorem c3_dv2 {s0 : rx_S} {τ : tx_T} (hT0 : CT E s0 τ) (hS0 : rx_in s0) (hV : TV τ) (hE : WE b0 O E) {w : Bool} (hF0 : FD E s0 τ w)  : ∀ (d : Nat) (t : Nat) (L : mx_L) (s : rx_S) (G : mx_H), tN τ 3 - t < d → rx_R b0 O z1 z2 s G → t ≤ tN τ 3 → cf wP s0 s → (∀ x, x < tN τ 1 → rX s 20 x 19 = .inl (.int 0)) → (rX s 7 0 5 = .inl (.int 0) ∧ rX s 7 0 6 = .inl (.int 0)) → (∀ k, k < t → rX s 25 k 5 = .inl (.int (-1))) → L 1 = some (.ref (rA s 3 0)) → L 2 = some (.int (nI t)) → (∀ (s' : rx_S) (G' : mx_H), rx_R b0 O z1 z2 s' G' → cf wP s0 s' → VC s' τ ([], fun _ => none) → rX s' 7 0 5 = .inl (.int (nI 0)) → Q (.inl none) G') → mx_W (gt_P b0 mi E) mX3_dropVeneers 36 L [] G Q := by
  intro d
  induction d with
  | zero => intro t L s G hd; exact absurd hd (Nat.not_lt_zero _)
  | succ d ih =>
    intro t L s G hd R ht hf hz h56 hr h1 h2 kx
    have hV0 := hV.1
    have hT := CT_cf hT0 hS0 hf
    have hS := hf.inn hS0
    have hF := FD_cf hF0 hf
    refine w_iload_n dX3_dropVeneers_36 h2 ?_
    refine w_aload_n dX3_dropVeneers_37 h1 ?_
    refine r_getr  dX3_dropVeneers_38 ft_3_130 R rfl (hS _ _ rfl) rfl (lb rfl) (cT_s hT 3 2 rfl) ?_
    refine r_inv0  dX3_dropVeneers_41 mt_3_52 R rfl (hS _ _ rfl) rfl (lb rfl) (lb rfl) (lb rfl) (lb rfl) rfl (c_lsize R rfl (hS _ _ rfl) (cT_l2 hT).2.1 ⟨_, rfl, ?_⟩)
    refine r_icmp_gen (t := 68) dX3_dropVeneers_44 rfl (by omega) (by omega) (fun h44 => ?_) (fun h44 => ?_)
    ·
      refine w_ret dX3_dropVeneers_68 rfl ?_
      obtain rfl : t = tN τ 3 := by omega
      exact kx _ _ R hf ⟨hz, hr, h56.2⟩ h56.1
    ·
      have htn : t < tN τ 3 := by omega
      have hur := cT_Ru hT htn
      refine w_aload_n dX3_dropVeneers_47 h1 ?_
      refine r_getr  dX3_dropVeneers_48 ft_3_130 R rfl (hS _ _ rfl) rfl (lb rfl) (cT_s hT 3 2 rfl) ?_
      refine w_iload_n dX3_dropVeneers_51 h2 ?_
      refine r_inv1  dX3_dropVeneers_52 mt_3_58 R rfl (hS _ _ rfl) rfl (lb rfl) (lb rfl) (lb rfl) (lb rfl) rfl (c_lget R rfl (hS _ _ rfl) (cT_l2 hT) htn ⟨_, rfl, ?_⟩)
      refine r_cast dX3_dropVeneers_55 qt_3_62 R rfl hur rfl (by decide) ?_
      refine w_iconst (v := (-1)) dX3_dropVeneers_58 (by decide) ?_
      refine r_puti  dX3_dropVeneers_59 ft_3_133 R rfl hur rfl (lb rfl) (fun h => by cases h) rfl rfl (fun G1 R1 => ?_)
      refine w_iinc dX3_dropVeneers_62 h2 (nI_1 _) (lb rfl) ?_
      refine w_goto (t := 36) dX3_dropVeneers_65 rfl ?_
      exact ih (t + 1) _ _ _ (by omega) R1 (by omega) hf.X (fun x hx => (sX_p (by omega)).trans (hz x hx)) ⟨(sX_p (by omega)).trans h56.1, (sX_p (by omega)).trans h56.2⟩ (fun k hk => by
        by_cases e : k = t
        · rw [e]; exact sX_s
        · exact (sX_p (by omega)).trans (hr k (by omega))) h1 rfl kx
theorem c3_drop {s0 : rx_S} {τ : tx_T} (hT0 : CT E s0 τ) (hS0 : rx_in s0) (hV : TV τ) (hE : WE b0 O E) {w : Bool} (hF0 : FD E s0 τ w) (R : rx_R b0 O z1 z2 s G) (hf : cf wP s0 s) (h56 : rX s 7 0 5 = .inl (.int 0) ∧ rX s 7 0 6 = .inl (.int 0)) (q : ∀ (s' : rx_S) (G' : mx_H), rx_R b0 O z1 z2 s' G' → cf wP s0 s' → VC s' τ ([], fun _ => none) → rX s' 7 0 5 = .inl (.int (nI 0)) → Q (.inl none) G') : mx_W (gt_P b0 mi E) mX3_dropVeneers 0 (mx_en 0 [.ref (rA s 7 0), .ref (rA s 3 0)]) [] G Q := by
  refine w_iconst (v := nI 0) dX3_dropVeneers_0 (by decide) ?_
  refine w_istore_n dX3_dropVeneers_1 (lb rfl) ?_
  refine c3_dv1 hT0 hS0 hV hE hF0 _ 0 _ s _ (Nat.lt_succ_self _) R (Nat.zero_le _) hf (fun x hx => absurd hx (Nat.not_lt_zero _)) h56 rfl rfl (fun L2 s2 G2 R2 f2 z2' g2 h1 => ?_)
  refine w_iconst (v := nI 0) dX3_dropVeneers_34 (by decide) ?_
  refine w_istore_n dX3_dropVeneers_35 (lb rfl) ?_
  exact c3_dv2 hT0 hS0 hV hE hF0 _ 0 _ s2 _ (Nat.lt_succ_self _) R2 (Nat.zero_le _) f2 z2' g2 (fun k hk => absurd hk (Nat.not_lt_zero _)) h1 rfl q
theorem c3_vf_l {s : rx_S} {G : mx_H} (R : rx_R b0 O z1 z2 s G) (hS : rx_in s) {τ : tx_T} (hT : CT E s τ) (hV : TV τ) {w : Bool} (hF : FD E s τ w) {S : vS} (hvi : VI τ w S) (hv : VC s τ S) {x k : Nat} (hx : x < tN τ 1) (hk : k < tN τ 3) (hkx : tT τ 21 k = nI x) (q : ∀ (s' : rx_S) (G' : mx_H), rx_R b0 O z1 z2 s' G' → cf wP s s' → vfr s s' → (∀ y, y < tN τ 1 → rX s' 20 y 19 = .inl (.int (nI (nvN (vneed τ S x k).1 y)))) → (∀ j, rX s' 25 j 5 = rX s 25 j 5) → rX s' 7 0 6 = .inl (.int (nI (vneed τ S x k).1.length)) → Q (.inl (some (.int (vnI τ (vneed τ S x k) k)))) G') : ∀ (d : Nat) (t : Nat) (L : mx_L), rlN τ x - t < d → t ≤ rlN τ x → (∀ j, j < t → tT τ 25 (rlG τ x j) = tT τ 25 k → saB τ (cl (tT τ 24 (rlG τ x j))) (cl (tT τ 24 k)) = true → S.2 (rlG τ x j) = none) → L 0 = some (.ref (rA s 7 0)) → L 1 = some (.ref (rA s 20 x)) → L 2 = some (.ref (rA s 25 k)) → L 3 = some (.int (nI t)) → mx_W (gt_P b0 mi E) mX3_veneerFor 2 L [] G Q := by
  intro d
  induction d with
  | zero => intro t L hd; exact absurd hd (Nat.not_lt_zero _)
  | succ d ih =>
    intro t L hd ht hb h0 h1 h2 h3
    have hV0 := hV.1
    have hN := hF.1.1
    have hrx : rlN τ x ≤ 200 := Nat.le_trans (cnt_le _ _) hV0.2.2.2.1
    have rk := hV.2.2.2.1 k hk
    have cyk := clI rk.2.2.2.1.1
    have hyk : cl (tT τ 24 k) < tN τ 2 := by omega
    have nyk := hN.2.2 _ hyk
    have hln := vV_len hvi.1
    refine w_iload_n dX3_veneerFor_2 h3 ?_
    refine w_aload_n dX3_veneerFor_3 h1 ?_
    refine r_getr  dX3_veneerFor_4 ft_3_196 R rfl (cT_Su hT hx) rfl (lb rfl) (cT_S hT hx 6 rfl) ?_
    refine r_inv0  dX3_veneerFor_7 mt_3_52 R rfl (cT_Lu hT hx) rfl (lb rfl) (lb rfl) (lb rfl) (lb rfl) rfl (c_lsize R rfl (cT_Lu hT hx) (cT_l hT hx).2.1 ⟨_, rfl, ?_⟩)
    refine r_icmp_gen (t := 86) dX3_veneerFor_10 rfl (by omega) (by omega) (fun h10 => ?_) (fun h10 => ?_)
    ·
      refine w_aload_n dX3_veneerFor_86 h1 ?_
      refine w_dup dX3_veneerFor_87 rfl ?_
      refine r_geti  dX3_veneerFor_88 ft_3_127 R rfl (cT_Su hT hx) rfl (lb rfl) (hv.1 x hx) ?_
      refine w_iconst (v := 1) dX3_veneerFor_91 (by decide) ?_
      refine w_iadd dX3_veneerFor_92 ?_
      rw [nI_1]
      refine r_puti  dX3_veneerFor_93 ft_3_127 R rfl (cT_Su hT hx) rfl (lb rfl) (fun h => by cases h) rfl rfl (fun G1 R1 => ?_)
      refine w_aload_n dX3_veneerFor_96 h0 ?_
      refine w_dup dX3_veneerFor_97 rfl ?_
      refine r_geti  dX3_veneerFor_98 ft_3_32 R1 rfl (hS _ _ rfl) rfl (lb rfl) ((sX_p (by omega)).trans hv.2.2) ?_
      refine w_iconst (v := 1) dX3_veneerFor_101 (by decide) ?_
      refine w_iadd dX3_veneerFor_102 ?_
      rw [nI_1]
      refine r_puti  dX3_veneerFor_103 ft_3_32 R1 rfl (hS 7 0 rfl) rfl (lb rfl) (fun h => by cases h) rfl rfl (fun G2 R2 => ?_)
      refine w_aload_n dX3_veneerFor_106 h1 ?_
      refine r_geti  dX3_veneerFor_107 ft_3_127 R2 rfl (cT_Su hT hx) rfl (lb rfl) ((sX_p (by omega)).trans sX_s) ?_
      refine w_iconst (v := 1) dX3_veneerFor_110 (by decide) ?_
      refine w_isub dX3_veneerFor_111 ?_
      rw [nI_pred]
      refine w_iret dX3_veneerFor_112 rfl rfl ?_
      have ef : fst1 (vmB τ S.1 x k) S.1.length = none := vf_none hvi.1 (fun o ho hox h25 hsa => by
        have hr : rlB τ x o = true := by unfold rlB; rw [hox]; simp
        obtain ⟨r1, r2⟩ := rlG_cnt ho hr
        have := hb (cnt (rlB τ x) o) (by omega)
        rw [r1] at this
        exact this h25 hsa)
      have en := vn_new hvi.1 (show cl (tT τ 21 k) = x by rw [hkx]; exact nI_clamp (by omega)) ef
      rw [en.1] at q
      refine q _ _ R2 (cf.rf wP s).X.X (vfr.rf s).X.X (fun y hy => ?_) (fun j => (sX_p (by omega)).trans (sX_p (by omega))) (sX_s.trans (by rw [en.2.2]; simp))
      rw [en.2.2, nv_app]
      by_cases e : y = x
      · rw [e, if_pos rfl]; exact (sX_p (by omega)).trans sX_s
      · rw [if_neg e]; exact (sX_p (by omega)).trans ((sX_p (by omega)).trans (hv.1 y hy))
    ·
      have htn : t < rlN τ x := by omega
      obtain ⟨o, eo⟩ : ∃ o, rlG τ x t = o := ⟨_, rfl⟩
      have ho : o < tN τ 3 := by rw [← eo]; exact (rlG_lt htn).2.1
      have hox : tT τ 21 o = nI x := by rw [← eo]; exact (rlG_lt htn).2.2
      have ro := hV.2.2.2.1 o ho
      have cyo := clI ro.2.2.2.1.1
      have hyo : cl (tT τ 24 o) < tN τ 2 := by omega
      have nyo := hN.2.2 _ hyo
      refine w_aload_n dX3_veneerFor_13 h1 ?_
      refine r_getr  dX3_veneerFor_14 ft_3_196 R rfl (cT_Su hT hx) rfl (lb rfl) (cT_S hT hx 6 rfl) ?_
      refine w_iload_n dX3_veneerFor_17 h3 ?_
      refine r_inv1  dX3_veneerFor_18 mt_3_58 R rfl (cT_Lu hT hx) rfl (lb rfl) (lb rfl) (lb rfl) (lb rfl) rfl (c_lget R rfl (cT_Lu hT hx) (cT_l hT hx) htn ⟨_, rfl, ?_⟩)
      show mx_W _ _ _ _ (.ref (rA s 25 (rlG τ x t)) :: _) _ _
      rw [eo]
      refine r_cast dX3_veneerFor_21 qt_3_62 R rfl (cT_Ru hT ho) rfl (by decide) ?_
      refine w_astore dX3_veneerFor_24 (lb rfl) ?_
      refine w_aload dX3_veneerFor_26 rfl ?_
      refine r_geti  dX3_veneerFor_28 ft_3_204 R rfl (cT_Ru hT ho) rfl (lb rfl) (cT_R hT ho 4 (lb rfl)) ?_
      refine w_aload_n dX3_veneerFor_31 h2 ?_
      refine r_geti  dX3_veneerFor_32 ft_3_204 R rfl (cT_Ru hT hk) rfl (lb rfl) (cT_R hT hk 4 (lb rfl)) ?_
      refine r_icmp_neP (t := 57) dX3_veneerFor_35 rfl (fun h35 => ?_) (fun h35 => ?_)
      ·
        refine w_iconst (v := 0) dX3_veneerFor_57 (by decide) ?_
        refine w_istore dX3_veneerFor_58 (lb rfl) ?_
        refine w_iload dX3_veneerFor_60 rfl ?_
        refine w_if_eq (t := 80) dX3_veneerFor_62 rfl (fun _ => ?_) (fun h => absurd (by decide) h)
        refine w_iinc dX3_veneerFor_80 h3 (nI_1 _) (lb rfl) ?_
        refine w_goto (t := 2) dX3_veneerFor_83 rfl ?_
        exact ih (t + 1) _ (by omega) (by omega) (fun i hi => by
          by_cases e : i = t
          · subst e
            rw [eo]; intro e; exact absurd e h35
          · exact hb i (by omega)) h0 h1 h2 rfl
      ·
        refine w_aload dX3_veneerFor_38 rfl ?_
        refine r_getr  dX3_veneerFor_40 ft_3_207 R rfl (cT_Ru hT ho) rfl (lb rfl) (cT_R hT ho 3 (lb rfl)) ?_
        refine w_aload_n dX3_veneerFor_43 h2 ?_
        refine r_getr  dX3_veneerFor_44 ft_3_207 R rfl (cT_Ru hT hk) rfl (lb rfl) (cT_R hT hk 3 (lb rfl)) ?_
        refine r_inv1  dX3_veneerFor_47 mt_3_211 R rfl (cT_Yu hT hyo) rfl (lb rfl) (lb rfl) (lb rfl) (lb rfl) rfl (c6_same R (cT_Yu hT hyo) (cT_Yu hT hyk) (cT_Y hT hyo 5 (lb rfl)) (cT_Y hT hyo 6 (lb rfl)) nyo.2 (cT_Y hT hyk 5 (lb rfl)) (cT_Y hT hyk 6 (lb rfl)) nyk.2 nyo.1 nyk.1 (fun e47 => ⟨_, rfl, ?_⟩) (fun e47 => ⟨_, rfl, ?_⟩))
        ·
          refine w_if_eq (t := 57) dX3_veneerFor_50 rfl (fun h => absurd h (by decide)) (fun _ => ?_)
          refine w_iconst (v := 1) dX3_veneerFor_53 (by decide) ?_
          refine w_goto (t := 58) dX3_veneerFor_54 rfl ?_
          refine w_istore dX3_veneerFor_58 (lb rfl) ?_
          refine w_iload dX3_veneerFor_60 rfl ?_
          refine w_if_eq (t := 80) dX3_veneerFor_62 rfl (fun h => absurd h (by decide)) (fun _ => ?_)
          refine w_aload dX3_veneerFor_65 rfl ?_
          refine r_geti  dX3_veneerFor_67 ft_3_133 R rfl (cT_Ru hT ho) rfl (lb rfl) (hv.2.1 o ho) ?_
          refine w_iconst (v := (-1)) dX3_veneerFor_70 (by decide) ?_
          refine w_icmp_eq (t := 80) dX3_veneerFor_71 rfl (fun h71 => ?_) (fun h71 => ?_)
          ·
            refine w_iinc dX3_veneerFor_80 h3 (nI_1 _) (lb rfl) ?_
            refine w_goto (t := 2) dX3_veneerFor_83 rfl ?_
            exact ih (t + 1) _ (by omega) (by omega) (fun i hi => by
              by_cases e : i = t
              · subst e
                rw [eo]; intro _ _; exact (vnI_none (by omega) o).mp h71
              · exact hb i (by omega)) h0 h1 h2 rfl
          ·
            refine w_aload dX3_veneerFor_74 rfl ?_
            refine r_geti  dX3_veneerFor_76 ft_3_133 R rfl (cT_Ru hT ho) rfl (lb rfl) (hv.2.1 o ho) ?_
            refine w_iret dX3_veneerFor_79 rfl rfl ?_
            obtain ⟨i, ei⟩ : ∃ i, S.2 o = some i := by
              cases e : S.2 o with
              | none => exact absurd ((vnI_none (by omega) o).mpr e) h71
              | some i => exact ⟨i, rfl⟩
            have ef := vf_some hvi.2.1 hvi.2.2.1 hox (by omega) (fun i hi => by have := (hvi.1.1 i hi).1; omega) h35 ((ha_iff hV hyo hyk).mp e47) ei
            have en := vn_old ef
            have e9 : vnI τ (vneed τ S x k) k = vnI τ S o := by unfold vnI; rw [en.2.2, ei, en.2.1, hkx, hox]
            rw [e9] at q
            exact q _ _ R (cf.rf wP s) (vfr.rf s) (fun y hy => by rw [en.2.1]; exact hv.1 y hy) (fun _ => rfl) (by rw [en.2.1]; exact hv.2.2)
        ·
          refine w_if_eq (t := 57) dX3_veneerFor_50 rfl (fun _ => ?_) (fun h => absurd (by decide) h)
          refine w_iconst (v := 0) dX3_veneerFor_57 (by decide) ?_
          refine w_istore dX3_veneerFor_58 (lb rfl) ?_
          refine w_iload dX3_veneerFor_60 rfl ?_
          refine w_if_eq (t := 80) dX3_veneerFor_62 rfl (fun _ => ?_) (fun h => absurd (by decide) h)
          refine w_iinc dX3_veneerFor_80 h3 (nI_1 _) (lb rfl) ?_
          refine w_goto (t := 2) dX3_veneerFor_83 rfl ?_
          exact ih (t + 1) _ (by omega) (by omega) (fun i hi => by
            by_cases e : i = t
            · subst e
              rw [eo]; intro _ e; exact absurd ((ha_iff hV hyo hyk).mpr e) e47
            · exact hb i (by omega)) h0 h1 h2 rfl
theorem c3_vf (R : rx_R b0 O z1 z2 s G) (hS : rx_in s) {τ : tx_T} (hT : CT E s τ) (hV : TV τ) {w : Bool} (hF : FD E s τ w) {S : vS} (hvi : VI τ w S) (hv : VC s τ S) {x k : Nat} (hx : x < tN τ 1) (hk : k < tN τ 3) (hkx : tT τ 21 k = nI x) (q : ∀ (s' : rx_S) (G' : mx_H), rx_R b0 O z1 z2 s' G' → cf wP s s' → vfr s s' → (∀ y, y < tN τ 1 → rX s' 20 y 19 = .inl (.int (nI (nvN (vneed τ S x k).1 y)))) → (∀ j, rX s' 25 j 5 = rX s 25 j 5) → rX s' 7 0 6 = .inl (.int (nI (vneed τ S x k).1.length)) → Q (.inl (some (.int (vnI τ (vneed τ S x k) k)))) G')  : mx_W (gt_P b0 mi E) mX3_veneerFor 0 (mx_en 0 [.ref (rA s 7 0), .ref (rA s 20 x), .ref (rA s 25 k)]) [] G Q := by
  refine w_iconst (v := nI 0) dX3_veneerFor_0 (by decide) ?_
  refine w_istore_n dX3_veneerFor_1 (lb rfl) ?_
  exact c3_vf_l R hS hT hV hF hvi hv hx hk hkx q _ 0 _ (Nat.lt_succ_self _) (Nat.zero_le _) (fun j hj => absurd hj (Nat.not_lt_zero _)) rfl rfl rfl rfl
theorem c3_ao_l {s0 : rx_S} {τ : tx_T} (hT0 : CT E s0 τ) (hS0 : rx_in s0) (hV : TV τ) (hE : WE b0 O E) {w : Bool} (hF0 : FD E s0 τ w) (hO : AO τ) {V : List (Nat × Nat)} (hvn : ∀ x, nvN V x ≤ 200) {tm : Nat} {x : Nat} (hx : x < tN τ 1) (hpl : plB τ w x = true) {S0 : vS}  : ∀ (d : Nat) (t : Nat) (L : mx_L) (s : rx_S) (G : mx_H), rlN τ x - t < d → rx_R b0 O z1 z2 s G → t ≤ rlN τ x → cf wP s0 s → VC s τ (fo (fun S j => vst2 τ w V x S (rlG τ x j)) S0 t) → VI τ w (fo (fun S j => vst2 τ w V x S (rlG τ x j)) S0 t) → LO s τ w V tm → L 0 = some (.ref (rA s 7 0)) → L 1 = some (.ref (rA s 20 x)) → L 2 = some (.int (nI t)) → (∀ (s' : rx_S) (G' : mx_H), rx_R b0 O z1 z2 s' G' → cf wP s0 s' → VC s' τ (fo (fun S j => vst2 τ w V x S (rlG τ x j)) S0 (rlN τ x)) → VI τ w (fo (fun S j => vst2 τ w V x S (rlG τ x j)) S0 (rlN τ x)) → LO s' τ w V tm → Q (.inl none) G') → mx_W (gt_P b0 mi E) mX3_addVeneersOf 2 L [] G Q := by
  intro d
  induction d with
  | zero => intro t L s G hd; exact absurd hd (Nat.not_lt_zero _)
  | succ d ih =>
    intro t L s G hd R ht hf hv hvi hLO h0 h1 h2 kx
    have hV0 := hV.1
    have hT := CT_cf hT0 hS0 hf
    have hS := hf.inn hS0
    have hF := FD_cf hF0 hf
    have hrx : rlN τ x ≤ 200 := Nat.le_trans (cnt_le _ _) hV0.2.2.2.1
    refine w_iload_n dX3_addVeneersOf_2 h2 ?_
    refine w_aload_n dX3_addVeneersOf_3 h1 ?_
    refine r_getr  dX3_addVeneersOf_4 ft_3_196 R rfl (cT_Su hT hx) rfl (lb rfl) (cT_S hT hx 6 rfl) ?_
    refine r_inv0  dX3_addVeneersOf_7 mt_3_52 R rfl (cT_Lu hT hx) rfl (lb rfl) (lb rfl) (lb rfl) (lb rfl) rfl (c_lsize R rfl (cT_Lu hT hx) (cT_l hT hx).2.1 ⟨_, rfl, ?_⟩)
    refine r_icmp_gen (t := 86) dX3_addVeneersOf_10 rfl (by omega) (by omega) (fun h10 => ?_) (fun h10 => ?_)
    ·
      refine w_ret dX3_addVeneersOf_86 rfl ?_
      obtain rfl : t = rlN τ x := by omega
      exact kx _ _ R hf hv hvi hLO
    ·
      have htn : t < rlN τ x := by omega
      obtain ⟨k, ek⟩ : ∃ k, rlG τ x t = k := ⟨_, rfl⟩
      have hk : k < tN τ 3 := by rw [← ek]; exact (rlG_lt htn).2.1
      have hkx : tT τ 21 k = nI x := by rw [← ek]; exact (rlG_lt htn).2.2
      have hcx : cl (tT τ 21 k) = x := by rw [hkx]; exact nI_clamp (by omega)
      have rk := hV.2.2.2.1 k hk
      have ctk := clI rk.2.2.1.1
      have huk := cT_Ru hT hk
      have hkk : kin (kR τ) x = true := by unfold plB at hpl; rw [Bool.and_eq_true] at hpl; exact hpl.1
      obtain ⟨S1, eS⟩ : ∃ S1, fo (fun S j => vst2 τ w V x S (rlG τ x j)) S0 t = S1 := ⟨_, rfl⟩
      rw [eS] at hv hvi
      have hln := vV_len hvi.1
      refine w_aload_n dX3_addVeneersOf_13 h1 ?_
      refine r_getr  dX3_addVeneersOf_14 ft_3_196 R rfl (cT_Su hT hx) rfl (lb rfl) (cT_S hT hx 6 rfl) ?_
      refine w_iload_n dX3_addVeneersOf_17 h2 ?_
      refine r_inv1  dX3_addVeneersOf_18 mt_3_58 R rfl (cT_Lu hT hx) rfl (lb rfl) (lb rfl) (lb rfl) (lb rfl) rfl (c_lget R rfl (cT_Lu hT hx) (cT_l hT hx) htn ⟨_, rfl, ?_⟩)
      show mx_W _ _ _ _ (.ref (rA s 25 (rlG τ x t)) :: _) _ _
      rw [ek]
      refine r_cast dX3_addVeneersOf_21 qt_3_62 R rfl huk rfl (by decide) ?_
      refine w_astore_n dX3_addVeneersOf_24 (lb rfl) ?_
      refine w_aload_n dX3_addVeneersOf_25 rfl ?_
      refine r_geti  dX3_addVeneersOf_26 ft_3_74 R rfl huk rfl (lb rfl) (cT_R hT hk 2 (lb rfl)) ?_
      refine w_gets dX3_addVeneersOf_29 st_3_197 ?_
      refine r_acmp_ne (t := 47) dX3_addVeneersOf_32 rfl (fun h32 => ?_) (fun h32 => ?_)
      ·
        refine w_iconst (v := 0) dX3_addVeneersOf_47 (by decide) ?_
        refine w_istore dX3_addVeneersOf_48 (lb rfl) ?_
        refine w_iload dX3_addVeneersOf_50 rfl ?_
        refine w_if_eq (t := 80) dX3_addVeneersOf_52 rfl (fun _ => ?_) (fun h => absurd (by decide) h)
        refine w_iinc dX3_addVeneersOf_80 h2 (nI_1 _) (lb rfl) ?_
        refine w_goto (t := 2) dX3_addVeneersOf_83 rfl ?_
        have eb : ((tT τ 23 k == 3) && (S1.2 k).isNone && farB τ w V x k) = false := by
          have : (tT τ 23 k == 3) = false := by
            cases e : tT τ 23 k == 3
            · rfl
            · exact absurd (by rw [show cl (tT τ 23 k) = 3 by rw [beq_iff_eq.mp e]; rfl]) h32
          rw [this]; rfl
        have e9 : fo (fun S j => vst2 τ w V x S (rlG τ x j)) S0 (t + 1) = S1 := by rw [fo, eS]; show vst2 τ w V x S1 (rlG τ x t) = S1; rw [ek]; unfold vst2; rw [eb]; rfl
        exact ih (t + 1) _ _ _ (by omega) R (by omega) hf (by rw [e9]; exact hv) (by rw [e9]; exact hvi) hLO h0 h1 rfl kx
      ·
        refine w_aload_n dX3_addVeneersOf_35 rfl ?_
        refine r_geti  dX3_addVeneersOf_36 ft_3_133 R rfl huk rfl (lb rfl) (hv.2.1 k hk) ?_
        refine w_iconst (v := (-1)) dX3_addVeneersOf_39 (by decide) ?_
        refine r_icmp_neP (t := 47) dX3_addVeneersOf_40 rfl (fun h40 => ?_) (fun h40 => ?_)
        ·
          refine w_iconst (v := 0) dX3_addVeneersOf_47 (by decide) ?_
          refine w_istore dX3_addVeneersOf_48 (lb rfl) ?_
          refine w_iload dX3_addVeneersOf_50 rfl ?_
          refine w_if_eq (t := 80) dX3_addVeneersOf_52 rfl (fun _ => ?_) (fun h => absurd (by decide) h)
          refine w_iinc dX3_addVeneersOf_80 h2 (nI_1 _) (lb rfl) ?_
          refine w_goto (t := 2) dX3_addVeneersOf_83 rfl ?_
          have eb : ((tT τ 23 k == 3) && (S1.2 k).isNone && farB τ w V x k) = false := by
            have : (S1.2 k).isNone = false := by
              cases e : S1.2 k with
              | none => exact absurd ((vnI_none (by omega) k).mpr e) h40
              | some i => rfl
            rw [this]; simp
          have e9 : fo (fun S j => vst2 τ w V x S (rlG τ x j)) S0 (t + 1) = S1 := by rw [fo, eS]; show vst2 τ w V x S1 (rlG τ x t) = S1; rw [ek]; unfold vst2; rw [eb]; rfl
          exact ih (t + 1) _ _ _ (by omega) R (by omega) hf (by rw [e9]; exact hv) (by rw [e9]; exact hvi) hLO h0 h1 rfl kx
        ·
          refine w_iconst (v := 1) dX3_addVeneersOf_43 (by decide) ?_
          refine w_goto (t := 48) dX3_addVeneersOf_44 rfl ?_
          refine w_istore dX3_addVeneersOf_48 (lb rfl) ?_
          refine w_iload dX3_addVeneersOf_50 rfl ?_
          refine w_if_eq (t := 80) dX3_addVeneersOf_52 rfl (fun h => absurd h (by decide)) (fun _ => ?_)
          have ht3 : cl (tT τ 23 k) = 3 := hE.2.2 _ _ (by omega) (by omega) h32
          have h3 : tT τ 23 k = 3 := i32e (by rw [← ctk, ht3]; rfl)
          have hnone : S1.2 k = none := (vnI_none (by omega) k).mp h40
          have cyk := clI rk.2.2.2.1.1
          have efar : farB τ w V x k = !decide (-32768 ≤ vvI τ w V k - plN τ w V x - (tT τ 22 k).toInt ∧ vvI τ w V k - plN τ w V x - (tT τ 22 k).toInt ≤ 32767) := rfl
          have hvb := vaN_le hV (w := w) hvn (y := cl (tT τ 24 k)) (by omega)
          have hpb := plN_le hV (w := w) hvn hx
          have h25a := Int32.toInt_lt (tT τ 25 k)
          have h25b := Int32.le_toInt (tT τ 25 k)
          have eaw : (if tT τ 23 k = 2 ∨ tT τ 23 k = 3 then vvI τ w V k - ((plN τ w V (cl (tT τ 21 k)) : Int) + (tT τ 22 k).toInt) else vvI τ w V k) = vvI τ w V k - plN τ w V x - (tT τ 22 k).toInt := by rw [if_pos (Or.inr h3), hcx]; omega
          have erg : -2 ^ 62 ≤ vvI τ w V k - plN τ w V x - (tT τ 22 k).toInt ∧ vvI τ w V k - plN τ w V x - (tT τ 22 k).toInt < 2 ^ 62 := by unfold vvI; constructor <;> omega
          refine w_aload_n dX3_addVeneersOf_55 rfl ?_
          refine r_geti  dX3_addVeneersOf_56 ft_3_74 R rfl huk rfl (lb rfl) (show rX s 25 k 2 = .inl (.ref (E (cl (tT τ 23 k)))) from cT_R hT hk 2 (lb rfl)) ?_
          refine w_aload_n dX3_addVeneersOf_59 h0 ?_
          refine w_aload_n dX3_addVeneersOf_60 rfl ?_
          refine r_inv1  dX3_addVeneersOf_61 mt_3_78 R rfl (hS _ _ rfl) rfl (lb rfl) (lb rfl) (lb rfl) (lb rfl) rfl (c3_aw0 R hS hT hV hF hE hvn hLO.1 hLO.2.2.1 hk ((hv.2.1 k hk).trans (by rw [h40])) (by rw [hcx]; exact hpl) (fun ha => hO k hk (by rw [hcx]; exact hkk) ha) ⟨_, rfl, ?_⟩)
          refine r_invE1 dX3_addVeneersOf_64 mt_3_82 hE.2.2 (show cl (tT τ 23 k) < 5 by omega) rfl (lb rfl) (lb rfl) (lb rfl) (lb rfl) rfl (c8_fits hE.2.2 (by omega) (fun e64 => ⟨_, rfl, ?_⟩) (fun e64 => ⟨_, rfl, ?_⟩))
          ·
            rw [eaw, ofInt_i64 _ erg.1 erg.2, ht3] at e64
            have e64 : -32768 ≤ vvI τ w V k - plN τ w V x - (tT τ 22 k).toInt ∧ vvI τ w V k - plN τ w V x - (tT τ 22 k).toInt ≤ 32767 := e64
            refine w_if_ne (t := 80) dX3_addVeneersOf_67 rfl (fun _ => ?_) (fun h => absurd (by decide) h)
            refine w_iinc dX3_addVeneersOf_80 h2 (nI_1 _) (lb rfl) ?_
            refine w_goto (t := 2) dX3_addVeneersOf_83 rfl ?_
            have eb : ((tT τ 23 k == 3) && (S1.2 k).isNone && farB τ w V x k) = false := by
              have : farB τ w V x k = false := by rw [efar, Bool.not_eq_false']; exact decide_eq_true e64
              rw [this]; simp
            have e9 : fo (fun S j => vst2 τ w V x S (rlG τ x j)) S0 (t + 1) = S1 := by rw [fo, eS]; show vst2 τ w V x S1 (rlG τ x t) = S1; rw [ek]; unfold vst2; rw [eb]; rfl
            exact ih (t + 1) _ _ _ (by omega) R (by omega) hf (by rw [e9]; exact hv) (by rw [e9]; exact hvi) hLO h0 h1 rfl kx
          ·
            rw [eaw, ofInt_i64 _ erg.1 erg.2, ht3] at e64
            have e64 : ¬ (-32768 ≤ vvI τ w V k - plN τ w V x - (tT τ 22 k).toInt ∧ vvI τ w V k - plN τ w V x - (tT τ 22 k).toInt ≤ 32767) := e64
            refine w_if_ne (t := 80) dX3_addVeneersOf_67 rfl (fun h => absurd h (by decide)) (fun _ => ?_)
            refine w_aload_n dX3_addVeneersOf_70 rfl ?_
            refine w_aload_n dX3_addVeneersOf_71 h0 ?_
            refine w_aload_n dX3_addVeneersOf_72 h1 ?_
            refine w_aload_n dX3_addVeneersOf_73 rfl ?_
            refine r_inv2  dX3_addVeneersOf_74 mt_3_200 R rfl (hS _ _ rfl) rfl (lb rfl) (lb rfl) (lb rfl) (lb rfl) rfl (c3_vf R hS hT hV hF hvi hv hx hk hkx (fun s2 G2 R2 f2 g2 n2 r2 l2 => ⟨_, rfl, ?_⟩))
            have e2s : rA s2 = rA s := f2.1
            have h0a : L 0 = some (.ref (rA s2 7 0)) := by rw [f2.1]; exact h0
            have h1a : L 1 = some (.ref (rA s2 20 x)) := by rw [f2.1]; exact h1
            rw [← f2.1]
            have huk2 : rU s2 25 k = true := by rw [f2.2.2.2.2.2.2.1]; exact huk
            refine r_puti  dX3_addVeneersOf_77 ft_3_133 R2 rfl huk2 rfl (lb rfl) (fun h => by cases h) rfl rfl (fun G1 R1 => ?_)
            refine w_iinc dX3_addVeneersOf_80 h2 (nI_1 _) (lb rfl) ?_
            refine w_goto (t := 2) dX3_addVeneersOf_83 rfl ?_
            have eb : ((tT τ 23 k == 3) && (S1.2 k).isNone && farB τ w V x k) = true := by
              have : farB τ w V x k = true := by rw [efar, Bool.not_eq_true']; exact decide_eq_false e64
              rw [this, h3, hnone]; rfl
            have e9 : fo (fun S j => vst2 τ w V x S (rlG τ x j)) S0 (t + 1) = vneed τ S1 x k := by rw [fo, eS]; show vst2 τ w V x S1 (rlG τ x t) = _; rw [ek]; unfold vst2; rw [eb]; rfl
            have hvi2 := VI_need hvi hx hk hkx hcx hnone h3 hpl
            refine ih (t + 1) _ _ _ (by omega) R1 (by omega) (hf.tr f2).X ?_ (by rw [e9]; exact hvi2) (LO_v hLO g2.X) h0a h1a rfl kx
            rw [e9]
            refine ⟨fun y hy => (sX_p (by omega)).trans (n2 y hy), fun i hi => ?_, (sX_p (by omega)).trans l2⟩
            by_cases e : i = k
            · rw [e]; exact sX_s
            · refine (sX_p (by omega)).trans ((r2 i).trans ((hv.2.1 i hi).trans ?_))
              cases ef : fst1 (vmB τ S1.1 x k) S1.1.length with
              | none => rw [(vn_new hvi.1 hcx ef).2.1 i e]
              | some i2 => rw [(vn_old ef).1 i e]
end
