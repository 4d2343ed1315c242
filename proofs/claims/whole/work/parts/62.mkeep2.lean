section
variable {b0 mi z1 z2 : Nat} {E : Nat → Nat} {O : Nat → Option mx_C} {s : rx_S} {G : mx_H} {Q : mx_O → mx_H → Prop}
theorem c10_keepAll_a {s0 : rx_S} (hS0 : rx_in s0) {τ : tx_T} (hV : TV τ)  : ∀ (d : Nat) (i : Nat) (L : mx_L) (s : rx_S) (G : mx_H), 60 - i < d → rx_R b0 O z1 z2 s G → i ≤ 60 → mfk s0 s → NN s τ → rX s 0 0 39 = .inl (.int (nI 0)) → (∀ x, x < i → rI s 1 40 x = 0 ∧ rI s 1 41 x = -1 ∧ rI s 1 42 x = -1) → L 0 = some (.ref (rA s 0 0)) → L 1 = some (.int (nI i)) → (∀ (L : mx_L) (s : rx_S) (G : mx_H), rx_R b0 O z1 z2 s G → mfk s0 s → NN s τ → KQ s τ [] → L 0 = some (.ref (rA s 0 0)) → mx_W (gt_P b0 mi E) mX10_keepAll 40 L [] G Q) → mx_W (gt_P b0 mi E) mX10_keepAll 7 L [] G Q := by
  intro d
  induction d with
  | zero => intro i L s G hd; exact absurd hd (Nat.not_lt_zero _)
  | succ d ih =>
    intro i L s G hd R hi hf hN h39 hz h0 h1 kx
    obtain ⟨hT, hL, hD, hA⟩ := id hN
    obtain ⟨hM, ⟨c1, c2, c13, c14, c20, c26⟩, hsec, hby, hsy, hre, hro, hba⟩ := id hT
    have hV0 := hV.1
    have hS : rx_in s := hf.inn hS0
    refine w_iload_n dX10_keepAll_7 h1 ?_
    refine w_bipush (v := nI 60) dX10_keepAll_8 (by decide) ?_
    refine r_icmp_gen (t := 40) dX10_keepAll_10 rfl (by omega) (by omega) (fun h10 => ?_) (fun h10 => ?_)
    ·
      obtain rfl : i = 60 := by omega
      exact kx _ _ _ R hf hN ⟨h39, fun i hi => absurd hi (Nat.not_lt_zero _), fun x hx => (hz x hx).1, fun x hx => (hz x hx).2.1, fun x hx => (hz x hx).2.2⟩ h0
    ·
      refine w_aload_n dX10_keepAll_13 h0 ?_
      refine r_getr  dX10_keepAll_14 ft_9_103 R rfl (hS _ _ rfl) rfl (lb rfl) (hM.1 40 (lb rfl) (lb rfl)) ?_
      refine w_iload_n dX10_keepAll_17 h1 ?_
      refine w_iconst (v := 0) dX10_keepAll_18 (by decide) ?_
      refine r_zast  dX10_keepAll_19 R rfl (hS _ _ rfl) rfl rfl (by omega) (lb rfl) (show vp_nar .boolean 0 = 0 from rfl) (fun G1 R1 => ?_)
      refine w_aload_n dX10_keepAll_20 h0 ?_
      refine r_getr  dX10_keepAll_21 ft_9_106 R1 rfl (hS _ _ rfl) rfl (lb rfl) (hM.1 41 (lb rfl) (lb rfl)) ?_
      refine w_iload_n dX10_keepAll_24 h1 ?_
      refine w_iconst (v := (-1)) dX10_keepAll_25 (by decide) ?_
      refine r_iast  dX10_keepAll_26 R1 rfl (hS _ _ rfl) rfl rfl (by omega) (lb rfl) (fun G2 R2 => ?_)
      refine w_aload_n dX10_keepAll_27 h0 ?_
      refine r_getr  dX10_keepAll_28 ft_9_109 R2 rfl (hS _ _ rfl) rfl (lb rfl) (hM.1 42 (lb rfl) (lb rfl)) ?_
      refine w_iload_n dX10_keepAll_31 h1 ?_
      refine w_iconst (v := (-1)) dX10_keepAll_32 (by decide) ?_
      refine r_iast  dX10_keepAll_33 R2 rfl (hS _ _ rfl) rfl rfl (by omega) (lb rfl) (fun G3 R3 => ?_)
      refine w_iinc dX10_keepAll_34 h1 (nI_1 _) (lb rfl) ?_
      refine w_goto (t := 7) dX10_keepAll_37 rfl ?_
      refine ih (i + 1) _ _ _ (by omega) R3 (by omega) hf.I.I.I (NN_I (NN_I (NN_I hN (by omega)) (by omega)) (by omega)) h39 (fun x hx => ?_) h0 rfl kx
      by_cases e : x = i
      · exact ⟨(sI_p (by decide)).trans ((sI_p (by decide)).trans (sI_at.trans (if_pos e))), (sI_p (by decide)).trans (sI_at.trans (if_pos e)), sI_at.trans (if_pos e)⟩
      · obtain ⟨q1, q2, q3⟩ := hz x (by omega)
        exact ⟨(sI_p (by decide)).trans ((sI_p (by decide)).trans ((sI_at.trans (if_neg e)).trans q1)), (sI_p (by decide)).trans ((sI_at.trans (if_neg e)).trans ((sI_p (by decide)).trans q2)), (sI_at.trans (if_neg e)).trans ((sI_p (by decide)).trans ((sI_p (by decide)).trans q3))⟩
theorem c10_keepAll_b {s0 : rx_S} (hS0 : rx_in s0) {τ : tx_T} (hV : TV τ)  : ∀ (d : Nat) (i : Nat) (L : mx_L) (s : rx_S) (G : mx_H), tN τ 1 - i < d → rx_R b0 O z1 z2 s G → i ≤ tN τ 1 → mfk s0 s → NN s τ → KQ s τ (kp1 τ i) → L 0 = some (.ref (rA s 0 0)) → L 1 = some (.int (nI i)) → (∀ (L : mx_L) (s : rx_S) (G : mx_H), rx_R b0 O z1 z2 s G → mfk s0 s → NN s τ → KQ s τ (kp1 τ (tN τ 1)) → L 0 = some (.ref (rA s 0 0)) → mx_W (gt_P b0 mi E) mX10_keepAll 71 L [] G Q) → mx_W (gt_P b0 mi E) mX10_keepAll 42 L [] G Q := by
  intro d
  induction d with
  | zero => intro i L s G hd; exact absurd hd (Nat.not_lt_zero _)
  | succ d ih =>
    intro i L s G hd R hi hf hN hq h0 h1 kx
    have hv := kV_1 hi
    obtain ⟨hT, hL, hD, hA⟩ := id hN
    obtain ⟨hM, ⟨c1, c2, c13, c14, c20, c26⟩, hsec, hby, hsy, hre, hro, hba⟩ := id hT
    have hV0 := hV.1
    have hS : rx_in s := hf.inn hS0
    have hl0 := kV_len hv
    refine w_iload_n dX10_keepAll_42 h1 ?_
    refine w_aload_n dX10_keepAll_43 h0 ?_
    refine r_geti  dX10_keepAll_44 ft_9_165 R rfl (hS _ _ rfl) rfl (lb rfl) c2 ?_
    refine r_icmp_gen (t := 71) dX10_keepAll_47 rfl (by omega) (by omega) (fun h47 => ?_) (fun h47 => ?_)
    ·
      obtain rfl : i = tN τ 1 := by omega
      exact kx _ _ _ R hf hN hq h0
    ·
      refine w_aload_n dX10_keepAll_50 h0 ?_
      refine r_getr  dX10_keepAll_51 ft_9_29 R rfl (hS _ _ rfl) rfl (lb rfl) (hM.1 8 (lb rfl) (lb rfl)) ?_
      refine w_iload_n dX10_keepAll_54 h1 ?_
      refine r_zald  dX10_keepAll_55 R rfl (hS _ _ rfl) rfl rfl (by omega) (lb rfl) (hsec i (by omega)).2.2.2.2.1 ?_
      refine w_if_eq (t := 65) dX10_keepAll_56 rfl (fun h56 => ?_) (fun h56 => ?_)
      ·
        refine w_iinc dX10_keepAll_65 h1 (nI_1 _) (lb rfl) ?_
        refine w_goto (t := 42) dX10_keepAll_68 rfl ?_
        have ek : kp1 τ (i + 1) = kp1 τ i := by unfold kp1; rw [fo, beq_iff_eq.mpr h56]; rfl
        exact ih (i + 1) _ _ _ (by omega) R (by omega) hf hN (by rw [ek]; exact hq) h0 rfl kx
      ·
        refine w_aload_n dX10_keepAll_59 h0 ?_
        refine w_iload_n dX10_keepAll_60 h1 ?_
        refine w_iconst (v := (-1)) dX10_keepAll_61 (by decide) ?_
        refine r_inv2  dX10_keepAll_62 mt_9_206 R rfl (hS _ _ rfl) rfl (lb rfl) (lb rfl) (lb rfl) (lb rfl) rfl (c10_keeps R hS hV hN hq hv (x := i) (by omega) (fun s1 G1 R1 hf1 hN1 hq1 => ⟨_, rfl, ?_⟩))
        have h0 : L 0 = some (.ref (rA s1 0 0)) := by rw [hf1.1]; exact h0
        refine w_iinc dX10_keepAll_65 h1 (nI_1 _) (lb rfl) ?_
        refine w_goto (t := 42) dX10_keepAll_68 rfl ?_
        have ek : kp1 τ (i + 1) = kadd τ (kp1 τ i) i (-1) := by unfold kp1; rw [fo, beq_eq_false_iff_ne.mpr h56]; rfl
        exact ih (i + 1) _ _ _ (by omega) R1 (by omega) (hf.tr hf1) hN1 (by rw [ek]; exact hq1) h0 rfl kx
theorem c10_keepAll_c {s0 : rx_S} (hS0 : rx_in s0) {τ : tx_T} (hV : TV τ)  : ∀ (d : Nat) (i : Nat) (L : mx_L) (s : rx_S) (G : mx_H), tN τ 4 - i < d → rx_R b0 O z1 z2 s G → i ≤ tN τ 4 → mfk s0 s → NN s τ → KQ s τ (kp2 τ i) → L 0 = some (.ref (rA s 0 0)) → L 1 = some (.int (nI i)) → (∀ (L : mx_L) (s : rx_S) (G : mx_H), rx_R b0 O z1 z2 s G → mfk s0 s → NN s τ → KQ s τ (kp2 τ (tN τ 4)) → L 0 = some (.ref (rA s 0 0)) → mx_W (gt_P b0 mi E) mX10_keepAll 115 L [] G Q) → mx_W (gt_P b0 mi E) mX10_keepAll 73 L [] G Q := by
  intro d
  induction d with
  | zero => intro i L s G hd; exact absurd hd (Nat.not_lt_zero _)
  | succ d ih =>
    intro i L s G hd R hi hf hN hq h0 h1 kx
    have hv := kV_2 hV (n := i)
    obtain ⟨hT, hL, hD, hA⟩ := id hN
    obtain ⟨hM, ⟨c1, c2, c13, c14, c20, c26⟩, hsec, hby, hsy, hre, hro, hba⟩ := id hT
    have hV0 := hV.1
    have hS : rx_in s := hf.inn hS0
    have hl0 := kV_len hv
    refine w_iload_n dX10_keepAll_73 h1 ?_
    refine w_aload_n dX10_keepAll_74 h0 ?_
    refine r_geti  dX10_keepAll_75 ft_9_198 R rfl (hS _ _ rfl) rfl (lb rfl) c26 ?_
    refine r_icmp_gen (t := 115) dX10_keepAll_78 rfl (by omega) (by omega) (fun h78 => ?_) (fun h78 => ?_)
    ·
      obtain rfl : i = tN τ 4 := by omega
      exact kx _ _ _ R hf hN hq h0
    ·
      have hnm := hV.2.2.2.2.1 i (by omega)
      obtain ⟨x, hx, hx2⟩ := nI_ofI hnm.1
      have hx3 : (x : Int) ≤ 63 := by have := hnm.2; rw [hx2, nI_toInt hx] at this; exact this
      refine w_aload_n dX10_keepAll_81 h0 ?_
      refine r_getr  dX10_keepAll_82 ft_9_88 R rfl (hS _ _ rfl) rfl (lb rfl) (hM.1 34 (lb rfl) (lb rfl)) ?_
      refine w_aload_n dX10_keepAll_85 h0 ?_
      refine r_getr  dX10_keepAll_86 ft_9_73 R rfl (hS _ _ rfl) rfl (lb rfl) (hM.1 27 (lb rfl) (lb rfl)) ?_
      refine w_iload_n dX10_keepAll_89 h1 ?_
      refine r_iald  dX10_keepAll_90 R rfl (hS _ _ rfl) rfl rfl (by omega) (lb rfl) ((hro i (by omega)).trans hx2) ?_
      refine r_iald  dX10_keepAll_91 R rfl (hS _ _ rfl) rfl rfl (by omega) (lb rfl) (show rI s 1 34 x = oI (defO τ (tT τ 27 i)) from (hD x (by omega)).trans (by rw [hx2])) ?_
      refine w_istore_n dX10_keepAll_92 (lb rfl) ?_
      refine w_iload_n dX10_keepAll_93 rfl ?_
      refine w_iconst (v := (-1)) dX10_keepAll_94 (by decide) ?_
      refine w_icmp_eq (t := 109) dX10_keepAll_95 rfl (fun h95 => ?_) (fun h95 => ?_)
      ·
        refine w_iinc dX10_keepAll_109 h1 (nI_1 _) (lb rfl) ?_
        refine w_goto (t := 73) dX10_keepAll_112 rfl ?_
        have e : defO τ (tT τ 27 i) = none := (oI_none (fun j hj => by have := (defO_lt hj).1; omega)).mp h95
        have ek : kp2 τ (i + 1) = kp2 τ i := by unfold kp2; rw [fo, e]
        exact ih (i + 1) _ _ _ (by omega) R (by omega) hf hN (by rw [ek]; exact hq) h0 rfl kx
      ·
        obtain ⟨d, hd3⟩ : ∃ d, defO τ (tT τ 27 i) = some d := by
          cases e : defO τ (tT τ 27 i) with
          | none => exact absurd (by rw [e]; rfl) h95
          | some j => exact ⟨j, rfl⟩
        have hdl := (defO_lt hd3).1
        have hds := isD_sec hV hdl (defO_lt hd3).2
        obtain ⟨z, hz, hz2⟩ := nI_ofI hds.1
        have hzl : z < tN τ 1 := by have := hds.2; rw [hz2, clN hz] at this; exact this
        have hdo : oI (defO τ (tT τ 27 i)) = nI d := by rw [hd3]; rfl
        refine w_aload_n dX10_keepAll_98 h0 ?_
        refine w_aload_n dX10_keepAll_99 h0 ?_
        refine r_getr  dX10_keepAll_100 ft_9_49 R rfl (hS _ _ rfl) rfl (lb rfl) (hM.1 17 (lb rfl) (lb rfl)) ?_
        refine w_iload_n dX10_keepAll_103 (show some (Value.int (oI (defO τ (tT τ 27 i)))) = some (Value.int (nI d)) by rw [hdo]) ?_
        refine r_iald  dX10_keepAll_104 R rfl (hS _ _ rfl) rfl rfl (by omega) (lb rfl) ((hsy d hdl).2.2.1.trans hz2) ?_
        refine w_iconst (v := (-1)) dX10_keepAll_105 (by decide) ?_
        refine r_inv2  dX10_keepAll_106 mt_9_206 R rfl (hS _ _ rfl) rfl (lb rfl) (lb rfl) (lb rfl) (lb rfl) rfl (c10_keeps R hS hV hN hq hv (x := z) hzl (fun s1 G1 R1 hf1 hN1 hq1 => ⟨_, rfl, ?_⟩))
        have h0 : L 0 = some (.ref (rA s1 0 0)) := by rw [hf1.1]; exact h0
        refine w_iinc dX10_keepAll_109 h1 (nI_1 _) (lb rfl) ?_
        refine w_goto (t := 73) dX10_keepAll_112 rfl ?_
        have ek : kp2 τ (i + 1) = kadd τ (kp2 τ i) z (-1) := by unfold kp2; rw [fo, hd3]; simp only [hz2, clN hz]
        exact ih (i + 1) _ _ _ (by omega) R1 (by omega) (hf.tr hf1) hN1 (by rw [ek]; exact hq1) h0 rfl kx
theorem c10_keepAll_e {s0 : rx_S} (hS0 : rx_in s0) {τ : tx_T} (hV : TV τ) {K : kQ} (hK : kV τ K) {i x : Nat} (hx : x < tN τ 1)  : ∀ (d : Nat) (k : Nat) (L : mx_L) (s : rx_S) (G : mx_H), tN τ 3 - k < d → rx_R b0 O z1 z2 s G → k ≤ tN τ 3 → mfk s0 s → NN s τ → KQ s τ (ks1 τ K x k) → L 0 = some (.ref (rA s 0 0)) → L 1 = some (.int (nI i)) → L 2 = some (.int (nI x)) → L 3 = some (.int (nI k)) → (∀ (L : mx_L) (s : rx_S) (G : mx_H), rx_R b0 O z1 z2 s G → mfk s0 s → NN s τ → KQ s τ (ks1 τ K x (tN τ 3)) → L 0 = some (.ref (rA s 0 0)) → L 1 = some (.int (nI i)) → L 2 = some (.int (nI x)) → mx_W (gt_P b0 mi E) mX10_keepAll 169 L [] G Q) → mx_W (gt_P b0 mi E) mX10_keepAll 134 L [] G Q := by
  intro d
  induction d with
  | zero => intro k L s G hd; exact absurd hd (Nat.not_lt_zero _)
  | succ d ih =>
    intro k L s G hd R hk hf hN hq h0 h1 h2 h3 kx
    have hv := kV_s1 hV hK hk (x := x)
    obtain ⟨hT, hL, hD, hA⟩ := id hN
    obtain ⟨hM, ⟨c1, c2, c13, c14, c20, c26⟩, hsec, hby, hsy, hre, hro, hba⟩ := id hT
    have hV0 := hV.1
    have hS : rx_in s := hf.inn hS0
    have hl0 := kV_len hv
    refine w_iload_n dX10_keepAll_134 h3 ?_
    refine w_aload_n dX10_keepAll_135 h0 ?_
    refine r_geti  dX10_keepAll_136 ft_9_195 R rfl (hS _ _ rfl) rfl (lb rfl) c20 ?_
    refine r_icmp_gen (t := 169) dX10_keepAll_139 rfl (by omega) (by omega) (fun h139 => ?_) (fun h139 => ?_)
    ·
      obtain rfl : k = tN τ 3 := by omega
      exact kx _ _ _ R hf hN hq h0 h1 h2
    ·
      refine w_aload_n dX10_keepAll_142 h0 ?_
      refine r_getr  dX10_keepAll_143 ft_9_58 R rfl (hS _ _ rfl) rfl (lb rfl) (hM.1 21 (lb rfl) (lb rfl)) ?_
      refine w_iload_n dX10_keepAll_146 h3 ?_
      refine r_iald  dX10_keepAll_147 R rfl (hS _ _ rfl) rfl rfl (by omega) (lb rfl) (hre k (by omega)).1 ?_
      refine w_iload_n dX10_keepAll_148 h2 ?_
      refine r_icmp_neP (t := 163) dX10_keepAll_149 rfl (fun h149 => ?_) (fun h149 => ?_)
      ·
        refine w_iinc dX10_keepAll_163 h3 (nI_1 _) (lb rfl) ?_
        refine w_goto (t := 134) dX10_keepAll_166 rfl ?_
        have ek : ks1 τ K x (k + 1) = ks1 τ K x k := by unfold ks1; rw [fo, beq_eq_false_iff_ne.mpr h149]; rfl
        exact ih (k + 1) _ _ _ (by omega) R (by omega) hf hN (by rw [ek]; exact hq) h0 h1 h2 rfl kx
      ·
        have hy := (hV.2.2.2.1 k (by omega)).2.2.2.1
        obtain ⟨y, hy1, hy2⟩ := nI_ofI hy.1
        have hyl : y < tN τ 2 := by have := hy.2; rw [hy2, nI_toInt hy1] at this; omega
        refine w_aload_n dX10_keepAll_152 h0 ?_
        refine w_iload_n dX10_keepAll_153 h2 ?_
        refine w_aload_n dX10_keepAll_154 h0 ?_
        refine r_getr  dX10_keepAll_155 ft_9_67 R rfl (hS _ _ rfl) rfl (lb rfl) (hM.1 24 (lb rfl) (lb rfl)) ?_
        refine w_iload_n dX10_keepAll_158 h3 ?_
        refine r_iald  dX10_keepAll_159 R rfl (hS _ _ rfl) rfl rfl (by omega) (lb rfl) ((hre k (by omega)).2.2.2.1.trans hy2) ?_
        refine r_inv2  dX10_keepAll_160 mt_9_210 R rfl (hS _ _ rfl) rfl (lb rfl) (lb rfl) (lb rfl) (lb rfl) rfl (c10_comesBy R hS hV hN hq hv hx hyl (fun s1 G1 R1 hf1 hN1 hq1 => ⟨_, rfl, ?_⟩))
        have h0 : L 0 = some (.ref (rA s1 0 0)) := by rw [hf1.1]; exact h0
        refine w_iinc dX10_keepAll_163 h3 (nI_1 _) (lb rfl) ?_
        refine w_goto (t := 134) dX10_keepAll_166 rfl ?_
        have ek : ks1 τ K x (k + 1) = kcb τ (ks1 τ K x k) x y := by unfold ks1; rw [fo, beq_iff_eq.mpr h149, hy2, clN hy1]; rfl
        exact ih (k + 1) _ _ _ (by omega) R1 (by omega) (hf.tr hf1) hN1 (by rw [ek]; exact hq1) h0 h1 h2 rfl kx
theorem c10_keepAll_f {s0 : rx_S} (hS0 : rx_in s0) {τ : tx_T} (hV : TV τ) {K : kQ} (hK : kV τ K) {i x : Nat} (hx : x < tN τ 1)  : ∀ (d : Nat) (t : Nat) (L : mx_L) (s : rx_S) (G : mx_H), tN τ 1 - t < d → rx_R b0 O z1 z2 s G → t ≤ tN τ 1 → mfk s0 s → NN s τ → KQ s τ (ks2 τ K x t) → L 0 = some (.ref (rA s 0 0)) → L 1 = some (.int (nI i)) → L 2 = some (.int (nI x)) → L 3 = some (.int (nI t)) → (∀ (L : mx_L) (s : rx_S) (G : mx_H), rx_R b0 O z1 z2 s G → mfk s0 s → NN s τ → KQ s τ (ks2 τ K x (tN τ 1)) → L 0 = some (.ref (rA s 0 0)) → L 1 = some (.int (nI i)) → mx_W (gt_P b0 mi E) mX10_keepAll 216 L [] G Q) → mx_W (gt_P b0 mi E) mX10_keepAll 171 L [] G Q := by
  intro d
  induction d with
  | zero => intro t L s G hd; exact absurd hd (Nat.not_lt_zero _)
  | succ d ih =>
    intro t L s G hd R ht hf hN hq h0 h1 h2 h3 kx
    have hv := kV_s2 hK ht (x := x)
    obtain ⟨hT, hL, hD, hA⟩ := id hN
    obtain ⟨hM, ⟨c1, c2, c13, c14, c20, c26⟩, hsec, hby, hsy, hre, hro, hba⟩ := id hT
    have hV0 := hV.1
    have hS : rx_in s := hf.inn hS0
    have hl0 := kV_len hv
    refine w_iload_n dX10_keepAll_171 h3 ?_
    refine w_aload_n dX10_keepAll_172 h0 ?_
    refine r_geti  dX10_keepAll_173 ft_9_165 R rfl (hS _ _ rfl) rfl (lb rfl) c2 ?_
    refine r_icmp_gen (t := 216) dX10_keepAll_176 rfl (by omega) (by omega) (fun h176 => ?_) (fun h176 => ?_)
    ·
      obtain rfl : t = tN τ 1 := by omega
      exact kx _ _ _ R hf hN hq h0 h1
    ·
      refine w_aload_n dX10_keepAll_179 h0 ?_
      refine r_getr  dX10_keepAll_180 ft_9_36 R rfl (hS _ _ rfl) rfl (lb rfl) (hM.1 10 (lb rfl) (lb rfl)) ?_
      refine w_iload_n dX10_keepAll_183 h2 ?_
      refine r_iald  dX10_keepAll_184 R rfl (hS _ _ rfl) rfl rfl (by omega) (lb rfl) (hsec x hx).2.2.2.2.2.2 ?_
      refine w_iconst (v := (-1)) dX10_keepAll_185 (by decide) ?_
      refine w_icmp_eq (t := 210) dX10_keepAll_186 rfl (fun h186 => ?_) (fun h186 => ?_)
      ·
        refine w_iinc dX10_keepAll_210 h3 (nI_1 _) (lb rfl) ?_
        refine w_goto (t := 171) dX10_keepAll_213 rfl ?_
        have e : (!(tT τ 10 x == -1) && (tT τ 10 t == tT τ 10 x)) = false := by rw [h186]; simp
        have ek : ks2 τ K x (t + 1) = ks2 τ K x t := by unfold ks2; rw [fo, e]; rfl
        exact ih (t + 1) _ _ _ (by omega) R (by omega) hf hN (by rw [ek]; exact hq) h0 h1 h2 rfl kx
      ·
        refine w_aload_n dX10_keepAll_189 h0 ?_
        refine r_getr  dX10_keepAll_190 ft_9_36 R rfl (hS _ _ rfl) rfl (lb rfl) (hM.1 10 (lb rfl) (lb rfl)) ?_
        refine w_iload_n dX10_keepAll_193 h3 ?_
        refine r_iald  dX10_keepAll_194 R rfl (hS _ _ rfl) rfl rfl (by omega) (lb rfl) (hsec t (by omega)).2.2.2.2.2.2 ?_
        refine w_aload_n dX10_keepAll_195 h0 ?_
        refine r_getr  dX10_keepAll_196 ft_9_36 R rfl (hS _ _ rfl) rfl (lb rfl) (hM.1 10 (lb rfl) (lb rfl)) ?_
        refine w_iload_n dX10_keepAll_199 h2 ?_
        refine r_iald  dX10_keepAll_200 R rfl (hS _ _ rfl) rfl rfl (by omega) (lb rfl) (hsec x hx).2.2.2.2.2.2 ?_
        refine r_icmp_neP (t := 210) dX10_keepAll_201 rfl (fun h201 => ?_) (fun h201 => ?_)
        ·
          refine w_iinc dX10_keepAll_210 h3 (nI_1 _) (lb rfl) ?_
          refine w_goto (t := 171) dX10_keepAll_213 rfl ?_
          have e : (!(tT τ 10 x == -1) && (tT τ 10 t == tT τ 10 x)) = false := by simp [h201]
          have ek : ks2 τ K x (t + 1) = ks2 τ K x t := by unfold ks2; rw [fo, e]; rfl
          exact ih (t + 1) _ _ _ (by omega) R (by omega) hf hN (by rw [ek]; exact hq) h0 h1 h2 rfl kx
        ·
          refine w_aload_n dX10_keepAll_204 h0 ?_
          refine w_iload_n dX10_keepAll_205 h3 ?_
          refine w_iload_n dX10_keepAll_206 h2 ?_
          refine r_inv2  dX10_keepAll_207 mt_9_206 R rfl (hS _ _ rfl) rfl (lb rfl) (lb rfl) (lb rfl) (lb rfl) rfl (c10_keeps R hS hV hN hq hv (x := t) (by omega) (fun s1 G1 R1 hf1 hN1 hq1 => ⟨_, rfl, ?_⟩))
          have h0 : L 0 = some (.ref (rA s1 0 0)) := by rw [hf1.1]; exact h0
          refine w_iinc dX10_keepAll_210 h3 (nI_1 _) (lb rfl) ?_
          refine w_goto (t := 171) dX10_keepAll_213 rfl ?_
          have e : (!(tT τ 10 x == -1) && (tT τ 10 t == tT τ 10 x)) = true := by rw [h201, beq_eq_false_iff_ne.mpr h186]; simp
          have ek : ks2 τ K x (t + 1) = kadd τ (ks2 τ K x t) t (nI x) := by unfold ks2; rw [fo, e]; rfl
          exact ih (t + 1) _ _ _ (by omega) R1 (by omega) (hf.tr hf1) hN1 (by rw [ek]; exact hq1) h0 h1 h2 rfl kx
theorem c10_keepAll_d {s0 : rx_S} (hS0 : rx_in s0) {τ : tx_T} (hV : TV τ)  : ∀ (d : Nat) (i f : Nat) (K : kQ) (L : mx_L) (s : rx_S) (G : mx_H), f < d → rx_R b0 O z1 z2 s G → i + f = 61 → mfk s0 s → NN s τ → KQ s τ K → kV τ K → kit τ f i K = kR τ → L 0 = some (.ref (rA s 0 0)) → L 1 = some (.int (nI i)) → (∀ (s' : rx_S) (G' : mx_H), rx_R b0 O z1 z2 s' G' → mfk s0 s' → NN s' τ → KQ s' τ (kR τ) → kV τ (kR τ) → Q (.inl none) G') → mx_W (gt_P b0 mi E) mX10_keepAll 117 L [] G Q := by
  intro d
  induction d with
  | zero => intro i f K L s G hd; exact absurd hd (Nat.not_lt_zero _)
  | succ d ih =>
    intro i f K L s G hd R hq0 hf hN hq hv hk h0 h1 kx
    obtain ⟨hT, hL, hD, hA⟩ := id hN
    obtain ⟨hM, ⟨c1, c2, c13, c14, c20, c26⟩, hsec, hby, hsy, hre, hro, hba⟩ := id hT
    have hV0 := hV.1
    have hS : rx_in s := hf.inn hS0
    have hl0 := kV_len hv
    refine w_iload_n dX10_keepAll_117 h1 ?_
    refine w_aload_n dX10_keepAll_118 h0 ?_
    refine r_geti  dX10_keepAll_119 ft_9_203 R rfl (hS _ _ rfl) rfl (lb rfl) hq.1 ?_
    refine r_icmp_gen (t := 222) dX10_keepAll_122 rfl (by omega) (by omega) (fun h122 => ?_) (fun h122 => ?_)
    ·
      refine w_ret dX10_keepAll_222 rfl ?_
      rw [kit_end h122] at hk
      subst hk
      exact kx _ _ R hf hN hq hv
    ·
      refine w_aload_n dX10_keepAll_125 h0 ?_
      refine r_getr  dX10_keepAll_126 ft_9_100 R rfl (hS _ _ rfl) rfl (lb rfl) (hM.1 38 (lb rfl) (lb rfl)) ?_
      refine w_iload_n dX10_keepAll_129 h1 ?_
      refine r_iald  dX10_keepAll_130 R rfl (hS _ _ rfl) rfl rfl (by omega) (lb rfl) (hq.2.1 i h122) ?_
      refine w_istore_n dX10_keepAll_131 (lb rfl) ?_
      refine w_iconst (v := 0) dX10_keepAll_132 (by decide) ?_
      refine w_istore_n dX10_keepAll_133 (lb rfl) ?_
      obtain ⟨f, rfl⟩ : ∃ f', f = f' + 1 := ⟨f - 1, by omega⟩
      rw [kit_step h122] at hk
      have hx := hv.1 i h122
      refine c10_keepAll_e hS0 hV hv hx (tN τ 3 + 1) 0 _ _ _ (by omega) R (by omega) hf hN hq h0 h1 rfl rfl (fun L s G R hf hN hq h0 h1 h2 => ?_)
      refine w_iconst (v := 0) dX10_keepAll_169 (by decide) ?_
      refine w_istore_n dX10_keepAll_170 (lb rfl) ?_
      refine c10_keepAll_f hS0 hV (kV_s1 hV hv (Nat.le_refl _)) hx (tN τ 1 + 1) 0 _ _ _ (by omega) R (by omega) hf hN hq h0 h1 h2 rfl (fun L s G R hf hN hq h0 h1 => ?_)
      refine w_iinc dX10_keepAll_216 h1 (nI_1 _) (lb rfl) ?_
      refine w_goto (t := 117) dX10_keepAll_219 rfl ?_
      exact ih (i + 1) f _ _ _ _ (by omega) R (by omega) hf hN hq (kV_s2 (kV_s1 hV hv (Nat.le_refl _)) (Nat.le_refl _)) hk h0 rfl kx
theorem c10_keepAll (R : rx_R b0 O z1 z2 s G) (hS : rx_in s) {τ : tx_T} (hV : TV τ) (hN : NN s τ) (q : ∀ s' G', rx_R b0 O z1 z2 s' G' → mfk s s' → NN s' τ → KQ s' τ (kR τ) → kV τ (kR τ) → Q (.inl none) G') : mx_W (gt_P b0 mi E) mX10_keepAll 0 (mx_en 0 [.ref (rA s 0 0)]) [] G Q := by
  refine w_aload_n dX10_keepAll_0 rfl ?_
  refine w_iconst (v := 0) dX10_keepAll_1 (by decide) ?_
  refine r_puti  dX10_keepAll_2 ft_9_203 R rfl (hS _ _ rfl) rfl (lb rfl) (fun h => by cases h) rfl rfl (fun G1 R1 => ?_)
  refine w_iconst (v := 0) dX10_keepAll_5 (by decide) ?_
  refine w_istore_n dX10_keepAll_6 (lb rfl) ?_
  refine c10_keepAll_a hS hV 61 0 _ _ _ (by omega) R1 (by omega) (mfk.rf s).X (NN_X hN (by omega) rfl) sX_s (fun x hx => absurd hx (Nat.not_lt_zero _)) rfl rfl (fun L s G R hf hN hq h0 => ?_)
  refine w_iconst (v := 0) dX10_keepAll_40 (by decide) ?_
  refine w_istore_n dX10_keepAll_41 (lb rfl) ?_
  refine c10_keepAll_b hS hV (tN τ 1 + 1) 0 _ _ _ (by omega) R (by omega) hf hN hq h0 rfl (fun L s G R hf hN hq h0 => ?_)
  refine w_iconst (v := 0) dX10_keepAll_71 (by decide) ?_
  refine w_istore_n dX10_keepAll_72 (lb rfl) ?_
  refine c10_keepAll_c hS hV (tN τ 4 + 1) 0 _ _ _ (by omega) R (by omega) hf hN hq h0 rfl (fun L s G R hf hN hq h0 => ?_)
  refine w_iconst (v := 0) dX10_keepAll_115 (by decide) ?_
  refine w_istore_n dX10_keepAll_116 (lb rfl) ?_
  exact c10_keepAll_d hS hV 62 0 61 _ _ _ _ (by omega) R (by omega) hf hN hq (kV_2 hV) rfl h0 rfl q
end
