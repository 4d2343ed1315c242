/-! ===== The class's names ===== -/
def wN (r f : Nat) : Bool := (Nat.beq r 20 && Nat.beq f 11) || ((Nat.beq r 24 && (Nat.beq f 7 || Nat.beq f 8)) || (Nat.beq r 100 && (Nat.beq f 2 || Nat.beq f 3)))
def rv24 (s : rx_S) : Option Nat → Value
  | none => .null
  | some k => .ref (rA s 24 k)
def o24 : Option Nat → Option (Nat × Nat)
  | none => none
  | some k => some (24, k)
section
variable {b0 mi z1 z2 : Nat} {E : Nat → Nat} {O : Nat → Option mx_C} {s : rx_S} {G : mx_H} {Q : mx_O → mx_H → Prop}
theorem c2_hasGroup (R : rx_R b0 O z1 z2 s G) (hS : rx_in s) {τ : tx_T} (hT : CT E s τ) (hV : TV τ) {i : Nat} (hi : i < tN τ 1) (q1 : (0 ≤ (tT τ 10 i).toInt) → Q (.inl (some (.int 1))) G) (q0 : ¬ (0 ≤ (tT τ 10 i).toInt) → Q (.inl (some (.int 0))) G) : mx_W (gt_P b0 mi E) mX2_hasGroup 0 (mx_en 0 [.ref (rA s 4 0), .ref (rA s 20 i)]) [] G Q := by
  have hg := (hV.2.1 i hi).2.2.2.2.2.2.1
  have e16 : (nI 16).toInt = 16 := rfl
  refine w_aload_n dX2_hasGroup_0 rfl ?_
  refine r_geti  dX2_hasGroup_1 ft_2_74 R rfl (cT_Su hT hi) rfl (lb rfl) (cT_S hT hi 10 rfl) ?_
  refine r_if_lti (t := 23) dX2_hasGroup_4 rfl (fun h4 => ?_) (fun h4 => ?_)
  ·
    refine w_iconst (v := 0) dX2_hasGroup_23 (by decide) ?_
    exact w_iret dX2_hasGroup_24 rfl rfl (q0 (by omega))
  ·
    refine w_aload_n dX2_hasGroup_7 rfl ?_
    refine r_geti  dX2_hasGroup_8 ft_2_74 R rfl (cT_Su hT hi) rfl (lb rfl) (cT_S hT hi 10 rfl) ?_
    refine w_aload_n dX2_hasGroup_11 rfl ?_
    refine r_getr  dX2_hasGroup_12 ft_2_9 R rfl (hS _ _ rfl) rfl (lb rfl) (cT_s hT 4 0 rfl) ?_
    refine r_alen  dX2_hasGroup_15 R rfl (hS _ _ rfl) rfl rfl (lb rfl) ?_
    refine r_icmp_gei (t := 23) dX2_hasGroup_16 rfl (fun h => by omega) (fun h16 => ?_)
    refine w_iconst (v := 1) dX2_hasGroup_19 (by decide) ?_
    refine w_goto (t := 24) dX2_hasGroup_20 rfl ?_
    exact w_iret dX2_hasGroup_24 rfl rfl (q1 (by omega))
theorem c2_fl1 {s0 : rx_S} {τ : tx_T} (hT0 : CT E s0 τ) (hS0 : rx_in s0) (hV : TV τ)  : ∀ (d : Nat) (i : Nat) (L : mx_L) (s : rx_S) (G : mx_H), tN τ 1 - i < d → rx_R b0 O z1 z2 s G → i ≤ tN τ 1 → cf wN s0 s → (∀ g, g < 16 → rI s 10 2 g = mnI τ g i) → L 0 = some (.ref (rA s 4 0)) → L 1 = some (.ref (rA s 8 0)) → L 2 = some (.int (nI i)) → (∀ (L : mx_L) (s : rx_S) (G : mx_H), rx_R b0 O z1 z2 s G → cf wN s0 s → (∀ g, g < 16 → rI s 10 2 g = mnI τ g (tN τ 1)) → L 0 = some (.ref (rA s 4 0)) → L 1 = some (.ref (rA s 8 0)) → mx_W (gt_P b0 mi E) mX2_findLost 67 L [] G Q) → mx_W (gt_P b0 mi E) mX2_findLost 11 L [] G Q := by
  intro d
  induction d with
  | zero => intro i L s G hd; exact absurd hd (Nat.not_lt_zero _)
  | succ d ih =>
    intro i L s G hd R hi hf hm h0 h1 h2 kx
    have hT := CT_cf hT0 hS0 hf
    have hS := hf.inn hS0
    have hV0 := hV.1
    refine w_iload_n dX2_findLost_11 h2 ?_
    refine w_aload_n dX2_findLost_12 h1 ?_
    refine r_inv0  dX2_findLost_13 mt_2_58 R rfl (hS _ _ rfl) rfl (lb rfl) (lb rfl) (lb rfl) (lb rfl) rfl (c_lsize R rfl (hS _ _ rfl) (cT_l0 hT).2.1 ⟨_, rfl, ?_⟩)
    refine r_icmp_gen (t := 67) dX2_findLost_16 rfl (by omega) (by omega) (fun h16 => ?_) (fun h16 => ?_)
    ·
      obtain rfl : i = tN τ 1 := by omega
      exact kx _ _ _ R hf hm h0 h1
    ·
      have hin : i < tN τ 1 := by omega
      have huS := cT_Su hT hin
      refine w_aload_n dX2_findLost_19 h1 ?_
      refine w_iload_n dX2_findLost_20 h2 ?_
      refine r_inv1  dX2_findLost_21 mt_2_64 R rfl (hS _ _ rfl) rfl (lb rfl) (lb rfl) (lb rfl) (lb rfl) rfl (c_lget R rfl (hS _ _ rfl) (cT_l0 hT) hin ⟨_, rfl, ?_⟩)
      refine r_cast dX2_findLost_24 qt_2_68 R rfl huS rfl (by decide) ?_
      refine w_astore_n dX2_findLost_27 (lb rfl) ?_
      refine w_aload_n dX2_findLost_28 h0 ?_
      refine w_aload_n dX2_findLost_29 rfl ?_
      refine r_inv1  dX2_findLost_30 mt_2_70 R rfl (hS _ _ rfl) rfl (lb rfl) (lb rfl) (lb rfl) (lb rfl) rfl (c2_hasGroup R hS hT hV hin (fun e30 => ⟨_, rfl, ?_⟩) (fun e30 => ⟨_, rfl, ?_⟩))
      ·
        refine w_if_eq (t := 61) dX2_findLost_33 rfl (fun h => absurd h (by decide)) (fun _ => ?_)
        obtain ⟨g, hg, hge⟩ := nI_ofI e30
        have hgb := (hV.2.1 i hin).2.2.2.2.2.2.1.2
        rw [hge, nI_toInt hg] at hgb
        have hx : rX s 20 i 10 = .inl (.int (nI g)) := (cT_S hT hin 10 rfl).trans (congrArg (fun q => Sum.inl (Value.int q)) hge)
        have hg16 : g < 16 := by omega
        refine w_aload_n dX2_findLost_36 h0 ?_
        refine r_getr  dX2_findLost_37 ft_2_9 R rfl (hS _ _ rfl) rfl (lb rfl) (cT_s hT 4 0 rfl) ?_
        refine w_aload_n dX2_findLost_40 rfl ?_
        refine r_geti  dX2_findLost_41 ft_2_74 R rfl huS rfl (lb rfl) hx ?_
        refine w_aload_n dX2_findLost_44 h0 ?_
        refine r_getr  dX2_findLost_45 ft_2_9 R rfl (hS _ _ rfl) rfl (lb rfl) (cT_s hT 4 0 rfl) ?_
        refine w_aload_n dX2_findLost_48 rfl ?_
        refine r_geti  dX2_findLost_49 ft_2_74 R rfl huS rfl (lb rfl) hx ?_
        refine r_iald  dX2_findLost_52 R rfl (hS _ _ rfl) rfl rfl hg16 (lb rfl) rfl ?_
        refine w_aload_n dX2_findLost_53 rfl ?_
        refine r_geti  dX2_findLost_54 ft_2_77 R rfl (cT_Su hT hin) rfl (lb rfl) (cT_S hT hin 1 rfl) ?_
        refine w_min dX2_findLost_57 mt_2_80 (lb rfl) (lb rfl) (lb rfl) ?_
        refine r_iast  dX2_findLost_60 R rfl (hS _ _ rfl) rfl rfl hg16 (lb rfl) (fun G1 R1 => ?_)
        refine w_iinc dX2_findLost_61 h2 (nI_1 _) (lb rfl) ?_
        refine w_goto (t := 11) dX2_findLost_64 rfl ?_
        exact ih (i + 1) _ _ _ (by omega) R1 (by omega) hf.I (fun g' hg' => sI_at.trans (by
          by_cases e : g' = g
          · rw [if_pos e, e, mnI, fo, if_pos hge]; rw [← mnI, ← hm g (by omega)]
          · rw [if_neg e, mnI, fo, if_neg (fun e2 => e (by rw [hge] at e2; have := congrArg cl e2; rw [show cl (nI g) = g from nI_clamp hg, show cl (nI g') = g' from nI_clamp (by omega)] at this; exact this.symm))]; exact hm g' hg')) h0 h1 rfl kx
      ·
        refine w_if_eq (t := 61) dX2_findLost_33 rfl (fun _ => ?_) (fun h => absurd (by decide) h)
        refine w_iinc dX2_findLost_61 h2 (nI_1 _) (lb rfl) ?_
        refine w_goto (t := 11) dX2_findLost_64 rfl ?_
        exact ih (i + 1) _ _ _ (by omega) R (by omega) hf (fun g' hg' => by rw [mnI, fo, if_neg (fun e2 => e30 (by rw [e2, nI_toInt (by omega)]; omega))]; exact hm g' hg') h0 h1 rfl kx
theorem c2_fl2 {s0 : rx_S} {τ : tx_T} (hT0 : CT E s0 τ) (hS0 : rx_in s0) (hV : TV τ)  : ∀ (d : Nat) (i : Nat) (L : mx_L) (s : rx_S) (G : mx_H), tN τ 1 - i < d → rx_R b0 O z1 z2 s G → i ≤ tN τ 1 → cf wN s0 s → (∀ g, g < 16 → rI s 10 2 g = mnI τ g (tN τ 1)) → (∀ a, a < i → rX s 20 a 11 = .inl (.int (b32 (lostB τ a)))) → L 0 = some (.ref (rA s 4 0)) → L 1 = some (.ref (rA s 8 0)) → L 2 = some (.int (nI i)) → (∀ (s' : rx_S) (G' : mx_H), rx_R b0 O z1 z2 s' G' → cf wN s0 s' → (∀ a, a < tN τ 1 → rX s' 20 a 11 = .inl (.int (b32 (lostB τ a)))) → Q (.inl none) G') → mx_W (gt_P b0 mi E) mX2_findLost 69 L [] G Q := by
  intro d
  induction d with
  | zero => intro i L s G hd; exact absurd hd (Nat.not_lt_zero _)
  | succ d ih =>
    intro i L s G hd R hi hf hm hl h0 h1 h2 kx
    have hT := CT_cf hT0 hS0 hf
    have hS := hf.inn hS0
    have hV0 := hV.1
    refine w_iload_n dX2_findLost_69 h2 ?_
    refine w_aload_n dX2_findLost_70 h1 ?_
    refine r_inv0  dX2_findLost_71 mt_2_58 R rfl (hS _ _ rfl) rfl (lb rfl) (lb rfl) (lb rfl) (lb rfl) rfl (c_lsize R rfl (hS _ _ rfl) (cT_l0 hT).2.1 ⟨_, rfl, ?_⟩)
    refine r_icmp_gen (t := 125) dX2_findLost_74 rfl (by omega) (by omega) (fun h74 => ?_) (fun h74 => ?_)
    ·
      refine w_ret dX2_findLost_125 rfl ?_
      obtain rfl : i = tN τ 1 := by omega
      exact kx _ _ R hf hl
    ·
      have hin : i < tN τ 1 := by omega
      have huS := cT_Su hT hin
      refine w_aload_n dX2_findLost_77 h1 ?_
      refine w_iload_n dX2_findLost_78 h2 ?_
      refine r_inv1  dX2_findLost_79 mt_2_64 R rfl (hS _ _ rfl) rfl (lb rfl) (lb rfl) (lb rfl) (lb rfl) rfl (c_lget R rfl (hS _ _ rfl) (cT_l0 hT) hin ⟨_, rfl, ?_⟩)
      refine r_cast dX2_findLost_82 qt_2_68 R rfl huS rfl (by decide) ?_
      refine w_astore_n dX2_findLost_85 (lb rfl) ?_
      refine w_aload_n dX2_findLost_86 rfl ?_
      refine w_aload_n dX2_findLost_87 h0 ?_
      refine w_aload_n dX2_findLost_88 rfl ?_
      refine r_inv1  dX2_findLost_89 mt_2_70 R rfl (hS _ _ rfl) rfl (lb rfl) (lb rfl) (lb rfl) (lb rfl) rfl (c2_hasGroup R hS hT hV hin (fun e30 => ⟨_, rfl, ?_⟩) (fun e30 => ⟨_, rfl, ?_⟩))
      ·
        refine w_if_eq (t := 115) dX2_findLost_92 rfl (fun h => absurd h (by decide)) (fun _ => ?_)
        obtain ⟨g, hg, hge⟩ := nI_ofI e30
        have hgb := (hV.2.1 i hin).2.2.2.2.2.2.1.2
        rw [hge, nI_toInt hg] at hgb
        have hx : rX s 20 i 10 = .inl (.int (nI g)) := (cT_S hT hin 10 rfl).trans (congrArg (fun q => Sum.inl (Value.int q)) hge)
        have hg16 : g < 16 := by omega
        refine w_aload_n dX2_findLost_95 h0 ?_
        refine r_getr  dX2_findLost_96 ft_2_9 R rfl (hS _ _ rfl) rfl (lb rfl) (cT_s hT 4 0 rfl) ?_
        refine w_aload_n dX2_findLost_99 rfl ?_
        refine r_geti  dX2_findLost_100 ft_2_74 R rfl huS rfl (lb rfl) hx ?_
        refine r_iald  dX2_findLost_103 R rfl (hS _ _ rfl) rfl rfl hg16 (lb rfl) (hm g hg16) ?_
        refine w_aload_n dX2_findLost_104 rfl ?_
        refine r_geti  dX2_findLost_105 ft_2_77 R rfl (cT_Su hT hin) rfl (lb rfl) (cT_S hT hin 1 rfl) ?_
        refine r_icmp_gei (t := 115) dX2_findLost_108 rfl (fun h108 => ?_) (fun h108 => ?_)
        ·
          refine w_iconst (v := 0) dX2_findLost_115 (by decide) ?_
          refine r_puti  dX2_findLost_116 ft_2_86 R rfl huS rfl (lb rfl) (fun h => by cases h) rfl rfl (fun G1 R1 => ?_)
          refine w_iinc dX2_findLost_119 h2 (nI_1 _) (lb rfl) ?_
          refine w_goto (t := 69) dX2_findLost_122 rfl ?_
          have el : lostB τ i = false := (lost_mn hV hin hg16 hge).trans (by rw [decide_eq_false_iff_not]; omega)
          exact ih (i + 1) _ _ _ (by omega) R1 (by omega) hf.X hm (fun a ha => by
            by_cases e : a = i
            · rw [e, el]; exact sX_s
            · exact (sX_p (by omega)).trans (hl a (by omega))) h0 h1 rfl kx
        ·
          refine w_iconst (v := 1) dX2_findLost_111 (by decide) ?_
          refine w_goto (t := 116) dX2_findLost_112 rfl ?_
          refine r_puti  dX2_findLost_116 ft_2_86 R rfl huS rfl (lb rfl) (fun h => by cases h) rfl rfl (fun G2 R2 => ?_)
          refine w_iinc dX2_findLost_119 h2 (nI_1 _) (lb rfl) ?_
          refine w_goto (t := 69) dX2_findLost_122 rfl ?_
          have el : lostB τ i = true := (lost_mn hV hin hg16 hge).trans (by rw [decide_eq_true_iff]; omega)
          exact ih (i + 1) _ _ _ (by omega) R2 (by omega) hf.X hm (fun a ha => by
            by_cases e : a = i
            · rw [e, el]; exact sX_s
            · exact (sX_p (by omega)).trans (hl a (by omega))) h0 h1 rfl kx
      ·
        refine w_if_eq (t := 115) dX2_findLost_92 rfl (fun _ => ?_) (fun h => absurd (by decide) h)
        refine w_iconst (v := 0) dX2_findLost_115 (by decide) ?_
        refine r_puti  dX2_findLost_116 ft_2_86 R rfl huS rfl (lb rfl) (fun h => by cases h) rfl rfl (fun G3 R3 => ?_)
        refine w_iinc dX2_findLost_119 h2 (nI_1 _) (lb rfl) ?_
        refine w_goto (t := 69) dX2_findLost_122 rfl ?_
        have el : lostB τ i = false := lost_no (τ := τ) (i := i) (Int.not_le.mp e30) (hV.2.1 i hin).2.2.2.2.2.2.1.1
        exact ih (i + 1) _ _ _ (by omega) R3 (by omega) hf.X hm (fun a ha => by
          by_cases e : a = i
          · rw [e, el]; exact sX_s
          · exact (sX_p (by omega)).trans (hl a (by omega))) h0 h1 rfl kx
theorem c2_findLost (R : rx_R b0 O z1 z2 s G) (hS : rx_in s) {τ : tx_T} (hT : CT E s τ) (hV : TV τ) (q : ∀ (s' : rx_S) (G' : mx_H), rx_R b0 O z1 z2 s' G' → cf wN s s' → (∀ a, a < tN τ 1 → rX s' 20 a 11 = .inl (.int (b32 (lostB τ a)))) → Q (.inl none) G') : mx_W (gt_P b0 mi E) mX2_findLost 0 (mx_en 0 [.ref (rA s 4 0), .ref (rA s 8 0)]) [] G Q := by
  have hV0 := hV.1
  refine w_aload_n dX2_findLost_0 rfl ?_
  refine r_getr  dX2_findLost_1 ft_2_9 R rfl (hS _ _ rfl) rfl (lb rfl) (cT_s hT 4 0 rfl) ?_
  refine w_bipush (v := nI 12) dX2_findLost_4 (by decide) ?_
  refine r_stat2 dX2_findLost_6 mt_2_52 (lb rfl) (lb rfl) (lb rfl) (lb rfl) rfl (c_filli R (hS _ _ rfl) rfl (by omega) (fun G1 R1 => ⟨_, rfl, ?_⟩))
  refine w_iconst (v := nI 0) dX2_findLost_9 (by decide) ?_
  refine w_istore_n dX2_findLost_10 (lb rfl) ?_
  refine c2_fl1 hT hS hV _ 0 _ (sFI s 2 16 12) _ (Nat.lt_succ_self _) R1 (Nat.zero_le _) (cf.rf wN s).FI (fun g hg => sFI_at hg) rfl rfl rfl (fun L2 s2 G2 R2 hf2 hm2 h0 h1 => ?_)
  refine w_iconst (v := nI 0) dX2_findLost_67 (by decide) ?_
  refine w_istore_n dX2_findLost_68 (lb rfl) ?_
  exact c2_fl2 hT hS hV _ 0 _ s2 _ (Nat.lt_succ_self _) R2 (Nat.zero_le _) hf2 hm2 (fun a ha => absurd ha (Nat.not_lt_zero _)) h0 h1 rfl q
theorem c2_defOf (R : rx_R b0 O z1 z2 s G) (hS : rx_in s) {τ : tx_T} (hT : CT E s τ) (hV : TV τ) {n : Nat} (hn : n < 64) {o : Option Nat} (ho : rQ s 10 3 n = o24 o) (q : Q (.inl (some (rv24 s o))) G) : mx_W (gt_P b0 mi E) mX2_definitionOf 0 (mx_en 0 [.ref (rA s 4 0), .int (nI n)]) [] G Q := by
  have hV0 := hV.1
  have en := nI_toInt (n := n) (by omega)
  have e64 : (nI 64).toInt = 64 := rfl
  cases o with
  | none =>
    refine w_iload_n dX2_definitionOf_0 rfl ?_
    refine r_if_lti (t := 22) dX2_definitionOf_1 rfl (fun h => by omega) (fun h1 => ?_)
    refine w_iload_n dX2_definitionOf_4 rfl ?_
    refine w_aload_n dX2_definitionOf_5 rfl ?_
    refine r_getr  dX2_definitionOf_6 ft_2_17 R rfl (hS _ _ rfl) rfl (lb rfl) (cT_s hT 4 1 rfl) ?_
    refine r_alen  dX2_definitionOf_9 R rfl (hS _ _ rfl) rfl rfl (lb rfl) ?_
    refine r_icmp_gei (t := 22) dX2_definitionOf_10 rfl (fun h => by omega) (fun h10 => ?_)
    refine w_aload_n dX2_definitionOf_13 rfl ?_
    refine r_getr  dX2_definitionOf_14 ft_2_17 R rfl (hS _ _ rfl) rfl (lb rfl) (cT_s hT 4 1 rfl) ?_
    refine w_iload_n dX2_definitionOf_17 rfl ?_
    refine r_aaldN dX2_definitionOf_18 R rfl (hS _ _ rfl) rfl rfl (lb rfl) hn (lb rfl) ho ?_
    refine w_goto (t := 23) dX2_definitionOf_19 rfl ?_
    exact w_aret (x := none) dX2_definitionOf_23 rfl (by first | exact Or.inl ⟨_, rfl⟩ | exact Or.inr ⟨_, rfl⟩) q
  | some k =>
    refine w_iload_n dX2_definitionOf_0 rfl ?_
    refine r_if_lti (t := 22) dX2_definitionOf_1 rfl (fun h => by omega) (fun h1 => ?_)
    refine w_iload_n dX2_definitionOf_4 rfl ?_
    refine w_aload_n dX2_definitionOf_5 rfl ?_
    refine r_getr  dX2_definitionOf_6 ft_2_17 R rfl (hS _ _ rfl) rfl (lb rfl) (cT_s hT 4 1 rfl) ?_
    refine r_alen  dX2_definitionOf_9 R rfl (hS _ _ rfl) rfl rfl (lb rfl) ?_
    refine r_icmp_gei (t := 22) dX2_definitionOf_10 rfl (fun h => by omega) (fun h10 => ?_)
    refine w_aload_n dX2_definitionOf_13 rfl ?_
    refine r_getr  dX2_definitionOf_14 ft_2_17 R rfl (hS _ _ rfl) rfl (lb rfl) (cT_s hT 4 1 rfl) ?_
    refine w_iload_n dX2_definitionOf_17 rfl ?_
    refine r_aaldr dX2_definitionOf_18 R rfl (hS _ _ rfl) rfl rfl (lb rfl) hn (lb rfl) ho ?_
    refine w_goto (t := 23) dX2_definitionOf_19 rfl ?_
    exact w_aret (x := some _) dX2_definitionOf_23 rfl (by first | exact Or.inl ⟨_, rfl⟩ | exact Or.inr ⟨_, rfl⟩) q
theorem c2_take (R : rx_R b0 O z1 z2 s G) (hS : rx_in s) {τ : tx_T} (hT : CT E s τ) (hV : TV τ) {k : Nat} (hk : k < tN τ 2) {D : Nat → Option Nat} (hD : ∀ n, n < 64 → rQ s 10 3 n = o24 (D n)) (hDl : ∀ e, D (cl (tT τ 16 k)) = some e → e < tN τ 2) (q1 : (D (cl (tT τ 16 k)) = none ∨ ∃ e, D (cl (tT τ 16 k)) = some e ∧ tT τ 19 e = 2 ∧ tT τ 19 k = 1) → ∀ G', rx_R b0 O z1 z2 (sQ s 10 3 (cl (tT τ 16 k)) (some (24, k))) G' → Q (.inl (some (.int 1))) G') (q2 : ¬ (D (cl (tT τ 16 k)) = none ∨ ∃ e, D (cl (tT τ 16 k)) = some e ∧ tT τ 19 e = 2 ∧ tT τ 19 k = 1) → tT τ 19 k = 2 → Q (.inl (some (.int 1))) G) (q3 : ¬ (D (cl (tT τ 16 k)) = none ∨ ∃ e, D (cl (tT τ 16 k)) = some e ∧ tT τ 19 e = 2 ∧ tT τ 19 k = 1) → ¬ tT τ 19 k = 2 → Q (.inl (some (.int 0))) G) : mx_W (gt_P b0 mi E) mX2_takeDefinition 0 (mx_en 0 [.ref (rA s 4 0), .ref (rA s 24 k)]) [] G Q := by
  have hV0 := hV.1
  have huk := cT_Yu hT hk
  have h16 := (hV.2.2.1 k hk).2.1
  have hn2 := clI h16.1
  have hn : cl (tT τ 16 k) < 64 := by omega
  have e64 : (nI 64).toInt = 64 := rfl
  have hx : rX s 24 k 1 = .inl (.int (nI (cl (tT τ 16 k)))) := (cT_Y hT hk 1 (lb rfl)).trans (congrArg (fun q => Sum.inl (Value.int q)) (by obtain ⟨j, hj, e⟩ := nI_ofI h16.1; rw [e, show cl (nI j) = j from nI_clamp hj]))
  have en0 := nI_toInt (n := cl (tT τ 16 k)) (by omega)
  cases en : D (cl (tT τ 16 k)) with
  | none =>
    have hD9 : rQ s 10 3 (cl (tT τ 16 k)) = o24 none := by rw [hD _ hn, en]
    refine w_aload_n dX2_takeDefinition_0 rfl ?_
    refine w_aload_n dX2_takeDefinition_1 rfl ?_
    refine r_geti  dX2_takeDefinition_2 ft_2_98 R rfl huk rfl (lb rfl) hx ?_
    refine r_inv1  dX2_takeDefinition_5 mt_2_48 R rfl (hS _ _ rfl) rfl (lb rfl) (lb rfl) (lb rfl) (lb rfl) rfl (c2_defOf R hS hT hV hn hD9 ⟨_, rfl, ?_⟩)
    refine w_astore_nN dX2_takeDefinition_8 (lb rfl) ?_
    refine w_aload_nN dX2_takeDefinition_9 rfl ?_
    refine r_nullT (t := 29) dX2_takeDefinition_10 rfl ?_
    refine w_iconst (v := 1) dX2_takeDefinition_29 (by decide) ?_
    refine w_goto (t := 34) dX2_takeDefinition_30 rfl ?_
    refine w_istore_n dX2_takeDefinition_34 (lb rfl) ?_
    refine w_iload_n dX2_takeDefinition_35 rfl ?_
    refine w_if_eq (t := 68) dX2_takeDefinition_36 rfl (fun h => absurd h (by decide)) (fun _ => ?_)
    refine w_aload_n dX2_takeDefinition_39 rfl ?_
    refine r_geti  dX2_takeDefinition_40 ft_2_98 R rfl huk rfl (lb rfl) hx ?_
    refine r_if_lti (t := 68) dX2_takeDefinition_43 rfl (fun h => by omega) (fun h43 => ?_)
    refine w_aload_n dX2_takeDefinition_46 rfl ?_
    refine r_geti  dX2_takeDefinition_47 ft_2_98 R rfl huk rfl (lb rfl) hx ?_
    refine w_aload_n dX2_takeDefinition_50 rfl ?_
    refine r_getr  dX2_takeDefinition_51 ft_2_17 R rfl (hS _ _ rfl) rfl (lb rfl) (cT_s hT 4 1 rfl) ?_
    refine r_alen  dX2_takeDefinition_54 R rfl (hS _ _ rfl) rfl rfl (lb rfl) ?_
    refine r_icmp_gei (t := 68) dX2_takeDefinition_55 rfl (fun h => by omega) (fun h55 => ?_)
    refine w_aload_n dX2_takeDefinition_58 rfl ?_
    refine r_getr  dX2_takeDefinition_59 ft_2_17 R rfl (hS _ _ rfl) rfl (lb rfl) (cT_s hT 4 1 rfl) ?_
    refine w_aload_n dX2_takeDefinition_62 rfl ?_
    refine r_geti  dX2_takeDefinition_63 ft_2_98 R rfl huk rfl (lb rfl) hx ?_
    refine w_aload_n dX2_takeDefinition_66 rfl ?_
    refine r_aastr  dX2_takeDefinition_67 R rfl (hS _ _ rfl) rfl rfl (lb rfl) hn (lb rfl) rfl huk rfl rfl (fun G1 R1 => ?_)
    refine w_iload_n dX2_takeDefinition_68 rfl ?_
    refine w_if_ne (t := 80) dX2_takeDefinition_69 rfl (fun _ => ?_) (fun h => absurd (by decide) h)
    refine w_iconst (v := 1) dX2_takeDefinition_80 (by decide) ?_
    refine w_goto (t := 85) dX2_takeDefinition_81 rfl ?_
    exact w_iret dX2_takeDefinition_85 rfl rfl (q1 (Or.inl en) _ R1)
  | some e =>
    have hD9 : rQ s 10 3 (cl (tT τ 16 k)) = o24 (some e) := by rw [hD _ hn, en]
    refine w_aload_n dX2_takeDefinition_0 rfl ?_
    refine w_aload_n dX2_takeDefinition_1 rfl ?_
    refine r_geti  dX2_takeDefinition_2 ft_2_98 R rfl huk rfl (lb rfl) hx ?_
    refine r_inv1  dX2_takeDefinition_5 mt_2_48 R rfl (hS _ _ rfl) rfl (lb rfl) (lb rfl) (lb rfl) (lb rfl) rfl (c2_defOf R hS hT hV hn hD9 ⟨_, rfl, ?_⟩)
    refine w_astore_n dX2_takeDefinition_8 (lb rfl) ?_
    refine w_aload_n dX2_takeDefinition_9 rfl ?_
    refine r_nullF (t := 29) dX2_takeDefinition_10 rfl ?_
    refine w_aload_n dX2_takeDefinition_13 rfl ?_
    refine r_geti  dX2_takeDefinition_14 ft_2_101 R rfl (cT_Yu hT (hDl e en)) rfl (lb rfl) (cT_Y hT (hDl e en) 4 (lb rfl)) ?_
    refine w_iconst (v := 2) dX2_takeDefinition_17 (by decide) ?_
    refine r_icmp_neP (t := 33) dX2_takeDefinition_18 rfl (fun h18 => ?_) (fun h18 => ?_)
    ·
      refine w_iconst (v := 0) dX2_takeDefinition_33 (by decide) ?_
      refine w_istore_n dX2_takeDefinition_34 (lb rfl) ?_
      refine w_iload_n dX2_takeDefinition_35 rfl ?_
      refine w_if_eq (t := 68) dX2_takeDefinition_36 rfl (fun _ => ?_) (fun h => absurd (by decide) h)
      refine w_iload_n dX2_takeDefinition_68 rfl ?_
      refine w_if_ne (t := 80) dX2_takeDefinition_69 rfl (fun h => absurd h (by decide)) (fun _ => ?_)
      refine w_aload_n dX2_takeDefinition_72 rfl ?_
      refine r_geti  dX2_takeDefinition_73 ft_2_101 R rfl huk rfl (lb rfl) (cT_Y hT hk 4 (lb rfl)) ?_
      refine w_iconst (v := 2) dX2_takeDefinition_76 (by decide) ?_
      refine r_icmp_neP (t := 84) dX2_takeDefinition_77 rfl (fun h77 => ?_) (fun h77 => ?_)
      ·
        refine w_iconst (v := 0) dX2_takeDefinition_84 (by decide) ?_
        exact w_iret dX2_takeDefinition_85 rfl rfl (q3 (fun h => h.elim (fun e => by rw [en] at e; cases e) (fun ⟨_, a, b, _⟩ => by rw [en] at a; cases a; exact h18 b)) h77)
      ·
        refine w_iconst (v := 1) dX2_takeDefinition_80 (by decide) ?_
        refine w_goto (t := 85) dX2_takeDefinition_81 rfl ?_
        exact w_iret dX2_takeDefinition_85 rfl rfl (q2 (fun h => h.elim (fun e => by rw [en] at e; cases e) (fun ⟨_, a, b, _⟩ => by rw [en] at a; cases a; exact h18 b)) h77)
    ·
      refine w_aload_n dX2_takeDefinition_21 rfl ?_
      refine r_geti  dX2_takeDefinition_22 ft_2_101 R rfl (cT_Yu hT hk) rfl (lb rfl) (cT_Y hT hk 4 (lb rfl)) ?_
      refine w_iconst (v := 1) dX2_takeDefinition_25 (by decide) ?_
      refine r_icmp_neP (t := 33) dX2_takeDefinition_26 rfl (fun h26 => ?_) (fun h26 => ?_)
      ·
        refine w_iconst (v := 0) dX2_takeDefinition_33 (by decide) ?_
        refine w_istore_n dX2_takeDefinition_34 (lb rfl) ?_
        refine w_iload_n dX2_takeDefinition_35 rfl ?_
        refine w_if_eq (t := 68) dX2_takeDefinition_36 rfl (fun _ => ?_) (fun h => absurd (by decide) h)
        refine w_iload_n dX2_takeDefinition_68 rfl ?_
        refine w_if_ne (t := 80) dX2_takeDefinition_69 rfl (fun h => absurd h (by decide)) (fun _ => ?_)
        refine w_aload_n dX2_takeDefinition_72 rfl ?_
        refine r_geti  dX2_takeDefinition_73 ft_2_101 R rfl huk rfl (lb rfl) (cT_Y hT hk 4 (lb rfl)) ?_
        refine w_iconst (v := 2) dX2_takeDefinition_76 (by decide) ?_
        refine r_icmp_neP (t := 84) dX2_takeDefinition_77 rfl (fun h77 => ?_) (fun h77 => ?_)
        ·
          refine w_iconst (v := 0) dX2_takeDefinition_84 (by decide) ?_
          exact w_iret dX2_takeDefinition_85 rfl rfl (q3 (fun h => h.elim (fun e => by rw [en] at e; cases e) (fun ⟨_, _, _, b⟩ => h26 b)) h77)
        ·
          refine w_iconst (v := 1) dX2_takeDefinition_80 (by decide) ?_
          refine w_goto (t := 85) dX2_takeDefinition_81 rfl ?_
          exact w_iret dX2_takeDefinition_85 rfl rfl (q2 (fun h => h.elim (fun e => by rw [en] at e; cases e) (fun ⟨_, _, _, b⟩ => h26 b)) h77)
      ·
        refine w_iconst (v := 1) dX2_takeDefinition_29 (by decide) ?_
        refine w_goto (t := 34) dX2_takeDefinition_30 rfl ?_
        refine w_istore_n dX2_takeDefinition_34 (lb rfl) ?_
        refine w_iload_n dX2_takeDefinition_35 rfl ?_
        refine w_if_eq (t := 68) dX2_takeDefinition_36 rfl (fun h => absurd h (by decide)) (fun _ => ?_)
        refine w_aload_n dX2_takeDefinition_39 rfl ?_
        refine r_geti  dX2_takeDefinition_40 ft_2_98 R rfl huk rfl (lb rfl) hx ?_
        refine r_if_lti (t := 68) dX2_takeDefinition_43 rfl (fun h => by omega) (fun h43 => ?_)
        refine w_aload_n dX2_takeDefinition_46 rfl ?_
        refine r_geti  dX2_takeDefinition_47 ft_2_98 R rfl huk rfl (lb rfl) hx ?_
        refine w_aload_n dX2_takeDefinition_50 rfl ?_
        refine r_getr  dX2_takeDefinition_51 ft_2_17 R rfl (hS _ _ rfl) rfl (lb rfl) (cT_s hT 4 1 rfl) ?_
        refine r_alen  dX2_takeDefinition_54 R rfl (hS _ _ rfl) rfl rfl (lb rfl) ?_
        refine r_icmp_gei (t := 68) dX2_takeDefinition_55 rfl (fun h => by omega) (fun h55 => ?_)
        refine w_aload_n dX2_takeDefinition_58 rfl ?_
        refine r_getr  dX2_takeDefinition_59 ft_2_17 R rfl (hS _ _ rfl) rfl (lb rfl) (cT_s hT 4 1 rfl) ?_
        refine w_aload_n dX2_takeDefinition_62 rfl ?_
        refine r_geti  dX2_takeDefinition_63 ft_2_98 R rfl huk rfl (lb rfl) hx ?_
        refine w_aload_n dX2_takeDefinition_66 rfl ?_
        refine r_aastr  dX2_takeDefinition_67 R rfl (hS _ _ rfl) rfl rfl (lb rfl) hn (lb rfl) rfl huk rfl rfl (fun G1 R1 => ?_)
        refine w_iload_n dX2_takeDefinition_68 rfl ?_
        refine w_if_ne (t := 80) dX2_takeDefinition_69 rfl (fun _ => ?_) (fun h => absurd (by decide) h)
        refine w_iconst (v := 1) dX2_takeDefinition_80 (by decide) ?_
        refine w_goto (t := 85) dX2_takeDefinition_81 rfl ?_
        exact w_iret dX2_takeDefinition_85 rfl rfl (q1 (Or.inr ⟨e, en, h18, h26⟩) _ R1)
theorem c2_fd1 {s0 : rx_S} {τ : tx_T} (hT0 : CT E s0 τ) (hS0 : rx_in s0) (hV : TV τ)  : ∀ (d : Nat) (n : Nat) (L : mx_L) (s : rx_S) (G : mx_H), 64 - n < d → rx_R b0 O z1 z2 s G → n ≤ 64 → cf wN s0 s → (∀ a, a < tN τ 1 → rX s 20 a 11 = .inl (.int (b32 (lostB τ a)))) → (∀ m, m < n → rQ s 10 3 m = none) → L 0 = some (.ref (rA s 4 0)) → L 1 = some (.ref (rA s 8 1)) → L 2 = some (.int (nI n)) → (∀ (L : mx_L) (s : rx_S) (G : mx_H), rx_R b0 O z1 z2 s G → cf wN s0 s → (∀ a, a < tN τ 1 → rX s 20 a 11 = .inl (.int (b32 (lostB τ a)))) → (∀ m, m < 64 → rQ s 10 3 m = none) → L 0 = some (.ref (rA s 4 0)) → L 1 = some (.ref (rA s 8 1)) → mx_W (gt_P b0 mi E) mX2_findDefinitions 24 L [] G Q) → mx_W (gt_P b0 mi E) mX2_findDefinitions 2 L [] G Q := by
  intro d
  induction d with
  | zero => intro n L s G hd; exact absurd hd (Nat.not_lt_zero _)
  | succ d ih =>
    intro n L s G hd R hn hf hl hd h0 h1 h2 kx
    have hT := CT_cf hT0 hS0 hf
    have hS := hf.inn hS0
    have hV0 := hV.1
    refine w_iload_n dX2_findDefinitions_2 h2 ?_
    refine w_aload_n dX2_findDefinitions_3 h0 ?_
    refine r_getr  dX2_findDefinitions_4 ft_2_17 R rfl (hS _ _ rfl) rfl (lb rfl) (cT_s hT 4 1 rfl) ?_
    refine r_alen  dX2_findDefinitions_7 R rfl (hS _ _ rfl) rfl rfl (lb rfl) ?_
    refine r_icmp_gen (t := 24) dX2_findDefinitions_8 rfl (by omega) (by omega) (fun h8 => ?_) (fun h8 => ?_)
    ·
      obtain rfl : n = 64 := by omega
      exact kx _ _ _ R hf hl hd h0 h1
    ·
      refine w_aload_n dX2_findDefinitions_11 h0 ?_
      refine r_getr  dX2_findDefinitions_12 ft_2_17 R rfl (hS _ _ rfl) rfl (lb rfl) (cT_s hT 4 1 rfl) ?_
      refine w_iload_n dX2_findDefinitions_15 h2 ?_
      refine w_null dX2_findDefinitions_16 ?_
      refine r_aastN dX2_findDefinitions_17 R rfl (hS _ _ rfl) rfl rfl (lb rfl) (by omega) (lb rfl) (fun G1 R1 => ?_)
      refine w_iinc dX2_findDefinitions_18 h2 (nI_1 _) (lb rfl) ?_
      refine w_goto (t := 2) dX2_findDefinitions_21 rfl ?_
      exact ih (n + 1) _ _ _ (by omega) R1 (by omega) hf.Q hl (fun m hm => sQ_at.trans (by
        by_cases e : m = n
        · rw [if_pos e]
        · rw [if_neg e]; exact hd m (by omega))) h0 h1 rfl kx
theorem c2_fd2 {s0 : rx_S} {τ : tx_T} (hT0 : CT E s0 τ) (hS0 : rx_in s0) (hV : TV τ)  : ∀ (d : Nat) (k : Nat) (L : mx_L) (s : rx_S) (G : mx_H), tN τ 2 - k < d → rx_R b0 O z1 z2 s G → k ≤ tN τ 2 → cf wN s0 s → (∀ a, a < tN τ 1 → rX s 20 a 11 = .inl (.int (b32 (lostB τ a)))) → (∀ m, m < 64 → rQ s 10 3 m = o24 (dfK τ (nI m) k)) → (∀ j, j < k → is2 τ j = false) → L 0 = some (.ref (rA s 4 0)) → L 1 = some (.ref (rA s 8 1)) → L 2 = some (.int (nI k)) → (∀ (s' : rx_S) (G' : mx_H), rx_R b0 O z1 z2 s' G' → cf wN s0 s' → (∀ a, a < tN τ 1 → rX s' 20 a 11 = .inl (.int (b32 (lostB τ a)))) → (∀ m, m < 64 → rQ s' 10 3 m = o24 (defO τ (nI m))) → secO τ = none → Q (.inl (some (.int (-1)))) G') → (∀ (s' : rx_S) (G' : mx_H), rx_R b0 O z1 z2 s' G' → cf wN s0 s' → (∀ a, a < tN τ 1 → rX s' 20 a 11 = .inl (.int (b32 (lostB τ a)))) → ∀ k, k < tN τ 2 → secO τ = some k → Q (.inl (some (.int (nI k)))) G') → mx_W (gt_P b0 mi E) mX2_findDefinitions 26 L [] G Q := by
  intro d
  induction d with
  | zero => intro k L s G hd; exact absurd hd (Nat.not_lt_zero _)
  | succ d ih =>
    intro k L s G hd R hk hf hl hd h22 h0 h1 h2 kx kn
    have hT := CT_cf hT0 hS0 hf
    have hS := hf.inn hS0
    have hV0 := hV.1
    refine w_iload_n dX2_findDefinitions_26 h2 ?_
    refine w_aload_n dX2_findDefinitions_27 h1 ?_
    refine r_inv0  dX2_findDefinitions_28 mt_2_58 R rfl (hS _ _ rfl) rfl (lb rfl) (lb rfl) (lb rfl) (lb rfl) rfl (c_lsize R rfl (hS _ _ rfl) (cT_l1 hT).2.1 ⟨_, rfl, ?_⟩)
    refine r_icmp_gen (t := 66) dX2_findDefinitions_31 rfl (by omega) (by omega) (fun h31 => ?_) (fun h31 => ?_)
    ·
      refine w_iconst (v := (-1)) dX2_findDefinitions_66 (by decide) ?_
      refine w_iret dX2_findDefinitions_67 rfl rfl ?_
      obtain rfl : k = tN τ 2 := by omega
      exact kx _ _ R hf hl hd (fst1_none.mpr h22)
    ·
      have hkn : k < tN τ 2 := by omega
      have huY := cT_Yu hT hkn
      have h19r := (hV.2.2.1 k hkn).2.2.2.2.1
      have h17r := (hV.2.2.1 k hkn).2.2.1
      refine w_aload_n dX2_findDefinitions_34 h1 ?_
      refine w_iload_n dX2_findDefinitions_35 h2 ?_
      refine r_inv1  dX2_findDefinitions_36 mt_2_64 R rfl (hS _ _ rfl) rfl (lb rfl) (lb rfl) (lb rfl) (lb rfl) rfl (c_lget R rfl (hS _ _ rfl) (cT_l1 hT) hkn ⟨_, rfl, ?_⟩)
      refine r_cast dX2_findDefinitions_39 qt_2_15 R rfl huY rfl (by decide) ?_
      refine w_astore_n dX2_findDefinitions_42 (lb rfl) ?_
      have hml : ∀ j, hmO (tT τ 17 k) = some j → j < tN τ 1 := fun j ej => by
        unfold hmO at ej
        by_cases e : 0 ≤ (tT τ 17 k).toInt
        · rw [if_pos e] at ej; cases ej; have := clI e; omega
        · rw [if_neg e] at ej; cases ej
      refine w_aload_n dX2_findDefinitions_43 rfl ?_
      refine r_inv0  dX2_findDefinitions_44 mt_2_90 R rfl huY rfl (lb rfl) (lb rfl) (lb rfl) (lb rfl) rfl (c6_def R huY (f := fun j => b32 (lostB τ j)) (cT_Y hT hkn 4 (lb rfl)) (cT_Y hT hkn 2 (lb rfl)) (fun j ej => ⟨cT_Su hT (hml j ej), hl j (hml j ej)⟩) (fun e44 => ⟨_, rfl, ?_⟩) (fun e44 => ⟨_, rfl, ?_⟩))
      ·
        have hD : isD τ (tT τ 16 k) k = true := by
          obtain ⟨a1, j, a2, a3⟩ := e44
          unfold hmO at a2
          by_cases e : 0 ≤ (tT τ 17 k).toInt
          · rw [if_pos e] at a2; cases a2
            have a4 : lostB τ (cl (tT τ 17 k)) = false := b32_eq a3
            have a5 : 0 < (tT τ 19 k).toInt := by
              have : ¬ (tT τ 19 k).toInt = 0 := fun q => a1 (Int32.toInt_inj.mp q)
              omega
            unfold isD; rw [a4]; simp [a5, e]
          · rw [if_neg e] at a2; cases a2
        have h19 : tT τ 19 k = 1 ∨ tT τ 19 k = 2 := by
          have : ¬ (tT τ 19 k).toInt = 0 := fun q => e44.1 (Int32.toInt_inj.mp q)
          have : (tT τ 19 k).toInt = 1 ∨ (tT τ 19 k).toInt = 2 := by omega
          exact this.imp (fun q => Int32.toInt_inj.mp q) (fun q => Int32.toInt_inj.mp q)
        have ot : ∀ m, m < 64 → m ≠ cl (tT τ 16 k) → dfK τ (nI m) (k + 1) = dfK τ (nI m) k := fun m hm hne => dfK_o (by
          cases e : isD τ (nI m) k
          · rfl
          · exact absurd (by rw [isD_n e]; exact (nI_clamp (by omega)).symm) hne)
        have en : nI (cl (tT τ 16 k)) = tT τ 16 k := by obtain ⟨j, hj, e⟩ := nI_ofI (hV.2.2.1 k hkn).2.1.1; rw [e, show cl (nI j) = j from nI_clamp hj]
        have hn64 : cl (tT τ 16 k) < 64 := by have := (hV.2.2.1 k hkn).2.1; have := clI this.1; omega
        refine w_if_eq (t := 60) dX2_findDefinitions_47 rfl (fun h => absurd h (by decide)) (fun _ => ?_)
        refine w_aload_n dX2_findDefinitions_50 h0 ?_
        refine w_aload_n dX2_findDefinitions_51 rfl ?_
        refine r_inv1  dX2_findDefinitions_52 mt_2_94 R rfl (hS _ _ rfl) rfl (lb rfl) (lb rfl) (lb rfl) (lb rfl) rfl (c2_take R hS hT hV hkn (D := fun m => dfK τ (nI m) k) hd (fun e he => by have := (dfK_lt he).1; omega) (fun e52 G1 R1 => ⟨_, rfl, ?_⟩) (fun e52 e52b => ⟨_, rfl, ?_⟩) (fun e52 e52b => ⟨_, rfl, ?_⟩))
        ·
          have e52 := e52
          simp only [en] at e52
          refine w_if_ne (t := 60) dX2_findDefinitions_55 rfl (fun _ => ?_) (fun h => absurd (by decide) h)
          refine w_iinc dX2_findDefinitions_60 h2 (nI_1 _) (lb rfl) ?_
          refine w_goto (t := 26) dX2_findDefinitions_63 rfl ?_
          exact ih (k + 1) _ _ _ (by omega) R1 (by omega) hf.Q hl (fun m hm => sQ_at.trans (by
            by_cases e : m = cl (tT τ 16 k)
            · rw [if_pos e, e, en, (dfK_s hD h19 e52).1]; rfl
            · rw [if_neg e, ot m hm e]; exact hd m hm)) (fun j hj => by
            by_cases e : j = k
            · rw [e]; exact (dfK_s hD h19 e52).2
            · exact h22 j (by omega)) h0 h1 rfl kx kn
        ·
          have e52 := e52
          simp only [en] at e52
          refine w_if_ne (t := 60) dX2_findDefinitions_55 rfl (fun _ => ?_) (fun h => absurd (by decide) h)
          refine w_iinc dX2_findDefinitions_60 h2 (nI_1 _) (lb rfl) ?_
          refine w_goto (t := 26) dX2_findDefinitions_63 rfl ?_
          exact ih (k + 1) _ _ _ (by omega) R (by omega) hf hl (fun m hm => by
            by_cases e : m = cl (tT τ 16 k)
            · rw [e, en, ((dfK_w hD h19 e52).1 e52b).1]; have := hd _ hn64; rw [en] at this; exact this
            · rw [ot m hm e]; exact hd m hm) (fun j hj => by
            by_cases e : j = k
            · rw [e]; exact ((dfK_w hD h19 e52).1 e52b).2
            · exact h22 j (by omega)) h0 h1 rfl kx kn
        ·
          have e52 := e52
          simp only [en] at e52
          refine w_if_ne (t := 60) dX2_findDefinitions_55 rfl (fun h => absurd h (by decide)) (fun _ => ?_)
          refine w_iload_n dX2_findDefinitions_58 h2 ?_
          refine w_iret dX2_findDefinitions_59 rfl rfl ?_
          exact kn _ _ R hf hl k hkn (fst1_some.mpr ⟨hkn, (dfK_w hD h19 e52).2 e52b, h22⟩)
      ·
        have hnd : ∀ m, isD τ m k = false := fun m => by
          cases e : isD τ m k
          · rfl
          · exfalso
            unfold isD at e
            simp only [Bool.and_eq_true, decide_eq_true_eq] at e
            refine e44 ⟨fun q => by rw [q] at e; exact absurd e.1.1.2 (by decide), cl (tT τ 17 k), by unfold hmO; rw [if_pos e.1.2], ?_⟩
            have := e.2
            cases e5 : lostB τ (cl (tT τ 17 k))
            · rfl
            · rw [e5] at this; cases this
        have hnd0 := hnd (tT τ 16 k)
        refine w_if_eq (t := 60) dX2_findDefinitions_47 rfl (fun _ => ?_) (fun h => absurd (by decide) h)
        refine w_iinc dX2_findDefinitions_60 h2 (nI_1 _) (lb rfl) ?_
        refine w_goto (t := 26) dX2_findDefinitions_63 rfl ?_
        exact ih (k + 1) _ _ _ (by omega) R (by omega) hf hl (fun m hm => (hd m hm).trans (congrArg o24 (dfK_o (hnd _)).symm)) (fun j hj => by
          by_cases e : j = k
          · rw [e]; exact is2_o hnd0
          · exact h22 j (by omega)) h0 h1 rfl kx kn
theorem c2_findDefs {s0 : rx_S} {τ : tx_T} (hT0 : CT E s0 τ) (hS0 : rx_in s0) (hV : TV τ) (R : rx_R b0 O z1 z2 s G) (hf : cf wN s0 s) (hl : ∀ a, a < tN τ 1 → rX s 20 a 11 = .inl (.int (b32 (lostB τ a)))) (kx : ∀ (s' : rx_S) (G' : mx_H), rx_R b0 O z1 z2 s' G' → cf wN s0 s' → (∀ a, a < tN τ 1 → rX s' 20 a 11 = .inl (.int (b32 (lostB τ a)))) → (∀ m, m < 64 → rQ s' 10 3 m = o24 (defO τ (nI m))) → secO τ = none → Q (.inl (some (.int (-1)))) G') (kn : ∀ (s' : rx_S) (G' : mx_H), rx_R b0 O z1 z2 s' G' → cf wN s0 s' → (∀ a, a < tN τ 1 → rX s' 20 a 11 = .inl (.int (b32 (lostB τ a)))) → ∀ k, k < tN τ 2 → secO τ = some k → Q (.inl (some (.int (nI k)))) G') : mx_W (gt_P b0 mi E) mX2_findDefinitions 0 (mx_en 0 [.ref (rA s 4 0), .ref (rA s 8 1)]) [] G Q := by
  refine w_iconst (v := nI 0) dX2_findDefinitions_0 (by decide) ?_
  refine w_istore_n dX2_findDefinitions_1 (lb rfl) ?_
  refine c2_fd1 hT0 hS0 hV _ 0 _ s _ (Nat.lt_succ_self _) R (Nat.zero_le _) hf hl (fun m hm => absurd hm (Nat.not_lt_zero _)) rfl rfl rfl (fun L2 s2 G2 R2 hf2 hl2 hd2 h0 h1 => ?_)
  refine w_iconst (v := nI 0) dX2_findDefinitions_24 (by decide) ?_
  refine w_istore_n dX2_findDefinitions_25 (lb rfl) ?_
  exact c2_fd2 hT0 hS0 hV _ 0 _ s2 _ (Nat.lt_succ_self _) R2 (Nat.zero_le _) hf2 hl2 (fun m hm => (hd2 m hm).trans (by rfl)) (fun j hj => absurd hj (Nat.not_lt_zero _)) h0 h1 rfl kx kn
theorem c2_defOfC (R : rx_R b0 O z1 z2 s G) (hS : rx_in s) {τ : tx_T} (hT : CT E s τ) (hV : TV τ) {n : Nat} (hn : n < 64) {o : Option Nat} (ho : rQ s 10 3 n = o24 o) (q0 : o = none → Q (.inl (some .null)) G) (q1 : ∀ d, o = some d → Q (.inl (some (.ref (rA s 24 d)))) G) : mx_W (gt_P b0 mi E) mX2_definitionOf 0 (mx_en 0 [.ref (rA s 4 0), .int (nI n)]) [] G Q := by
  cases o with
  | none => exact c2_defOf R hS hT hV hn ho (q0 rfl)
  | some d => exact c2_defOf R hS hT hV hn ho (q1 d rfl)
theorem c2_ft {s0 : rx_S} {τ : tx_T} (hT0 : CT E s0 τ) (hS0 : rx_in s0) (hV : TV τ)  : ∀ (d : Nat) (k : Nat) (L : mx_L) (s : rx_S) (G : mx_H), tN τ 2 - k < d → rx_R b0 O z1 z2 s G → k ≤ tN τ 2 → cf wN s0 s → (∀ a, a < tN τ 1 → rX s 20 a 11 = .inl (.int (b32 (lostB τ a)))) → (∀ m, m < 64 → rQ s 10 3 m = o24 (defO τ (nI m))) → (∀ j, j < k → rX s 24 j 7 = oV (tgS τ j) ∧ rX s 24 j 8 = .inl (.int (offI τ j))) → L 0 = some (.ref (rA s 4 0)) → L 1 = some (.ref (rA s 8 1)) → L 2 = some (.int (nI k)) → (∀ (s' : rx_S) (G' : mx_H), rx_R b0 O z1 z2 s' G' → cf wN s0 s' → (∀ a, a < tN τ 1 → rX s' 20 a 11 = .inl (.int (b32 (lostB τ a)))) → (∀ m, m < 64 → rQ s' 10 3 m = o24 (defO τ (nI m))) → (∀ j, j < tN τ 2 → rX s' 24 j 7 = oV (tgS τ j) ∧ rX s' 24 j 8 = .inl (.int (offI τ j))) → Q (.inl none) G') → mx_W (gt_P b0 mi E) mX2_findTargets 2 L [] G Q := by
  intro d
  induction d with
  | zero => intro k L s G hd; exact absurd hd (Nat.not_lt_zero _)
  | succ d ih =>
    intro k L s G hd R hk hf hl hdf ht h0 h1 h2 kx
    have hT := CT_cf hT0 hS0 hf
    have hS := hf.inn hS0
    have hV0 := hV.1
    refine w_iload_n dX2_findTargets_2 h2 ?_
    refine w_aload_n dX2_findTargets_3 h1 ?_
    refine r_inv0  dX2_findTargets_4 mt_2_58 R rfl (hS _ _ rfl) rfl (lb rfl) (lb rfl) (lb rfl) (lb rfl) rfl (c_lsize R rfl (hS _ _ rfl) (cT_l1 hT).2.1 ⟨_, rfl, ?_⟩)
    refine r_icmp_gen (t := 64) dX2_findTargets_7 rfl (by omega) (by omega) (fun h7 => ?_) (fun h7 => ?_)
    ·
      refine w_ret dX2_findTargets_64 rfl ?_
      obtain rfl : k = tN τ 2 := by omega
      exact kx _ _ R hf hl hdf ht
    ·
      have hkn : k < tN τ 2 := by omega
      have huY := cT_Yu hT hkn
      have h17r := (hV.2.2.1 k hkn).2.2.1
      have en : nI (cl (tT τ 16 k)) = tT τ 16 k := by obtain ⟨j, hj, e⟩ := nI_ofI (hV.2.2.1 k hkn).2.1.1; rw [e, show cl (nI j) = j from nI_clamp hj]
      have hn64 : cl (tT τ 16 k) < 64 := by have := (hV.2.2.1 k hkn).2.1; have := clI this.1; omega
      have hx : rX s 24 k 1 = .inl (.int (nI (cl (tT τ 16 k)))) := (cT_Y hT hkn 1 (lb rfl)).trans (congrArg (fun q => Sum.inl (Value.int q)) en.symm)
      refine w_aload_n dX2_findTargets_10 h1 ?_
      refine w_iload_n dX2_findTargets_11 h2 ?_
      refine r_inv1  dX2_findTargets_12 mt_2_64 R rfl (hS _ _ rfl) rfl (lb rfl) (lb rfl) (lb rfl) (lb rfl) rfl (c_lget R rfl (hS _ _ rfl) (cT_l1 hT) hkn ⟨_, rfl, ?_⟩)
      refine r_cast dX2_findTargets_15 qt_2_15 R rfl huY rfl (by decide) ?_
      refine w_astore_n dX2_findTargets_18 (lb rfl) ?_
      refine w_aload_n dX2_findTargets_19 rfl ?_
      refine r_inv0  dX2_findTargets_20 mt_2_104 R rfl huY rfl (lb rfl) (lb rfl) (lb rfl) (lb rfl) rfl (c6_set R huY (cT_Y hT hkn 5 (lb rfl)) (cT_Y hT hkn 6 (lb rfl)) ⟨_, rfl, ?_⟩)
      refine w_iconst (v := (-1)) dX2_findTargets_23 (by decide) ?_
      refine w_icmp_eq (t := 35) dX2_findTargets_24 rfl (fun h24 => ?_) (fun h24 => ?_)
      ·
        have hx1 : ¬ (tT τ 17 k).toInt < -1 := fun q => by
          have ho := st_set h17r.1 q
          by_cases e2 : -10 < (tT τ 17 k).toInt
          · rw [if_neg (ho.1 e2).2.2.1] at h24; exact (ho.1 e2).2.2.1 h24
          · rw [if_pos (ho.2 (by omega)).1] at h24; exact (ho.2 (by omega)).2.2.1 h24
        refine w_aload_n dX2_findTargets_35 rfl ?_
        refine w_aload_n dX2_findTargets_36 rfl ?_
        refine r_geti  dX2_findTargets_37 ft_2_101 R rfl (cT_Yu hT hkn) rfl (lb rfl) (cT_Y hT hkn 4 (lb rfl)) ?_
        refine r_if_neP (t := 47) dX2_findTargets_40 rfl (fun h40 => ?_) (fun h40 => ?_)
        ·
          refine w_aload_n dX2_findTargets_47 h0 ?_
          refine w_aload_n dX2_findTargets_48 rfl ?_
          refine r_geti  dX2_findTargets_49 ft_2_98 R rfl huY rfl (lb rfl) hx ?_
          refine r_inv1  dX2_findTargets_52 mt_2_48 R rfl (hS _ _ rfl) rfl (lb rfl) (lb rfl) (lb rfl) (lb rfl) rfl (c2_defOfC R hS hT hV hn64 (hdf _ hn64) (fun ed => ⟨_, rfl, ?_⟩) (fun d ed => ⟨_, rfl, ?_⟩))
          ·
            rw [en] at ed
            refine r_inv1  dX2_findTargets_55 mt_2_107 R rfl huY rfl (lb rfl) (lb rfl) (lb rfl) (lb rfl) rfl (c6_aim0 R huY (fun G1 R1 => ⟨_, rfl, ?_⟩))
            refine w_iinc dX2_findTargets_58 h2 (nI_1 _) (lb rfl) ?_
            refine w_goto (t := 2) dX2_findTargets_61 rfl ?_
            have eg : tgO τ k = none := by unfold tgO; rw [if_neg hx1, if_neg h40]; exact ed
            have e7 : tgS τ k = none := by unfold tgS; rw [eg]; rfl
            have e8 : offI τ k = 0 := by unfold offI; rw [eg]
            exact ih (k + 1) _ _ _ (by omega) R1 (by omega) hf.X.X (fun a ha => (sX_p (by omega)).trans ((sX_p (by omega)).trans (hl a ha))) hdf (fun j hj => by
              by_cases e : j = k
              · subst e; exact ⟨(sX_p (by omega)).trans (sX_s.trans (by rw [e7]; rfl)), sX_s.trans (by rw [e8])⟩
              · exact ⟨(sX_p (by omega)).trans ((sX_p (by omega)).trans (ht j (by omega)).1), (sX_p (by omega)).trans ((sX_p (by omega)).trans (ht j (by omega)).2)⟩) h0 h1 rfl kx
          ·
            rw [en] at ed
            have hdn := (defO_lt ed).1
            refine r_inv1  dX2_findTargets_55 mt_2_107 R rfl huY rfl (lb rfl) (lb rfl) (lb rfl) (lb rfl) rfl (c6_aim1 R huY (cT_Yu hT hdn) (cT_Y hT hdn 2 (lb rfl)) (cT_Y hT hdn 3 (lb rfl)) (fun G1 R1 => ⟨_, rfl, ?_⟩))
            refine w_iinc dX2_findTargets_58 h2 (nI_1 _) (lb rfl) ?_
            refine w_goto (t := 2) dX2_findTargets_61 rfl ?_
            have eg : tgO τ k = some d := by unfold tgO; rw [if_neg hx1, if_neg h40]; exact ed
            have e7 : tgS τ k = hmO (tT τ 17 d) := by unfold tgS; rw [eg]; rfl
            have e8 : offI τ k = tT τ 18 d := by unfold offI; rw [eg]
            exact ih (k + 1) _ _ _ (by omega) R1 (by omega) hf.X.X (fun a ha => (sX_p (by omega)).trans ((sX_p (by omega)).trans (hl a ha))) hdf (fun j hj => by
              by_cases e : j = k
              · subst e; exact ⟨(sX_p (by omega)).trans (sX_s.trans (by rw [e7])), sX_s.trans (by rw [e8])⟩
              · exact ⟨(sX_p (by omega)).trans ((sX_p (by omega)).trans (ht j (by omega)).1), (sX_p (by omega)).trans ((sX_p (by omega)).trans (ht j (by omega)).2)⟩) h0 h1 rfl kx
        ·
          refine w_aload_n dX2_findTargets_43 rfl ?_
          refine w_goto (t := 55) dX2_findTargets_44 rfl ?_
          refine r_inv1  dX2_findTargets_55 mt_2_107 R rfl huY rfl (lb rfl) (lb rfl) (lb rfl) (lb rfl) rfl (c6_aim1 R huY huY (cT_Y hT hkn 2 (lb rfl)) (cT_Y hT hkn 3 (lb rfl)) (fun G1 R1 => ⟨_, rfl, ?_⟩))
          refine w_iinc dX2_findTargets_58 h2 (nI_1 _) (lb rfl) ?_
          refine w_goto (t := 2) dX2_findTargets_61 rfl ?_
          have eg : tgO τ k = some k := by unfold tgO; rw [if_neg hx1, if_pos h40]
          have e7 : tgS τ k = hmO (tT τ 17 k) := by unfold tgS; rw [eg]; rfl
          have e8 : offI τ k = tT τ 18 k := by unfold offI; rw [eg]
          exact ih (k + 1) _ _ _ (by omega) R1 (by omega) hf.X.X (fun a ha => (sX_p (by omega)).trans ((sX_p (by omega)).trans (hl a ha))) hdf (fun j hj => by
            by_cases e : j = k
            · subst e; exact ⟨(sX_p (by omega)).trans (sX_s.trans (by rw [e7])), sX_s.trans (by rw [e8])⟩
            · exact ⟨(sX_p (by omega)).trans ((sX_p (by omega)).trans (ht j (by omega)).1), (sX_p (by omega)).trans ((sX_p (by omega)).trans (ht j (by omega)).2)⟩) h0 h1 rfl kx
      ·
        refine w_aload_n dX2_findTargets_27 rfl ?_
        refine w_null dX2_findTargets_28 ?_
        refine r_inv1  dX2_findTargets_29 mt_2_107 R rfl huY rfl (lb rfl) (lb rfl) (lb rfl) (lb rfl) rfl (c6_aim0 R huY (fun G1 R1 => ⟨_, rfl, ?_⟩))
        refine w_goto (t := 58) dX2_findTargets_32 rfl ?_
        refine w_iinc dX2_findTargets_58 h2 (nI_1 _) (lb rfl) ?_
        refine w_goto (t := 2) dX2_findTargets_61 rfl ?_
        have eg : tgO τ k = none := by unfold tgO; rw [if_pos (Int.not_le.mp (fun q => h24 (st_no (by omega)).2.2))]
        have e7 : tgS τ k = none := by unfold tgS; rw [eg]; rfl
        have e8 : offI τ k = 0 := by unfold offI; rw [eg]
        exact ih (k + 1) _ _ _ (by omega) R1 (by omega) hf.X.X (fun a ha => (sX_p (by omega)).trans ((sX_p (by omega)).trans (hl a ha))) hdf (fun j hj => by
          by_cases e : j = k
          · subst e; exact ⟨(sX_p (by omega)).trans (sX_s.trans (by rw [e7]; rfl)), sX_s.trans (by rw [e8])⟩
          · exact ⟨(sX_p (by omega)).trans ((sX_p (by omega)).trans (ht j (by omega)).1), (sX_p (by omega)).trans ((sX_p (by omega)).trans (ht j (by omega)).2)⟩) h0 h1 rfl kx
/-- what a link has found of names -/
def NC (s : rx_S) (τ : tx_T) : Prop := (∀ a, a < tN τ 1 → rX s 20 a 11 = .inl (.int (b32 (lostB τ a)))) ∧ (∀ m, m < 64 → rQ s 10 3 m = o24 (defO τ (nI m))) ∧ (∀ j, j < tN τ 2 → rX s 24 j 7 = oV (tgS τ j) ∧ rX s 24 j 8 = .inl (.int (offI τ j)))
theorem c2_findTgts {s0 : rx_S} {τ : tx_T} (hT0 : CT E s0 τ) (hS0 : rx_in s0) (hV : TV τ) (R : rx_R b0 O z1 z2 s G) (hf : cf wN s0 s) (hl : ∀ a, a < tN τ 1 → rX s 20 a 11 = .inl (.int (b32 (lostB τ a)))) (hd : ∀ m, m < 64 → rQ s 10 3 m = o24 (defO τ (nI m))) (kx : ∀ (s' : rx_S) (G' : mx_H), rx_R b0 O z1 z2 s' G' → cf wN s0 s' → (∀ a, a < tN τ 1 → rX s' 20 a 11 = .inl (.int (b32 (lostB τ a)))) → (∀ m, m < 64 → rQ s' 10 3 m = o24 (defO τ (nI m))) → (∀ j, j < tN τ 2 → rX s' 24 j 7 = oV (tgS τ j) ∧ rX s' 24 j 8 = .inl (.int (offI τ j))) → Q (.inl none) G') : mx_W (gt_P b0 mi E) mX2_findTargets 0 (mx_en 0 [.ref (rA s 4 0), .ref (rA s 8 1)]) [] G Q := by
  refine w_iconst (v := nI 0) dX2_findTargets_0 (by decide) ?_
  refine w_istore_n dX2_findTargets_1 (lb rfl) ?_
  exact c2_ft hT0 hS0 hV _ 0 _ s _ (Nat.lt_succ_self _) R (Nat.zero_le _) hf hl hd (fun j hj => absurd hj (Nat.not_lt_zero _)) rfl rfl rfl kx
theorem c2_resolve (R : rx_R b0 O z1 z2 s G) (hS : rx_in s) {τ : tx_T} (hT : CT E s τ) (hV : TV τ) (kx : secO τ = none → ∀ (s' : rx_S) (G' : mx_H), rx_R b0 O z1 z2 s' G' → cf wN s s' → NC s' τ → Q (.inl (some (.int (-1)))) G') (kn : ∀ k, k < tN τ 2 → secO τ = some k → ∀ (s' : rx_S) (G' : mx_H), rx_R b0 O z1 z2 s' G' → cf wN s s' → Q (.inl (some (.int (nI k)))) G') : mx_W (gt_P b0 mi E) mX2_resolve 0 (mx_en 0 [.ref (rA s 4 0), .ref (rA s 3 0)]) [] G Q := by
  have hV0 := hV.1
  refine w_aload_n dX2_resolve_0 rfl ?_
  refine w_aload_n dX2_resolve_1 rfl ?_
  refine r_getr  dX2_resolve_2 ft_2_21 R rfl (hS _ _ rfl) rfl (lb rfl) (cT_s hT 3 0 rfl) ?_
  refine r_inv1  dX2_resolve_5 mt_2_27 R rfl (hS _ _ rfl) rfl (lb rfl) (lb rfl) (lb rfl) (lb rfl) rfl (c2_findLost R hS hT hV (fun s1 G1 R1 f1 hl1 => ⟨_, rfl, ?_⟩))
  have hT1 := CT_cf hT hS f1
  have hS1 := f1.inn hS
  rw [← f1.1]
  refine w_aload_n dX2_resolve_8 rfl ?_
  refine w_aload_n dX2_resolve_9 rfl ?_
  refine r_getr  dX2_resolve_10 ft_2_31 R1 rfl (hS1 _ _ rfl) rfl (lb rfl) (cT_s hT1 3 1 rfl) ?_
  refine r_inv1  dX2_resolve_13 mt_2_34 R1 rfl (hS1 _ _ rfl) rfl (lb rfl) (lb rfl) (lb rfl) (lb rfl) rfl (c2_findDefs (s := s1) hT hS hV R1 f1 hl1 (fun s2 G2 R2 f2 hl2 hd2 e2 => ⟨_, rfl, ?_⟩) (fun s2 G2 R2 f2 hl2 k hk e2 => ⟨_, rfl, ?_⟩))
  ·
    have hT2 := CT_cf hT hS f2
    have hS2 := f2.inn hS
    rw [f1.1, ← f2.1]
    refine w_istore_n dX2_resolve_16 (lb rfl) ?_
    refine w_iload_n dX2_resolve_17 rfl ?_
    refine w_iconst (v := (-1)) dX2_resolve_18 (by decide) ?_
    refine w_icmp_ne (t := 30) dX2_resolve_19 rfl (fun h => absurd h (by decide)) (fun _ => ?_)
    refine w_aload_n dX2_resolve_22 rfl ?_
    refine w_aload_n dX2_resolve_23 rfl ?_
    refine r_getr  dX2_resolve_24 ft_2_31 R2 rfl (hS2 _ _ rfl) rfl (lb rfl) (cT_s hT2 3 1 rfl) ?_
    refine r_inv1  dX2_resolve_27 mt_2_38 R2 rfl (hS2 _ _ rfl) rfl (lb rfl) (lb rfl) (lb rfl) (lb rfl) rfl (c2_findTgts (s := s2) hT hS hV R2 f2 hl2 hd2 (fun s3 G3 R3 f3 hl3 hd3 ht3 => ⟨_, rfl, ?_⟩))
    refine w_iload_n dX2_resolve_30 rfl ?_
    exact w_iret dX2_resolve_31 rfl rfl (kx e2 _ _ R3 f3 ⟨hl3, hd3, ht3⟩)
  ·
    refine w_istore_n dX2_resolve_16 (lb rfl) ?_
    refine w_iload_n dX2_resolve_17 rfl ?_
    refine w_iconst (v := (-1)) dX2_resolve_18 (by decide) ?_
    refine r_icmp_neP (t := 30) dX2_resolve_19 rfl (fun h19 => ?_) (fun h => absurd h (nI_m1 (by omega)))
    refine w_iload_n dX2_resolve_30 rfl ?_
    exact w_iret dX2_resolve_31 rfl rfl (kn k hk e2 _ _ R2 f2)
end
