section
variable {b0 mi z1 z2 : Nat} {E : Nat → Nat} {O : Nat → Option mx_C} {s : rx_S} {G : mx_H} {Q : mx_O → mx_H → Prop}
theorem c10_relocationsOf_l (R : rx_R b0 O z1 z2 s G) (hS : rx_in s) {τ : tx_T} (hV : TV τ) (hN : NN s τ) {x : Nat}  : ∀ (d : Nat) (k : Nat) (L : mx_L), tN τ 3 - k < d → k ≤ tN τ 3 → L 0 = some (.ref (rA s 0 0)) → L 1 = some (.int (nI x)) → L 2 = some (.int (nI (cnt (rlB τ x) k))) → L 3 = some (.int (nI k)) → (Q (.inl (some (.int (nI (rlN τ x))))) G) → mx_W (gt_P b0 mi E) mX10_relocationsOf 4 L [] G Q := by
  obtain ⟨hT, hL, hD, hA⟩ := id hN
  obtain ⟨hM, ⟨c1, c2, c13, c14, c20, c26⟩, hsec, hby, hsy, hre, hro, hba⟩ := id hT
  have hV0 := hV.1
  intro d
  induction d with
  | zero => intro k L hd; exact absurd hd (Nat.not_lt_zero _)
  | succ d ih =>
    intro k L hd hk h0 h1 h2 h3 q
    refine w_iload_n dX10_relocationsOf_4 h3 ?_
    refine w_aload_n dX10_relocationsOf_5 h0 ?_
    refine r_geti  dX10_relocationsOf_6 ft_9_195 R rfl (hS _ _ rfl) rfl (lb rfl) c20 ?_
    refine r_icmp_gen (t := 36) dX10_relocationsOf_9 rfl (by omega) (by omega) (fun h9 => ?_) (fun h9 => ?_)
    ·
      refine w_iload_n dX10_relocationsOf_36 h2 ?_
      refine w_iret dX10_relocationsOf_37 rfl rfl ?_
      obtain rfl : k = tN τ 3 := by omega
      exact q
    ·
      refine w_iload_n dX10_relocationsOf_12 h2 ?_
      refine w_aload_n dX10_relocationsOf_13 h0 ?_
      refine r_getr  dX10_relocationsOf_14 ft_9_58 R rfl (hS _ _ rfl) rfl (lb rfl) (hM.1 21 (lb rfl) (lb rfl)) ?_
      refine w_iload_n dX10_relocationsOf_17 h3 ?_
      refine r_iald  dX10_relocationsOf_18 R rfl (hS _ _ rfl) rfl rfl (by omega) (lb rfl) (hre k (by omega)).1 ?_
      refine w_iload_n dX10_relocationsOf_19 h1 ?_
      refine r_icmp_neP (t := 27) dX10_relocationsOf_20 rfl (fun h20 => ?_) (fun h20 => ?_)
      ·
        refine w_iconst (v := nI 0) dX10_relocationsOf_27 (by decide) ?_
        refine w_iadd dX10_relocationsOf_28 ?_
        rw [nI_add]
        refine w_istore_n dX10_relocationsOf_29 (lb rfl) ?_
        refine w_iinc dX10_relocationsOf_30 h3 (nI_1 _) (lb rfl) ?_
        refine w_goto (t := 4) dX10_relocationsOf_33 rfl ?_
        exact ih (k + 1) _ (by omega) (by omega) h0 h1 (by rw [cnt, show rlB τ x k = false from beq_eq_false_iff_ne.mpr h20]; rfl) rfl q
      ·
        refine w_iconst (v := nI 1) dX10_relocationsOf_23 (by decide) ?_
        refine w_goto (t := 28) dX10_relocationsOf_24 rfl ?_
        refine w_iadd dX10_relocationsOf_28 ?_
        rw [nI_add]
        refine w_istore_n dX10_relocationsOf_29 (lb rfl) ?_
        refine w_iinc dX10_relocationsOf_30 h3 (nI_1 _) (lb rfl) ?_
        refine w_goto (t := 4) dX10_relocationsOf_33 rfl ?_
        exact ih (k + 1) _ (by omega) (by omega) h0 h1 (by rw [cnt, show rlB τ x k = true from beq_iff_eq.mpr h20]; rfl) rfl q
theorem c10_relocationsOf (R : rx_R b0 O z1 z2 s G) (hS : rx_in s) {τ : tx_T} (hV : TV τ) (hN : NN s τ) {x : Nat} (q : Q (.inl (some (.int (nI (rlN τ x))))) G) : mx_W (gt_P b0 mi E) mX10_relocationsOf 0 (mx_en 0 [.ref (rA s 0 0), .int (nI x)]) [] G Q := by
  refine w_iconst (v := 0) dX10_relocationsOf_0 (by decide) ?_
  refine w_istore_n dX10_relocationsOf_1 (lb rfl) ?_
  refine w_iconst (v := 0) dX10_relocationsOf_2 (by decide) ?_
  refine w_istore_n dX10_relocationsOf_3 (lb rfl) ?_
  exact c10_relocationsOf_l R hS hV hN (tN τ 3 + 1) 0 _ (by omega) (by omega) rfl rfl rfl rfl q
theorem c10_nth_l (R : rx_R b0 O z1 z2 s G) (hS : rx_in s) {τ : tx_T} (hV : TV τ) (hN : NN s τ) {x i : Nat} (hi : i < 2 ^ 31)  : ∀ (d : Nat) (k : Nat) (L : mx_L), tN τ 3 - k < d → k ≤ tN τ 3 → cnt (rlB τ x) k ≤ i → fst1 (fun k => rlB τ x k && Nat.beq (cnt (rlB τ x) k) i) k = none → L 0 = some (.ref (rA s 0 0)) → L 1 = some (.int (nI x)) → L 3 = some (.int (nI (i - cnt (rlB τ x) k))) → L 4 = some (.int (nI k)) → (Q (.inl (some (.int (oI (rlO τ x i))))) G) → mx_W (gt_P b0 mi E) mX10_nth 5 L [] G Q := by
  obtain ⟨hT, hL, hD, hA⟩ := id hN
  obtain ⟨hM, ⟨c1, c2, c13, c14, c20, c26⟩, hsec, hby, hsy, hre, hro, hba⟩ := id hT
  have hV0 := hV.1
  intro d
  induction d with
  | zero => intro k L hd; exact absurd hd (Nat.not_lt_zero _)
  | succ d ih =>
    intro k L hd hk hc hn h0 h1 h3 h4 q
    refine w_iload dX10_nth_5 h4 ?_
    refine w_aload_n dX10_nth_7 h0 ?_
    refine r_geti  dX10_nth_8 ft_9_195 R rfl (hS _ _ rfl) rfl (lb rfl) c20 ?_
    refine r_icmp_gen (t := 41) dX10_nth_11 rfl (by omega) (by omega) (fun h11 => ?_) (fun h11 => ?_)
    ·
      refine w_iconst (v := (-1)) dX10_nth_41 (by decide) ?_
      refine w_iret dX10_nth_42 rfl rfl ?_
      obtain rfl : k = tN τ 3 := by omega
      rw [show rlO τ x i = none from hn] at q; exact q
    ·
      refine w_aload_n dX10_nth_14 h0 ?_
      refine r_getr  dX10_nth_15 ft_9_58 R rfl (hS _ _ rfl) rfl (lb rfl) (hM.1 21 (lb rfl) (lb rfl)) ?_
      refine w_iload dX10_nth_18 h4 ?_
      refine r_iald  dX10_nth_20 R rfl (hS _ _ rfl) rfl rfl (by omega) (lb rfl) (hre k (by omega)).1 ?_
      refine w_iload_n dX10_nth_21 h1 ?_
      refine r_icmp_neP (t := 35) dX10_nth_22 rfl (fun h22 => ?_) (fun h22 => ?_)
      ·
        refine w_iinc dX10_nth_35 h4 (nI_1 _) (lb rfl) ?_
        refine w_goto (t := 5) dX10_nth_38 rfl ?_
        have e4 : fst1 (fun k => rlB τ x k && Nat.beq (cnt (rlB τ x) k) i) (k + 1) = none := by rw [fst1_f (by rw [show rlB τ x k = false from beq_eq_false_iff_ne.mpr h22]; rfl)]; exact hn
        have e6 : cnt (rlB τ x) (k + 1) = cnt (rlB τ x) k := by rw [cnt, show rlB τ x k = false from beq_eq_false_iff_ne.mpr h22]; rfl
        exact ih (k + 1) _ (by omega) (by omega) (by rw [e6]; exact hc) e4 h0 h1 (by rw [e6]; exact h3) rfl q
      ·
        refine w_iload_n dX10_nth_25 h3 ?_
        refine r_if_nei (t := 32) dX10_nth_26 rfl (fun h26 => ?_) (fun h26 => ?_)
        ·
          have e1 : cnt (rlB τ x) k ≠ i := fun e => h26 (by rw [nI_toInt (by omega)]; omega)
          have e5 : nI (i - cnt (rlB τ x) k) + Int32.ofInt (-1) = nI (i - cnt (rlB τ x) (k + 1)) := by
            rw [cnt, show rlB τ x k = true from beq_iff_eq.mpr h22]
            obtain ⟨m, hm⟩ : ∃ m, i - cnt (rlB τ x) k = m + 1 := ⟨i - cnt (rlB τ x) k - 1, by omega⟩
            rw [hm, show i - (cnt (rlB τ x) k + bif true then 1 else 0) = m by simp; omega]
            rw [← nI_pred m, Int32.sub_eq_add_neg, show Int32.ofInt (-1) = -1 by decide]
          refine w_iinc dX10_nth_32 h3 e5 (lb rfl) ?_
          refine w_iinc dX10_nth_35 h4 (nI_1 _) (lb rfl) ?_
          refine w_goto (t := 5) dX10_nth_38 rfl ?_
          have e4 : fst1 (fun k => rlB τ x k && Nat.beq (cnt (rlB τ x) k) i) (k + 1) = none := by
            rw [fst1_f (by
              have : Nat.beq (cnt (rlB τ x) k) i = false := by
                cases e : Nat.beq (cnt (rlB τ x) k) i
                · rfl
                · exact absurd (Nat.eq_of_beq_eq_true e) e1
              rw [this]; simp)]
            exact hn
          have e6 : cnt (rlB τ x) (k + 1) = cnt (rlB τ x) k + 1 := by rw [cnt, show rlB τ x k = true from beq_iff_eq.mpr h22]; rfl
          exact ih (k + 1) _ (by omega) (by omega) (by omega) e4 h0 h1 rfl rfl q
        ·
          refine w_iload dX10_nth_29 h4 ?_
          refine w_iret dX10_nth_31 rfl rfl ?_
          have e1 : cnt (rlB τ x) k = i := by rw [nI_toInt (by omega)] at h26; omega
          have e2 : fst1 (fun k => rlB τ x k && Nat.beq (cnt (rlB τ x) k) i) (k + 1) = some k := fst1_t hn (by rw [show rlB τ x k = true from beq_iff_eq.mpr h22, e1]; simp)
          have e3 : rlO τ x i = some k := by
            have := fst1_some.mp e2
            exact fst1_some.mpr ⟨by omega, this.2⟩
          rw [e3] at q; exact q
theorem c10_nth (R : rx_R b0 O z1 z2 s G) (hS : rx_in s) {τ : tx_T} (hV : TV τ) (hN : NN s τ) {x i : Nat} (hi : i < 2 ^ 31) (q : Q (.inl (some (.int (oI (rlO τ x i))))) G) : mx_W (gt_P b0 mi E) mX10_nth 0 (mx_en 0 [.ref (rA s 0 0), .int (nI x), .int (nI i)]) [] G Q := by
  refine w_iload_n dX10_nth_0 rfl ?_
  refine w_istore_n dX10_nth_1 (lb rfl) ?_
  refine w_iconst (v := 0) dX10_nth_2 (by decide) ?_
  refine w_istore dX10_nth_3 (lb rfl) ?_
  exact c10_nth_l R hS hV hN hi (tN τ 3 + 1) 0 _ (by omega) (by omega) (Nat.zero_le _) rfl rfl rfl rfl rfl q
theorem c10_startsAlike_l (R : rx_R b0 O z1 z2 s G) (hS : rx_in s) {τ : tx_T} (hV : TV τ) (hN : NN s τ) {a b : Nat} (ha : a < tN τ 1) (hb : b < tN τ 1) (hka : (tT τ 4 a).toInt < 3) (hkb : (tT τ 4 b).toInt < 3) (h5 : tT τ 5 a = tT τ 5 b) {zz : Nat} (hz1 : zz < 2 ^ 31) (hz2 : tT τ 5 a = nI zz)  : ∀ (d : Nat) (i : Nat) (L : mx_L), zz - i < d → i ≤ zz → (∀ j, j < i → tY τ a j = tY τ b j) → L 0 = some (.ref (rA s 0 0)) → L 1 = some (.int (nI a)) → L 2 = some (.int (nI b)) → L 3 = some (.int (nI i)) → ((∀ j, j < zz → tY τ a j = tY τ b j) → Q (.inl (some (.int 1))) G) → (¬ (∀ j, j < zz → tY τ a j = tY τ b j) → Q (.inl (some (.int 0))) G) → mx_W (gt_P b0 mi E) mX10_startsAlike 62 L [] G Q := by
  obtain ⟨hT, hL, hD, hA⟩ := id hN
  obtain ⟨hM, ⟨c1, c2, c13, c14, c20, c26⟩, hsec, hby, hsy, hre, hro, hba⟩ := id hT
  have hV0 := hV.1
  intro d
  induction d with
  | zero => intro i L hd; exact absurd hd (Nat.not_lt_zero _)
  | succ d ih =>
    intro i L hd hi hc h0 h1 h2 h3 qt qf
    obtain ⟨fr, fl, g1, g2, g3, g4⟩ := hby
    obtain ⟨pa1, pa2, pa3⟩ := g3 a ha hka
    obtain ⟨pb1, pb2, pb3⟩ := g3 b hb hkb
    refine w_iload_n dX10_startsAlike_62 h3 ?_
    refine w_aload_n dX10_startsAlike_63 h0 ?_
    refine r_getr  dX10_startsAlike_64 ft_9_20 R rfl (hS _ _ rfl) rfl (lb rfl) (hM.1 5 (lb rfl) (lb rfl)) ?_
    refine w_iload_n dX10_startsAlike_67 h1 ?_
    refine r_iald  dX10_startsAlike_68 R rfl (hS _ _ rfl) rfl rfl (by omega) (lb rfl) ((hsec a ha).2.2.1.trans hz2) ?_
    refine r_icmp_gen (t := 109) dX10_startsAlike_69 rfl (by omega) (by omega) (fun h69 => ?_) (fun h69 => ?_)
    ·
      refine w_iconst (v := 1) dX10_startsAlike_109 (by decide) ?_
      refine w_iret dX10_startsAlike_110 rfl rfl ?_
      obtain rfl : i = zz := by omega
      exact qt hc
    ·
      rw [hz2, clN hz1] at pa2
      rw [← h5, hz2, clN hz1] at pb2
      refine w_aload_n dX10_startsAlike_72 h0 ?_
      refine r_getr  dX10_startsAlike_73 ft_9_40 R rfl (hS _ _ rfl) rfl (lb rfl) (hM.1 11 (lb rfl) (lb rfl)) ?_
      refine w_aload_n dX10_startsAlike_76 h0 ?_
      refine r_getr  dX10_startsAlike_77 ft_9_26 R rfl (hS _ _ rfl) rfl (lb rfl) (hM.1 7 (lb rfl) (lb rfl)) ?_
      refine w_iload_n dX10_startsAlike_80 h1 ?_
      refine r_iald  dX10_startsAlike_81 R rfl (hS _ _ rfl) rfl rfl (by omega) (lb rfl) pa1 ?_
      refine w_iload_n dX10_startsAlike_82 h3 ?_
      refine w_iadd dX10_startsAlike_83 ?_
      rw [nI_add]
      refine r_iald  dX10_startsAlike_84 R rfl (hS _ _ rfl) rfl rfl (by omega) (lb rfl) (pa3 i (by rw [hz2, clN hz1]; omega)) ?_
      refine w_aload_n dX10_startsAlike_85 h0 ?_
      refine r_getr  dX10_startsAlike_86 ft_9_40 R rfl (hS _ _ rfl) rfl (lb rfl) (hM.1 11 (lb rfl) (lb rfl)) ?_
      refine w_aload_n dX10_startsAlike_89 h0 ?_
      refine r_getr  dX10_startsAlike_90 ft_9_26 R rfl (hS _ _ rfl) rfl (lb rfl) (hM.1 7 (lb rfl) (lb rfl)) ?_
      refine w_iload_n dX10_startsAlike_93 h2 ?_
      refine r_iald  dX10_startsAlike_94 R rfl (hS _ _ rfl) rfl rfl (by omega) (lb rfl) pb1 ?_
      refine w_iload_n dX10_startsAlike_95 h3 ?_
      refine w_iadd dX10_startsAlike_96 ?_
      rw [nI_add]
      refine r_iald  dX10_startsAlike_97 R rfl (hS _ _ rfl) rfl rfl (by omega) (lb rfl) (pb3 i (by rw [← h5, hz2, clN hz1]; omega)) ?_
      refine w_icmp_eq (t := 103) dX10_startsAlike_98 rfl (fun h98 => ?_) (fun h98 => ?_)
      ·
        refine w_iinc dX10_startsAlike_103 h3 (nI_1 _) (lb rfl) ?_
        refine w_goto (t := 62) dX10_startsAlike_106 rfl ?_
        exact ih (i + 1) _ (by omega) (by omega) (fun j hj => by
          by_cases e : j = i
          · subst e; exact h98
          · exact hc j (by omega)) h0 h1 h2 rfl qt qf
      ·
        refine w_iconst (v := 0) dX10_startsAlike_101 (by decide) ?_
        exact w_iret dX10_startsAlike_102 rfl rfl (qf (fun e => h98 (e i (by omega))))
theorem c10_startsAlike (R : rx_R b0 O z1 z2 s G) (hS : rx_in s) {τ : tx_T} (hV : TV τ) (hN : NN s τ) {a b : Nat} (ha : a < tN τ 1) (hb : b < tN τ 1) (hka : (tT τ 4 a).toInt < 3) (hkb : (tT τ 4 b).toInt < 3) (qt : stA τ a b → Q (.inl (some (.int 1))) G) (qf : ¬ stA τ a b → Q (.inl (some (.int 0))) G) : mx_W (gt_P b0 mi E) mX10_startsAlike 0 (mx_en 0 [.ref (rA s 0 0), .int (nI a), .int (nI b)]) [] G Q := by
  obtain ⟨hT, hL, hD, hA⟩ := id hN
  obtain ⟨hM, ⟨c1, c2, c13, c14, c20, c26⟩, hsec, hby, hsy, hre, hro, hba⟩ := id hT
  have hV0 := hV.1
  have hn1 : rlN τ a ≤ tN τ 3 := cnt_le _ _
  have hn2 : rlN τ b ≤ tN τ 3 := cnt_le _ _
  refine w_aload_n dX10_startsAlike_0 rfl ?_
  refine r_getr  dX10_startsAlike_1 ft_9_17 R rfl (hS _ _ rfl) rfl (lb rfl) (hM.1 4 (lb rfl) (lb rfl)) ?_
  refine w_iload_n dX10_startsAlike_4 rfl ?_
  refine r_iald  dX10_startsAlike_5 R rfl (hS _ _ rfl) rfl rfl (by omega) (lb rfl) (hsec a ha).2.1 ?_
  refine w_aload_n dX10_startsAlike_6 rfl ?_
  refine r_getr  dX10_startsAlike_7 ft_9_17 R rfl (hS _ _ rfl) rfl (lb rfl) (hM.1 4 (lb rfl) (lb rfl)) ?_
  refine w_iload_n dX10_startsAlike_10 rfl ?_
  refine r_iald  dX10_startsAlike_11 R rfl (hS _ _ rfl) rfl rfl (by omega) (lb rfl) (hsec b hb).2.1 ?_
  refine r_icmp_neP (t := 58) dX10_startsAlike_12 rfl (fun h12 => ?_) (fun h12 => ?_)
  ·
    refine w_iconst (v := 0) dX10_startsAlike_58 (by decide) ?_
    exact w_iret dX10_startsAlike_59 rfl rfl (qf (fun e => h12 e.1))
  ·
    refine w_aload_n dX10_startsAlike_15 rfl ?_
    refine r_getr  dX10_startsAlike_16 ft_9_20 R rfl (hS _ _ rfl) rfl (lb rfl) (hM.1 5 (lb rfl) (lb rfl)) ?_
    refine w_iload_n dX10_startsAlike_19 rfl ?_
    refine r_iald  dX10_startsAlike_20 R rfl (hS _ _ rfl) rfl rfl (by omega) (lb rfl) (hsec a ha).2.2.1 ?_
    refine w_aload_n dX10_startsAlike_21 rfl ?_
    refine r_getr  dX10_startsAlike_22 ft_9_20 R rfl (hS _ _ rfl) rfl (lb rfl) (hM.1 5 (lb rfl) (lb rfl)) ?_
    refine w_iload_n dX10_startsAlike_25 rfl ?_
    refine r_iald  dX10_startsAlike_26 R rfl (hS _ _ rfl) rfl rfl (by omega) (lb rfl) (hsec b hb).2.2.1 ?_
    refine r_icmp_neP (t := 58) dX10_startsAlike_27 rfl (fun h27 => ?_) (fun h27 => ?_)
    ·
      refine w_iconst (v := 0) dX10_startsAlike_58 (by decide) ?_
      exact w_iret dX10_startsAlike_59 rfl rfl (qf (fun e => h27 e.2.1))
    ·
      refine w_aload_n dX10_startsAlike_30 rfl ?_
      refine r_getr  dX10_startsAlike_31 ft_9_23 R rfl (hS _ _ rfl) rfl (lb rfl) (hM.1 6 (lb rfl) (lb rfl)) ?_
      refine w_iload_n dX10_startsAlike_34 rfl ?_
      refine r_iald  dX10_startsAlike_35 R rfl (hS _ _ rfl) rfl rfl (by omega) (lb rfl) (hsec a ha).2.2.2.1 ?_
      refine w_aload_n dX10_startsAlike_36 rfl ?_
      refine r_getr  dX10_startsAlike_37 ft_9_23 R rfl (hS _ _ rfl) rfl (lb rfl) (hM.1 6 (lb rfl) (lb rfl)) ?_
      refine w_iload_n dX10_startsAlike_40 rfl ?_
      refine r_iald  dX10_startsAlike_41 R rfl (hS _ _ rfl) rfl rfl (by omega) (lb rfl) (hsec b hb).2.2.2.1 ?_
      refine r_icmp_neP (t := 58) dX10_startsAlike_42 rfl (fun h42 => ?_) (fun h42 => ?_)
      ·
        refine w_iconst (v := 0) dX10_startsAlike_58 (by decide) ?_
        exact w_iret dX10_startsAlike_59 rfl rfl (qf (fun e => h42 e.2.2.1))
      ·
        refine w_aload_n dX10_startsAlike_45 rfl ?_
        refine w_iload_n dX10_startsAlike_46 rfl ?_
        refine r_inv1  dX10_startsAlike_47 mt_9_213 R rfl (hS _ _ rfl) rfl (lb rfl) (lb rfl) (lb rfl) (lb rfl) rfl (c10_relocationsOf R hS hV hN (x := a) ⟨_, rfl, ?_⟩)
        refine w_aload_n dX10_startsAlike_50 rfl ?_
        refine w_iload_n dX10_startsAlike_51 rfl ?_
        refine r_inv1  dX10_startsAlike_52 mt_9_213 R rfl (hS _ _ rfl) rfl (lb rfl) (lb rfl) (lb rfl) (lb rfl) rfl (c10_relocationsOf R hS hV hN (x := b) ⟨_, rfl, ?_⟩)
        refine r_icmp_eqn (t := 60) dX10_startsAlike_55 rfl (by omega) (by omega) (fun h55 => ?_) (fun h55 => ?_)
        ·
          refine w_iconst (v := 0) dX10_startsAlike_60 (by decide) ?_
          refine w_istore_n dX10_startsAlike_61 (lb rfl) ?_
          obtain ⟨zz, hz1, hz2⟩ := nI_ofI (hV.2.1 a ha).2.2.1.1
          exact c10_startsAlike_l R hS hV hN ha hb hka hkb h27 hz1 hz2 (zz + 1) 0 _ (by omega) (by omega) (fun j hj => absurd hj (Nat.not_lt_zero _)) rfl rfl rfl rfl (fun h => qt ⟨h12, h27, h42, h55, by rw [hz2, clN hz1]; exact h⟩) (fun h => qf (fun e => h (by have := e.2.2.2.2; rw [hz2, clN hz1] at this; exact this)))
        ·
          refine w_iconst (v := 0) dX10_startsAlike_58 (by decide) ?_
          exact w_iret dX10_startsAlike_59 rfl rfl (qf (fun e => h55 e.2.2.2.1))
theorem c10_staysAlike_l (R : rx_R b0 O z1 z2 s G) (hS : rx_in s) {τ : tx_T} (hV : TV τ) (hN : NN s τ) {a b : Nat} (ha : a < tN τ 1) (hb : b < tN τ 1) (hr : rlN τ a = rlN τ b) (hr2 : rlN τ a ≤ tN τ 3)  : ∀ (d : Nat) (i : Nat) (L : mx_L), rlN τ a - i < d → i ≤ rlN τ a → (∀ j, j < i → ∀ x y, rlO τ a j = some x → rlO τ b j = some y → prA τ (AS s) x y) → L 0 = some (.ref (rA s 0 0)) → L 1 = some (.int (nI a)) → L 2 = some (.int (nI b)) → L 3 = some (.int (nI (rlN τ a))) → L 4 = some (.int (nI i)) → (syA τ (AS s) a b → Q (.inl (some (.int 1))) G) → (¬ syA τ (AS s) a b → Q (.inl (some (.int 0))) G) → mx_W (gt_P b0 mi E) mX10_staysAlike 9 L [] G Q := by
  obtain ⟨hT, hL, hD, hA⟩ := id hN
  obtain ⟨hM, ⟨c1, c2, c13, c14, c20, c26⟩, hsec, hby, hsy, hre, hro, hba⟩ := id hT
  have hV0 := hV.1
  intro d
  induction d with
  | zero => intro i L hd; exact absurd hd (Nat.not_lt_zero _)
  | succ d ih =>
    intro i L hd hi hc h0 h1 h2 h3 h4 qt qf
    refine w_iload dX10_staysAlike_9 h4 ?_
    refine w_iload_n dX10_staysAlike_11 h3 ?_
    refine r_icmp_gen (t := 222) dX10_staysAlike_12 rfl (by omega) (by omega) (fun h12 => ?_) (fun h12 => ?_)
    ·
      refine w_iconst (v := 1) dX10_staysAlike_222 (by decide) ?_
      refine w_iret dX10_staysAlike_223 rfl rfl ?_
      obtain rfl : i = rlN τ a := by omega
      exact qt hc
    ·
      obtain ⟨x, ex1, ex2, ex3, ex4⟩ := rlO_ex (τ := τ) (x := a) h12
      obtain ⟨y, ey1, ey2, ey3, ey4⟩ := rlO_ex (τ := τ) (x := b) (i := i) (by omega)
      have sx := (hV.2.2.2.1 x ex2).2.2.2.1
      have sy := (hV.2.2.2.1 y ey2).2.2.2.1
      obtain ⟨p, p1, p2⟩ := nI_ofI sx.1
      obtain ⟨r, r1, r2⟩ := nI_ofI sy.1
      have pl : p < tN τ 2 := by have := sx.2; rw [p2, nI_toInt p1] at this; omega
      have rl : r < tN τ 2 := by have := sy.2; rw [r2, nI_toInt r1] at this; omega
      have cp : cl (tT τ 24 x) = p := by rw [p2, clN p1]
      have cr : cl (tT τ 24 y) = r := by rw [r2, clN r1]
      refine w_aload_n dX10_staysAlike_15 h0 ?_
      refine w_iload_n dX10_staysAlike_16 h1 ?_
      refine w_iload dX10_staysAlike_17 h4 ?_
      refine r_inv2  dX10_staysAlike_19 mt_9_216 R rfl (hS _ _ rfl) rfl (lb rfl) (lb rfl) (lb rfl) (lb rfl) rfl (c10_nth R hS hV hN (x := a) (i := i) (by omega) ⟨_, rfl, ?_⟩)
      rw [ex1]
      show mx_W _ _ _ _ (.int (nI x) :: _) _ _
      refine w_istore dX10_staysAlike_22 (lb rfl) ?_
      refine w_aload_n dX10_staysAlike_24 h0 ?_
      refine w_iload_n dX10_staysAlike_25 h2 ?_
      refine w_iload dX10_staysAlike_26 h4 ?_
      refine r_inv2  dX10_staysAlike_28 mt_9_216 R rfl (hS _ _ rfl) rfl (lb rfl) (lb rfl) (lb rfl) (lb rfl) rfl (c10_nth R hS hV hN (x := b) (i := i) (by omega) ⟨_, rfl, ?_⟩)
      rw [ey1]
      show mx_W _ _ _ _ (.int (nI y) :: _) _ _
      refine w_istore dX10_staysAlike_31 (lb rfl) ?_
      refine w_aload_n dX10_staysAlike_33 h0 ?_
      refine r_getr  dX10_staysAlike_34 ft_9_67 R rfl (hS _ _ rfl) rfl (lb rfl) (hM.1 24 (lb rfl) (lb rfl)) ?_
      refine w_iload dX10_staysAlike_37 rfl ?_
      refine r_iald  dX10_staysAlike_39 R rfl (hS _ _ rfl) rfl rfl (by omega) (lb rfl) ((hre x ex2).2.2.2.1.trans p2) ?_
      refine w_istore dX10_staysAlike_40 (lb rfl) ?_
      refine w_aload_n dX10_staysAlike_42 h0 ?_
      refine r_getr  dX10_staysAlike_43 ft_9_67 R rfl (hS _ _ rfl) rfl (lb rfl) (hM.1 24 (lb rfl) (lb rfl)) ?_
      refine w_iload dX10_staysAlike_46 rfl ?_
      refine r_iald  dX10_staysAlike_48 R rfl (hS _ _ rfl) rfl rfl (by omega) (lb rfl) ((hre y ey2).2.2.2.1.trans r2) ?_
      refine w_istore dX10_staysAlike_49 (lb rfl) ?_
      refine w_aload_n dX10_staysAlike_51 h0 ?_
      refine r_getr  dX10_staysAlike_52 ft_9_61 R rfl (hS _ _ rfl) rfl (lb rfl) (hM.1 22 (lb rfl) (lb rfl)) ?_
      refine w_iload dX10_staysAlike_55 rfl ?_
      refine r_iald  dX10_staysAlike_57 R rfl (hS _ _ rfl) rfl rfl (by omega) (lb rfl) (hre x ex2).2.1 ?_
      refine w_aload_n dX10_staysAlike_58 h0 ?_
      refine r_getr  dX10_staysAlike_59 ft_9_61 R rfl (hS _ _ rfl) rfl (lb rfl) (hM.1 22 (lb rfl) (lb rfl)) ?_
      refine w_iload dX10_staysAlike_62 rfl ?_
      refine r_iald  dX10_staysAlike_64 R rfl (hS _ _ rfl) rfl rfl (by omega) (lb rfl) (hre y ey2).2.1 ?_
      refine r_icmp_neP (t := 119) dX10_staysAlike_65 rfl (fun h65 => ?_) (fun h65 => ?_)
      ·
        refine w_iconst (v := 0) dX10_staysAlike_119 (by decide) ?_
        exact w_iret dX10_staysAlike_120 rfl rfl (qf (fun e => by have e2 := e i h12 x y ex1 ey1; unfold prA at e2; rw [cp, cr] at e2; exact h65 e2.1))
      ·
        refine w_aload_n dX10_staysAlike_68 h0 ?_
        refine r_getr  dX10_staysAlike_69 ft_9_64 R rfl (hS _ _ rfl) rfl (lb rfl) (hM.1 23 (lb rfl) (lb rfl)) ?_
        refine w_iload dX10_staysAlike_72 rfl ?_
        refine r_iald  dX10_staysAlike_74 R rfl (hS _ _ rfl) rfl rfl (by omega) (lb rfl) (hre x ex2).2.2.1 ?_
        refine w_aload_n dX10_staysAlike_75 h0 ?_
        refine r_getr  dX10_staysAlike_76 ft_9_64 R rfl (hS _ _ rfl) rfl (lb rfl) (hM.1 23 (lb rfl) (lb rfl)) ?_
        refine w_iload dX10_staysAlike_79 rfl ?_
        refine r_iald  dX10_staysAlike_81 R rfl (hS _ _ rfl) rfl rfl (by omega) (lb rfl) (hre y ey2).2.2.1 ?_
        refine r_icmp_neP (t := 119) dX10_staysAlike_82 rfl (fun h82 => ?_) (fun h82 => ?_)
        ·
          refine w_iconst (v := 0) dX10_staysAlike_119 (by decide) ?_
          exact w_iret dX10_staysAlike_120 rfl rfl (qf (fun e => by have e2 := e i h12 x y ex1 ey1; unfold prA at e2; rw [cp, cr] at e2; exact h82 e2.2.1))
        ·
          refine w_aload_n dX10_staysAlike_85 h0 ?_
          refine r_getr  dX10_staysAlike_86 ft_9_70 R rfl (hS _ _ rfl) rfl (lb rfl) (hM.1 25 (lb rfl) (lb rfl)) ?_
          refine w_iload dX10_staysAlike_89 rfl ?_
          refine r_iald  dX10_staysAlike_91 R rfl (hS _ _ rfl) rfl rfl (by omega) (lb rfl) (hre x ex2).2.2.2.2 ?_
          refine w_aload_n dX10_staysAlike_92 h0 ?_
          refine r_getr  dX10_staysAlike_93 ft_9_70 R rfl (hS _ _ rfl) rfl (lb rfl) (hM.1 25 (lb rfl) (lb rfl)) ?_
          refine w_iload dX10_staysAlike_96 rfl ?_
          refine r_iald  dX10_staysAlike_98 R rfl (hS _ _ rfl) rfl rfl (by omega) (lb rfl) (hre y ey2).2.2.2.2 ?_
          refine r_icmp_neP (t := 119) dX10_staysAlike_99 rfl (fun h99 => ?_) (fun h99 => ?_)
          ·
            refine w_iconst (v := 0) dX10_staysAlike_119 (by decide) ?_
            exact w_iret dX10_staysAlike_120 rfl rfl (qf (fun e => by have e2 := e i h12 x y ex1 ey1; unfold prA at e2; rw [cp, cr] at e2; exact h99 e2.2.2.1))
          ·
            refine w_aload_n dX10_staysAlike_102 h0 ?_
            refine r_getr  dX10_staysAlike_103 ft_9_91 R rfl (hS _ _ rfl) rfl (lb rfl) (hM.1 35 (lb rfl) (lb rfl)) ?_
            refine w_iload dX10_staysAlike_106 rfl ?_
            refine r_iald  dX10_staysAlike_108 R rfl (hS _ _ rfl) rfl rfl (by omega) (lb rfl) (hA p pl).1 ?_
            refine w_aload_n dX10_staysAlike_109 h0 ?_
            refine r_getr  dX10_staysAlike_110 ft_9_91 R rfl (hS _ _ rfl) rfl (lb rfl) (hM.1 35 (lb rfl) (lb rfl)) ?_
            refine w_iload dX10_staysAlike_113 rfl ?_
            refine r_iald  dX10_staysAlike_115 R rfl (hS _ _ rfl) rfl rfl (by omega) (lb rfl) (hA r rl).1 ?_
            refine w_icmp_eq (t := 121) dX10_staysAlike_116 rfl (fun h116 => ?_) (fun h116 => ?_)
            ·
              refine w_aload_n dX10_staysAlike_121 h0 ?_
              refine r_getr  dX10_staysAlike_122 ft_9_94 R rfl (hS _ _ rfl) rfl (lb rfl) (hM.1 36 (lb rfl) (lb rfl)) ?_
              refine w_iload dX10_staysAlike_125 rfl ?_
              refine r_iald  dX10_staysAlike_127 R rfl (hS _ _ rfl) rfl rfl (by omega) (lb rfl) (hA p pl).2.1 ?_
              refine w_aload_n dX10_staysAlike_128 h0 ?_
              refine r_getr  dX10_staysAlike_129 ft_9_94 R rfl (hS _ _ rfl) rfl (lb rfl) (hM.1 36 (lb rfl) (lb rfl)) ?_
              refine w_iload dX10_staysAlike_132 rfl ?_
              refine r_iald  dX10_staysAlike_134 R rfl (hS _ _ rfl) rfl rfl (by omega) (lb rfl) (hA r rl).2.1 ?_
              refine w_icmp_eq (t := 175) dX10_staysAlike_135 rfl (fun h135 => ?_) (fun h135 => ?_)
              ·
                refine w_iconst (v := 1) dX10_staysAlike_175 (by decide) ?_
                refine w_goto (t := 180) dX10_staysAlike_176 rfl ?_
                refine w_istore dX10_staysAlike_180 (lb rfl) ?_
                refine w_aload_n dX10_staysAlike_182 h0 ?_
                refine r_getr  dX10_staysAlike_183 ft_9_91 R rfl (hS _ _ rfl) rfl (lb rfl) (hM.1 35 (lb rfl) (lb rfl)) ?_
                refine w_iload dX10_staysAlike_186 rfl ?_
                refine r_iald  dX10_staysAlike_188 R rfl (hS _ _ rfl) rfl rfl (by omega) (lb rfl) (hA p pl).1 ?_
                refine w_if_eq (t := 216) dX10_staysAlike_189 rfl (fun h189 => ?_) (fun h189 => ?_)
                ·
                  refine w_iinc dX10_staysAlike_216 h4 (nI_1 _) (lb rfl) ?_
                  refine w_goto (t := 9) dX10_staysAlike_219 rfl ?_
                  refine ih (i + 1) _ (by omega) (by omega) (fun j hj x' y' hx' hy' => ?_) h0 h1 h2 h3 rfl qt qf
                  by_cases e : j = i
                  · subst e
                    rw [ex1] at hx'; cases hx'
                    rw [ey1] at hy'; cases hy'
                    unfold prA
                    rw [cp, cr]
                    exact ⟨h65, h82, h99, h116, fun e => absurd h189 e⟩
                  · exact hc j (by omega) x' y' hx' hy'
                ·
                  refine w_iload dX10_staysAlike_192 rfl ?_
                  refine w_if_eq (t := 214) dX10_staysAlike_194 rfl (fun h => absurd h (by decide)) (fun _ => ?_)
                  refine w_aload_n dX10_staysAlike_197 h0 ?_
                  refine r_getr  dX10_staysAlike_198 ft_9_97 R rfl (hS _ _ rfl) rfl (lb rfl) (hM.1 37 (lb rfl) (lb rfl)) ?_
                  refine w_iload dX10_staysAlike_201 rfl ?_
                  refine r_iald  dX10_staysAlike_203 R rfl (hS _ _ rfl) rfl rfl (by omega) (lb rfl) (hA p pl).2.2 ?_
                  refine w_aload_n dX10_staysAlike_204 h0 ?_
                  refine r_getr  dX10_staysAlike_205 ft_9_97 R rfl (hS _ _ rfl) rfl (lb rfl) (hM.1 37 (lb rfl) (lb rfl)) ?_
                  refine w_iload dX10_staysAlike_208 rfl ?_
                  refine r_iald  dX10_staysAlike_210 R rfl (hS _ _ rfl) rfl rfl (by omega) (lb rfl) (hA r rl).2.2 ?_
                  refine w_icmp_eq (t := 216) dX10_staysAlike_211 rfl (fun h211 => ?_) (fun h211 => ?_)
                  ·
                    refine w_iinc dX10_staysAlike_216 h4 (nI_1 _) (lb rfl) ?_
                    refine w_goto (t := 9) dX10_staysAlike_219 rfl ?_
                    refine ih (i + 1) _ (by omega) (by omega) (fun j hj x' y' hx' hy' => ?_) h0 h1 h2 h3 rfl qt qf
                    by_cases e : j = i
                    · subst e
                      rw [ex1] at hx'; cases hx'
                      rw [ey1] at hy'; cases hy'
                      unfold prA
                      rw [cp, cr]
                      exact ⟨h65, h82, h99, h116, fun e => ⟨Or.inl h135, h211⟩⟩
                    · exact hc j (by omega) x' y' hx' hy'
                  ·
                    refine w_iconst (v := 0) dX10_staysAlike_214 (by decide) ?_
                    exact w_iret dX10_staysAlike_215 rfl rfl (qf (fun e => by have e2 := e i h12 x y ex1 ey1; unfold prA at e2; rw [cp, cr] at e2; exact h211 (e2.2.2.2.2 h189).2))
              ·
                refine w_aload_n dX10_staysAlike_138 h0 ?_
                refine r_getr  dX10_staysAlike_139 ft_9_91 R rfl (hS _ _ rfl) rfl (lb rfl) (hM.1 35 (lb rfl) (lb rfl)) ?_
                refine w_iload dX10_staysAlike_142 rfl ?_
                refine r_iald  dX10_staysAlike_144 R rfl (hS _ _ rfl) rfl rfl (by omega) (lb rfl) (hA p pl).1 ?_
                refine w_iconst (v := 1) dX10_staysAlike_145 (by decide) ?_
                refine r_icmp_neP (t := 179) dX10_staysAlike_146 rfl (fun h146 => ?_) (fun h146 => ?_)
                ·
                  refine w_iconst (v := 0) dX10_staysAlike_179 (by decide) ?_
                  refine w_istore dX10_staysAlike_180 (lb rfl) ?_
                  refine w_aload_n dX10_staysAlike_182 h0 ?_
                  refine r_getr  dX10_staysAlike_183 ft_9_91 R rfl (hS _ _ rfl) rfl (lb rfl) (hM.1 35 (lb rfl) (lb rfl)) ?_
                  refine w_iload dX10_staysAlike_186 rfl ?_
                  refine r_iald  dX10_staysAlike_188 R rfl (hS _ _ rfl) rfl rfl (by omega) (lb rfl) (hA p pl).1 ?_
                  refine w_if_eq (t := 216) dX10_staysAlike_189 rfl (fun h189 => ?_) (fun h189 => ?_)
                  ·
                    refine w_iinc dX10_staysAlike_216 h4 (nI_1 _) (lb rfl) ?_
                    refine w_goto (t := 9) dX10_staysAlike_219 rfl ?_
                    refine ih (i + 1) _ (by omega) (by omega) (fun j hj x' y' hx' hy' => ?_) h0 h1 h2 h3 rfl qt qf
                    by_cases e : j = i
                    · subst e
                      rw [ex1] at hx'; cases hx'
                      rw [ey1] at hy'; cases hy'
                      unfold prA
                      rw [cp, cr]
                      exact ⟨h65, h82, h99, h116, fun e => absurd h189 e⟩
                    · exact hc j (by omega) x' y' hx' hy'
                  ·
                    refine w_iload dX10_staysAlike_192 rfl ?_
                    refine w_if_eq (t := 214) dX10_staysAlike_194 rfl (fun _ => ?_) (fun h => absurd (by decide) h)
                    refine w_iconst (v := 0) dX10_staysAlike_214 (by decide) ?_
                    exact w_iret dX10_staysAlike_215 rfl rfl (qf (fun e => by have e2 := e i h12 x y ex1 ey1; unfold prA at e2; rw [cp, cr] at e2; exact (e2.2.2.2.2 h189).1.elim h135 (fun e3 => h146 e3.1)))
                ·
                  obtain ⟨d1, _, _, e3, e4, e5⟩ := at_place hV pl h146
                  obtain ⟨d2, _, _, f3, f4, f5⟩ := at_place hV rl (h116.symm.trans h146)
                  obtain ⟨u, u1, u2⟩ := nI_ofI (by rw [← e3] at e4; exact e4)
                  obtain ⟨v, v1, v2⟩ := nI_ofI (by rw [← f3] at f4; exact f4)
                  have ul : u < tN τ 1 := by rw [← e3, u2, clN u1] at e5; exact e5
                  have vl : v < tN τ 1 := by rw [← f3, v2, clN v1] at f5; exact f5
                  refine w_aload_n dX10_staysAlike_149 h0 ?_
                  refine r_getr  dX10_staysAlike_150 ft_9_118 R rfl (hS _ _ rfl) rfl (lb rfl) (hM.1 45 (lb rfl) (lb rfl)) ?_
                  refine w_bipush (v := nI 60) dX10_staysAlike_153 (by decide) ?_
                  refine w_aload_n dX10_staysAlike_155 h0 ?_
                  refine r_getr  dX10_staysAlike_156 ft_9_94 R rfl (hS _ _ rfl) rfl (lb rfl) (hM.1 36 (lb rfl) (lb rfl)) ?_
                  refine w_iload dX10_staysAlike_159 rfl ?_
                  refine r_iald  dX10_staysAlike_161 R rfl (hS _ _ rfl) rfl rfl (by omega) (lb rfl) ((hA p pl).2.1.trans u2) ?_
                  refine w_imul dX10_staysAlike_162 ?_
                  rw [nI_mul]
                  refine w_aload_n dX10_staysAlike_163 h0 ?_
                  refine r_getr  dX10_staysAlike_164 ft_9_94 R rfl (hS _ _ rfl) rfl (lb rfl) (hM.1 36 (lb rfl) (lb rfl)) ?_
                  refine w_iload dX10_staysAlike_167 rfl ?_
                  refine r_iald  dX10_staysAlike_169 R rfl (hS _ _ rfl) rfl rfl (by omega) (lb rfl) ((hA r rl).2.1.trans v2) ?_
                  refine w_iadd dX10_staysAlike_170 ?_
                  rw [nI_add]
                  refine r_zald  dX10_staysAlike_171 R rfl (hS _ _ rfl) rfl rfl (by omega) (lb rfl) rfl ?_
                  refine w_if_eq (t := 179) dX10_staysAlike_172 rfl (fun h172 => ?_) (fun h172 => ?_)
                  ·
                    refine w_iconst (v := 0) dX10_staysAlike_179 (by decide) ?_
                    refine w_istore dX10_staysAlike_180 (lb rfl) ?_
                    refine w_aload_n dX10_staysAlike_182 h0 ?_
                    refine r_getr  dX10_staysAlike_183 ft_9_91 R rfl (hS _ _ rfl) rfl (lb rfl) (hM.1 35 (lb rfl) (lb rfl)) ?_
                    refine w_iload dX10_staysAlike_186 rfl ?_
                    refine r_iald  dX10_staysAlike_188 R rfl (hS _ _ rfl) rfl rfl (by omega) (lb rfl) (hA p pl).1 ?_
                    refine w_if_eq (t := 216) dX10_staysAlike_189 rfl (fun h => absurd (h146.symm.trans h) (by decide)) (fun h189 => ?_)
                    refine w_iload dX10_staysAlike_192 rfl ?_
                    refine w_if_eq (t := 214) dX10_staysAlike_194 rfl (fun _ => ?_) (fun h => absurd (by decide) h)
                    refine w_iconst (v := 0) dX10_staysAlike_214 (by decide) ?_
                    exact w_iret dX10_staysAlike_215 rfl rfl (qf (fun e => by have e2 := e i h12 x y ex1 ey1; unfold prA at e2; rw [cp, cr] at e2; exact (e2.2.2.2.2 h189).1.elim h135 (fun e3 => e3.2 (by rw [u2, v2, clN u1, clN v1]; exact h172))))
                  ·
                    refine w_iconst (v := 1) dX10_staysAlike_175 (by decide) ?_
                    refine w_goto (t := 180) dX10_staysAlike_176 rfl ?_
                    refine w_istore dX10_staysAlike_180 (lb rfl) ?_
                    refine w_aload_n dX10_staysAlike_182 h0 ?_
                    refine r_getr  dX10_staysAlike_183 ft_9_91 R rfl (hS _ _ rfl) rfl (lb rfl) (hM.1 35 (lb rfl) (lb rfl)) ?_
                    refine w_iload dX10_staysAlike_186 rfl ?_
                    refine r_iald  dX10_staysAlike_188 R rfl (hS _ _ rfl) rfl rfl (by omega) (lb rfl) (hA p pl).1 ?_
                    refine w_if_eq (t := 216) dX10_staysAlike_189 rfl (fun h => absurd (h146.symm.trans h) (by decide)) (fun h189 => ?_)
                    refine w_iload dX10_staysAlike_192 rfl ?_
                    refine w_if_eq (t := 214) dX10_staysAlike_194 rfl (fun h => absurd h (by decide)) (fun _ => ?_)
                    refine w_aload_n dX10_staysAlike_197 h0 ?_
                    refine r_getr  dX10_staysAlike_198 ft_9_97 R rfl (hS _ _ rfl) rfl (lb rfl) (hM.1 37 (lb rfl) (lb rfl)) ?_
                    refine w_iload dX10_staysAlike_201 rfl ?_
                    refine r_iald  dX10_staysAlike_203 R rfl (hS _ _ rfl) rfl rfl (by omega) (lb rfl) (hA p pl).2.2 ?_
                    refine w_aload_n dX10_staysAlike_204 h0 ?_
                    refine r_getr  dX10_staysAlike_205 ft_9_97 R rfl (hS _ _ rfl) rfl (lb rfl) (hM.1 37 (lb rfl) (lb rfl)) ?_
                    refine w_iload dX10_staysAlike_208 rfl ?_
                    refine r_iald  dX10_staysAlike_210 R rfl (hS _ _ rfl) rfl rfl (by omega) (lb rfl) (hA r rl).2.2 ?_
                    refine w_icmp_eq (t := 216) dX10_staysAlike_211 rfl (fun h211 => ?_) (fun h211 => ?_)
                    ·
                      refine w_iinc dX10_staysAlike_216 h4 (nI_1 _) (lb rfl) ?_
                      refine w_goto (t := 9) dX10_staysAlike_219 rfl ?_
                      refine ih (i + 1) _ (by omega) (by omega) (fun j hj x' y' hx' hy' => ?_) h0 h1 h2 h3 rfl qt qf
                      by_cases e : j = i
                      · subst e
                        rw [ex1] at hx'; cases hx'
                        rw [ey1] at hy'; cases hy'
                        unfold prA
                        rw [cp, cr]
                        exact ⟨h65, h82, h99, h116, fun e => ⟨Or.inr ⟨h146, by rw [u2, v2, clN u1, clN v1]; exact h172⟩, h211⟩⟩
                      · exact hc j (by omega) x' y' hx' hy'
                    ·
                      refine w_iconst (v := 0) dX10_staysAlike_214 (by decide) ?_
                      exact w_iret dX10_staysAlike_215 rfl rfl (qf (fun e => by have e2 := e i h12 x y ex1 ey1; unfold prA at e2; rw [cp, cr] at e2; exact h211 (e2.2.2.2.2 h189).2))
            ·
              refine w_iconst (v := 0) dX10_staysAlike_119 (by decide) ?_
              exact w_iret dX10_staysAlike_120 rfl rfl (qf (fun e => by have e2 := e i h12 x y ex1 ey1; unfold prA at e2; rw [cp, cr] at e2; exact h116 e2.2.2.2.1))
theorem c10_staysAlike (R : rx_R b0 O z1 z2 s G) (hS : rx_in s) {τ : tx_T} (hV : TV τ) (hN : NN s τ) {a b : Nat} (ha : a < tN τ 1) (hb : b < tN τ 1) (hr : rlN τ a = rlN τ b) (qt : syA τ (AS s) a b → Q (.inl (some (.int 1))) G) (qf : ¬ syA τ (AS s) a b → Q (.inl (some (.int 0))) G) : mx_W (gt_P b0 mi E) mX10_staysAlike 0 (mx_en 0 [.ref (rA s 0 0), .int (nI a), .int (nI b)]) [] G Q := by
  obtain ⟨hT, hL, hD, hA⟩ := id hN
  obtain ⟨hM, ⟨c1, c2, c13, c14, c20, c26⟩, hsec, hby, hsy, hre, hro, hba⟩ := id hT
  have hV0 := hV.1
  refine w_aload_n dX10_staysAlike_0 rfl ?_
  refine w_iload_n dX10_staysAlike_1 rfl ?_
  refine r_inv1  dX10_staysAlike_2 mt_9_213 R rfl (hS _ _ rfl) rfl (lb rfl) (lb rfl) (lb rfl) (lb rfl) rfl (c10_relocationsOf R hS hV hN (x := a) ⟨_, rfl, ?_⟩)
  refine w_istore_n dX10_staysAlike_5 (lb rfl) ?_
  refine w_iconst (v := 0) dX10_staysAlike_6 (by decide) ?_
  refine w_istore dX10_staysAlike_7 (lb rfl) ?_
  exact c10_staysAlike_l R hS hV hN ha hb hr (cnt_le _ _) (rlN τ a + 1) 0 _ (by omega) (by omega) (fun j hj => absurd hj (Nat.not_lt_zero _)) rfl rfl rfl rfl rfl qt qf
end
