theorem u_of {u : Int64} {v : Int} (h : u.toInt = v) : u = Int64.ofInt v := by rw [← h]; exact (Int64.ofInt_toInt u).symm
theorem l2n {u : Int64} {a n : Nat} (ha : a < 2 ^ 31) (h1 : u.toInt - a = n) (hn : n < 2 ^ 31) : (u - lN a).toInt32 = nI n := by
  have hb := Int64.toInt_lt u
  have e : u - lN a = lN n := by
    apply Int64.toInt_inj.mp
    rw [subG (by omega) (by omega) (by rw [lN_toInt ha]; omega) (by rw [lN_toInt ha]; omega), lN_toInt ha, lN_toInt hn, h1]
  rw [e, lN_i]
theorem nI_s4 {n : Nat} (h : 4 ≤ n) (hn : n < 2 ^ 31) : nI n - nI 4 = Int32.ofInt ((n : Int) - 4) := by
  apply Int32.toInt_inj.mp
  rw [t_sub (by rw [nI_toInt hn]; omega) (by decide), nI_toInt hn, Int32.toInt_ofInt]
  have : (nI 4).toInt = 4 := by decide
  rw [this, Int.bmod_def]
  have hs : (Int32.size : Int) = 4294967296 := rfl
  rw [hs]
  omega
section
variable {b0 mi z1 z2 : Nat} {E : Nat → Nat} {O : Nat → Option mx_C} {s : rx_S} {G : mx_H} {Q : mx_O → mx_H → Prop}
theorem c10_byteOf_l (R : rx_R b0 O z1 z2 s G) (hS : rx_in s) {τ : tx_T} (hV : TV τ) {w : Bool} (hF : NF s τ w) (hO : AO τ) {S : vS} (hvv : vV τ S) (hvp : vPl τ w S) (hvq : vQ τ S) (hW : VS s S) (hP : PL s τ w S.1) {x i : Nat} (hx : x < tN τ 1) (hpl : plB τ w x = true) (hi : i < 2 ^ 31)  : ∀ (d : Nat) (k : Nat) (L : mx_L), tN τ 3 - k < d → k ≤ tN τ 3 → L 0 = some (.ref (rA s 0 0)) → L 1 = some (.int (nI x)) → L 2 = some (.int (nI i)) → L 3 = some (.int (byI τ w S x i k)) → L 4 = some (.int (nI k)) → (Q (.inl (some (.int (byI τ w S x i (tN τ 3))))) G) → mx_W (gt_P b0 mi E) mX10_byteOf 29 L [] G Q := by
  obtain ⟨hK, hI⟩ := id hF
  obtain ⟨hN, hKQ, hKV⟩ := id hK
  obtain ⟨hT, hL, hD, hA⟩ := id hN
  obtain ⟨hM, ⟨c1, c2, c13, c14, c20, c26⟩, hsec, hby, hsy, hre, hro, hba⟩ := id hT
  have hV0 := hV.1
  intro d
  induction d with
  | zero => intro k L hd; exact absurd hd (Nat.not_lt_zero _)
  | succ d ih =>
    intro k L hd hk h0 h1 h2 h3 h4 q
    refine w_iload dX10_byteOf_29 h4 ?_
    refine w_aload_n dX10_byteOf_31 h0 ?_
    refine r_geti  dX10_byteOf_32 ft_9_195 R rfl (hS _ _ rfl) rfl (lb rfl) c20 ?_
    refine r_icmp_gen (t := 107) dX10_byteOf_35 rfl (by omega) (by omega) (fun h35 => ?_) (fun h35 => ?_)
    ·
      refine w_iload_n dX10_byteOf_107 h3 ?_
      refine w_iret dX10_byteOf_108 rfl rfl ?_
      obtain rfl : k = tN τ 3 := by omega
      exact q
    ·
      have hof := (hV.2.2.2.1 k (by omega)).2.1
      have hji : (nI i - tT τ 22 k).toInt = (i : Int) - (tT τ 22 k).toInt := by rw [t_sub (by rw [nI_toInt hi]; omega) hof.1, nI_toInt hi]
      refine w_iload_n dX10_byteOf_38 h2 ?_
      refine w_aload_n dX10_byteOf_39 h0 ?_
      refine r_getr  dX10_byteOf_40 ft_9_61 R rfl (hS _ _ rfl) rfl (lb rfl) (hM.1 22 (lb rfl) (lb rfl)) ?_
      refine w_iload dX10_byteOf_43 h4 ?_
      refine r_iald  dX10_byteOf_45 R rfl (hS _ _ rfl) rfl rfl (by omega) (lb rfl) (hre k (by omega)).2.1 ?_
      refine w_isub dX10_byteOf_46 ?_
      refine w_istore dX10_byteOf_47 (lb rfl) ?_
      refine w_aload_n dX10_byteOf_49 h0 ?_
      refine r_getr  dX10_byteOf_50 ft_9_58 R rfl (hS _ _ rfl) rfl (lb rfl) (hM.1 21 (lb rfl) (lb rfl)) ?_
      refine w_iload dX10_byteOf_53 h4 ?_
      refine r_iald  dX10_byteOf_55 R rfl (hS _ _ rfl) rfl rfl (by omega) (lb rfl) (hre k (by omega)).1 ?_
      refine w_iload_n dX10_byteOf_56 h1 ?_
      refine r_icmp_neP (t := 101) dX10_byteOf_57 rfl (fun h57 => ?_) (fun h57 => ?_)
      ·
        refine w_iinc dX10_byteOf_101 h4 (nI_1 _) (lb rfl) ?_
        refine w_goto (t := 29) dX10_byteOf_104 rfl ?_
        have ec : ((tT τ 21 k == nI x) && decide ((tT τ 22 k).toInt ≤ i ∧ (i : Int) < (tT τ 22 k).toInt + t_wide (tT τ 23 k))) = false := by rw [beq_eq_false_iff_ne.mpr h57]; rfl
        exact ih (k + 1) _ (by omega) (by omega) h0 h1 h2 (by show _ = some (Value.int (bif ((tT τ 21 k == nI x) && decide ((tT τ 22 k).toInt ≤ i ∧ (i : Int) < (tT τ 22 k).toInt + t_wide (tT τ 23 k))) then _ else _)); rw [ec]; exact h3) rfl q
      ·
        refine w_iload dX10_byteOf_60 rfl ?_
        refine w_i2l dX10_byteOf_62 ?_
        refine w_lconst (v := 0) dX10_byteOf_63 (by decide) ?_
        refine w_aload_n dX10_byteOf_64 h0 ?_
        refine r_getr  dX10_byteOf_65 ft_9_64 R rfl (hS _ _ rfl) rfl (lb rfl) (hM.1 23 (lb rfl) (lb rfl)) ?_
        refine w_iload dX10_byteOf_68 h4 ?_
        refine r_iald  dX10_byteOf_70 R rfl (hS _ _ rfl) rfl rfl (by omega) (lb rfl) (hre k (by omega)).2.2.1 ?_
        refine r_stat1 dX10_byteOf_71 mt_9_191 (lb rfl) (lb rfl) (lb rfl) (lb rfl) rfl (c10_wide (fun wd w1 w2 w3 => ⟨_, rfl, ?_⟩))
        refine w_iconst (v := 1) dX10_byteOf_74 (by decide) ?_
        refine w_isub dX10_byteOf_75 ?_
        refine w_i2l dX10_byteOf_76 ?_
        refine r_stat3 dX10_byteOf_77 mt_9_155 (lb rfl) (lb rfl) (lb rfl) (lb rfl) rfl (c10_inI ((Int32.toInt_toInt64 _).trans hji) (b := 0) (by decide) ((t_m1 w2).trans (by rw [w1])) (fun i77a i77b => ⟨_, rfl, ?_⟩) (fun i77 => ⟨_, rfl, ?_⟩))
        ·
          refine w_if_eq (t := 101) dX10_byteOf_80 rfl (fun h => absurd h (by decide)) (fun _ => ?_)
          refine w_aload_n dX10_byteOf_83 h0 ?_
          refine w_iload dX10_byteOf_84 h4 ?_
          refine r_inv1  dX10_byteOf_86 mt_9_295 R rfl (hS _ _ rfl) rfl (lb rfl) (lb rfl) (lb rfl) (lb rfl) rfl (c10_written R hS hV hF hO hvv hvp hvq hW hP (k := k) (by omega) (by rw [h57, clN (by omega)]; exact hpl) (fun u hu => ⟨_, rfl, ?_⟩))
          refine w_bipush (v := 8) dX10_byteOf_89 (by decide) ?_
          refine w_iload dX10_byteOf_91 rfl ?_
          refine w_imul dX10_byteOf_93 ?_
          refine w_lshr dX10_byteOf_94 ?_
          refine w_l2i dX10_byteOf_95 ?_
          refine w_sipush (v := 255) dX10_byteOf_96 (by decide) ?_
          refine w_iand dX10_byteOf_99 ?_
          refine w_istore_n dX10_byteOf_100 (lb rfl) ?_
          refine w_iinc dX10_byteOf_101 h4 (nI_1 _) (lb rfl) ?_
          refine w_goto (t := 29) dX10_byteOf_104 rfl ?_
          have ec : ((tT τ 21 k == nI x) && decide ((tT τ 22 k).toInt ≤ i ∧ (i : Int) < (tT τ 22 k).toInt + t_wide (tT τ 23 k))) = true := by rw [h57, decide_eq_true (show (tT τ 22 k).toInt ≤ i ∧ (i : Int) < (tT τ 22 k).toInt + t_wide (tT τ 23 k) by omega)]; simp
          exact ih (k + 1) _ (by omega) (by omega) h0 h1 h2 (by show _ = some (Value.int (bif ((tT τ 21 k == nI x) && decide ((tT τ 22 k).toInt ≤ i ∧ (i : Int) < (tT τ 22 k).toInt + t_wide (tT τ 23 k))) then _ else _)); rw [ec, u_of hu]; rfl) rfl q
        ·
          refine w_if_eq (t := 101) dX10_byteOf_80 rfl (fun _ => ?_) (fun h => absurd (by decide) h)
          refine w_iinc dX10_byteOf_101 h4 (nI_1 _) (lb rfl) ?_
          refine w_goto (t := 29) dX10_byteOf_104 rfl ?_
          have ec : ((tT τ 21 k == nI x) && decide ((tT τ 22 k).toInt ≤ i ∧ (i : Int) < (tT τ 22 k).toInt + t_wide (tT τ 23 k))) = false := by rw [decide_eq_false (fun e => i77 (by omega) (by omega))]; simp
          exact ih (k + 1) _ (by omega) (by omega) h0 h1 h2 (by show _ = some (Value.int (bif ((tT τ 21 k == nI x) && decide ((tT τ 22 k).toInt ≤ i ∧ (i : Int) < (tT τ 22 k).toInt + t_wide (tT τ 23 k))) then _ else _)); rw [ec]; exact h3) rfl q
theorem c10_byteOf (R : rx_R b0 O z1 z2 s G) (hS : rx_in s) {τ : tx_T} (hV : TV τ) {w : Bool} (hF : NF s τ w) (hO : AO τ) {S : vS} (hvv : vV τ S) (hvp : vPl τ w S) (hvq : vQ τ S) (hW : VS s S) (hP : PL s τ w S.1) {x i : Nat} (hx : x < tN τ 1) (hpl : plB τ w x = true) (hi : i < cl (tT τ 5 x)) (q : Q (.inl (some (.int (byS τ w S x i)))) G) : mx_W (gt_P b0 mi E) mX10_byteOf 0 (mx_en 0 [.ref (rA s 0 0), .int (nI x), .int (nI i)]) [] G Q := by
  obtain ⟨hK, hI⟩ := id hF
  obtain ⟨hN, hKQ, hKV⟩ := id hK
  obtain ⟨hT, hL, hD, hA⟩ := id hN
  obtain ⟨hM, ⟨c1, c2, c13, c14, c20, c26⟩, hsec, hby, hsy, hre, hro, hba⟩ := id hT
  have hV0 := hV.1
  have hz := (hV.2.1 x hx).2.2.1
  have hz2 := clI hz.1
  have hkd := (hV.2.1 x hx).2.1
  refine w_aload_n dX10_byteOf_0 rfl ?_
  refine r_getr  dX10_byteOf_1 ft_9_17 R rfl (hS _ _ rfl) rfl (lb rfl) (hM.1 4 (lb rfl) (lb rfl)) ?_
  refine w_iload_n dX10_byteOf_4 rfl ?_
  refine r_iald  dX10_byteOf_5 R rfl (hS _ _ rfl) rfl rfl (by omega) (lb rfl) (hsec x hx).2.1 ?_
  refine w_iconst (v := 3) dX10_byteOf_6 (by decide) ?_
  refine r_icmp_neP (t := 12) dX10_byteOf_7 rfl (fun h7 => ?_) (fun h7 => ?_)
  ·
    obtain ⟨fr, fl, g1, g2, g3, g4⟩ := hby
    have hk3 : (tT τ 4 x).toInt < 3 := by
      have : (tT τ 4 x).toInt ≠ 3 := fun e => h7 (i32e e)
      omega
    obtain ⟨pa1, pa2, pa3⟩ := g3 x hx hk3
    refine w_aload_n dX10_byteOf_12 rfl ?_
    refine r_getr  dX10_byteOf_13 ft_9_40 R rfl (hS _ _ rfl) rfl (lb rfl) (hM.1 11 (lb rfl) (lb rfl)) ?_
    refine w_aload_n dX10_byteOf_16 rfl ?_
    refine r_getr  dX10_byteOf_17 ft_9_26 R rfl (hS _ _ rfl) rfl (lb rfl) (hM.1 7 (lb rfl) (lb rfl)) ?_
    refine w_iload_n dX10_byteOf_20 rfl ?_
    refine r_iald  dX10_byteOf_21 R rfl (hS _ _ rfl) rfl rfl (by omega) (lb rfl) pa1 ?_
    refine w_iload_n dX10_byteOf_22 rfl ?_
    refine w_iadd dX10_byteOf_23 ?_
    rw [nI_add]
    refine r_iald  dX10_byteOf_24 R rfl (hS _ _ rfl) rfl rfl (by omega) (lb rfl) (pa3 i hi) ?_
    refine w_istore_n dX10_byteOf_25 (lb rfl) ?_
    refine w_iconst (v := 0) dX10_byteOf_26 (by decide) ?_
    refine w_istore dX10_byteOf_27 (lb rfl) ?_
    have e : byS τ w S x i = byI τ w S x i (tN τ 3) := by unfold byS; rw [if_neg h7]
    rw [e] at q
    exact c10_byteOf_l R hS hV hF hO hvv hvp hvq hW hP hx hpl (by omega) (tN τ 3 + 1) 0 _ (by omega) (by omega) rfl rfl rfl rfl rfl q
  ·
    refine w_iconst (v := 0) dX10_byteOf_10 (by decide) ?_
    refine w_iret dX10_byteOf_11 rfl rfl ?_
    have e : byS τ w S x i = 0 := by unfold byS; rw [if_pos h7]
    rw [e] at q; exact q
theorem c10_octet_v (R : rx_R b0 O z1 z2 s G) (hS : rx_in s) {τ : tx_T} (hV : TV τ) {l : Option Bool} (hML : ML s τ l) {w : Bool} (hm : im τ l = some w) {p : Int64} (h1o : fst1 (o1B τ w (vR τ w).1.1 p.toInt) (tN τ 1) = none)  (q : Q (.inl (some (.int (a_octet τ l p.toInt)))) G) : ∀ (d : Nat) (i : Nat) (L : mx_L), (vR τ w).1.1.length - i < d → i ≤ (vR τ w).1.1.length → fst1 (o2B τ w (vR τ w).1.1 p.toInt) i = none → L 0 = some (.ref (rA s 0 0)) → L 1 = some (.long p) → L 3 = some (.int (nI i)) → mx_W (gt_P b0 mi E) mX10_octet 80 L [] G Q := by
  obtain ⟨hT, h32, hkn, hks, hin, his⟩ := id hML
  obtain ⟨hM, ⟨c1, c2, c13, c14, c20, c26⟩, hsec, hby, hsy, hre, hro, hba⟩ := id hT
  have hV0 := hV.1
  obtain ⟨hF, f30, hO, hW, ht, hP, hvv, hvp⟩ := his w hm
  obtain ⟨hK, hI⟩ := id hF
  obtain ⟨hN, hKQ, hKV⟩ := id hK
  obtain ⟨_, hL, hD, hA⟩ := id hN
  have hvn := vV_n hV hvv
  have hsl := vV_len hvv
  intro d
  induction d with
  | zero => intro i L hd; exact absurd hd (Nat.not_lt_zero _)
  | succ d ih =>
    intro i L hd hi hno h0 h1 h3
    refine w_iload_n dX10_octet_80 h3 ?_
    refine w_aload_n dX10_octet_81 h0 ?_
    refine r_geti  dX10_octet_82 ft_9_227 R rfl (hS _ _ rfl) rfl (lb rfl) hW.1 ?_
    refine r_icmp_gen (t := 168) dX10_octet_85 rfl (by omega) (by omega) (fun h85 => ?_) (fun h85 => ?_)
    ·
      refine w_iconst (v := (-1)) dX10_octet_168 (by decide) ?_
      refine w_iret dX10_octet_169 rfl rfl ?_
      obtain rfl : i = (vR τ w).1.1.length := by omega
      have ea : a_octet τ l p.toInt = -1 := by unfold a_octet; rw [hm]; simp only []; rw [h1o]; simp only []; rw [hno]
      rw [ea] at q; exact q
    ·
      obtain ⟨v1, v2, v3, v4⟩ := hvv.1 i (by omega)
      have hpl := hvp i (by omega)
      have hvl := vp_le hV (w := w) hvn (by omega) (n := i) v1
      have eget : (vR τ w).1.1[i]? = some ((vR τ w).1.1[i]) := List.getElem?_eq_getElem (by omega)
      have tl := lN_toInt (n := vpN τ w (vR τ w).1.1 ((vR τ w).1.1[i]).1 i) (by omega)
      have tl7 : (lN (vpN τ w (vR τ w).1.1 ((vR τ w).1.1[i]).1 i) + 7).toInt = (vpN τ w (vR τ w).1.1 ((vR τ w).1.1[i]).1 i : Int) + 7 := by
        rw [show (7 : Int64) = lN 7 from rfl, lN_add, lN_toInt (by omega)]; rfl
      refine w_aload_n dX10_octet_88 h0 ?_
      refine w_iload_n dX10_octet_89 h3 ?_
      refine r_inv1  dX10_octet_90 mt_9_292 R rfl (hS _ _ rfl) rfl (lb rfl) (lb rfl) (lb rfl) (lb rfl) rfl (c10_veneerPlace R hS hV hF hvv hW hP (i := i) (by omega) hpl ⟨_, rfl, ?_⟩)
      refine w_lstore dX10_octet_93 (lb rfl) rfl ?_
      refine w_lload_n dX10_octet_95 h1 ?_
      refine w_lload dX10_octet_96 rfl ?_
      refine w_lload dX10_octet_98 rfl ?_
      refine w_ldc2 dX10_octet_100 ct_9_180 ?_
      refine w_ladd dX10_octet_103 ?_
      refine r_stat3 dX10_octet_104 mt_9_155 (lb rfl) (lb rfl) (lb rfl) (lb rfl) rfl (c10_inI rfl tl tl7 (fun i104a i104b => ⟨_, rfl, ?_⟩) (fun i104 => ⟨_, rfl, ?_⟩))
      ·
        refine w_if_eq (t := 162) dX10_octet_107 rfl (fun h => absurd h (by decide)) (fun _ => ?_)
        obtain ⟨n, hn⟩ : ∃ n : Nat, p.toInt - (vpN τ w (vR τ w).1.1 ((vR τ w).1.1[i]).1 i : Int) = n := ⟨(p.toInt - (vpN τ w (vR τ w).1.1 ((vR τ w).1.1[i]).1 i : Int)).toNat, by omega⟩
        have hn7 : n ≤ 7 := by omega
        have e2 : o2B τ w (vR τ w).1.1 p.toInt i = true := by unfold o2B; rw [eget]; exact decide_eq_true ⟨i104a, i104b⟩
        have ef : fst1 (o2B τ w (vR τ w).1.1 p.toInt) (vR τ w).1.1.length = some i := by
          have := fst1_some.mp (fst1_t hno e2)
          exact fst1_some.mpr ⟨by omega, this.2⟩
        have ea : a_octet τ l p.toInt = vby τ w (vR τ w).1.1 i (n : Int) := by
          unfold a_octet; rw [hm]; simp only []; rw [h1o]; simp only []; rw [ef]; simp only []; rw [eget]; simp only []; rw [hn]
        rw [ea] at q
        unfold vby at q
        rw [eget] at q
        simp only [] at q
        refine w_lload_n dX10_octet_110 h1 ?_
        refine w_lload dX10_octet_111 rfl ?_
        refine w_lsub dX10_octet_113 ?_
        refine w_l2i dX10_octet_114 ?_
        rw [l2n (by omega) hn (by omega)]
        refine w_istore dX10_octet_115 (lb rfl) ?_
        refine w_iload dX10_octet_117 rfl ?_
        refine r_if_nei (t := 128) dX10_octet_119 rfl (fun h119 => ?_) (fun h119 => ?_)
        ·
          refine w_iload dX10_octet_128 rfl ?_
          refine w_iconst (v := nI 4) dX10_octet_130 (by decide) ?_
          refine r_icmp_gen (t := 138) dX10_octet_131 rfl (by omega) (by omega) (fun h131 => ?_) (fun h131 => ?_)
          ·
            refine w_aload_n dX10_octet_138 h0 ?_
            refine w_aload_n dX10_octet_139 h0 ?_
            refine r_getr  dX10_octet_140 ft_9_133 R rfl (hS _ _ rfl) rfl (lb rfl) (hM.1 52 (lb rfl) (lb rfl)) ?_
            refine w_iload_n dX10_octet_143 h3 ?_
            refine r_iald  dX10_octet_144 R rfl (hS _ _ rfl) rfl rfl (by omega) (lb rfl) (hW.2.1 i (by omega)).2 ?_
            refine r_inv1  dX10_octet_145 mt_9_259 R rfl (hS _ _ rfl) rfl (lb rfl) (lb rfl) (lb rfl) (lb rfl) rfl (c10_v R hS hV hF hP hvn (k := ((vR τ w).1.1[i]).2) v2 (hO _ v2 (by rw [v3, clN (by omega)]; exact pl_kin hpl)) (fun u hu1 hu2 => ⟨_, rfl, ?_⟩))
            refine w_bipush (v := 8) dX10_octet_148 (by decide) ?_
            refine w_iload dX10_octet_150 rfl ?_
            refine w_iconst (v := nI 4) dX10_octet_152 (by decide) ?_
            refine w_isub dX10_octet_153 ?_
            rw [nI_s4 (by omega) (by omega)]
            refine w_imul dX10_octet_154 ?_
            refine w_lshr dX10_octet_155 ?_
            refine w_l2i dX10_octet_156 ?_
            refine w_sipush (v := 255) dX10_octet_157 (by decide) ?_
            refine w_iand dX10_octet_160 ?_
            refine w_iret dX10_octet_161 rfl rfl ?_
            rw [if_neg (by rw [nI_toInt (by omega)] at h119; omega), if_neg (by omega)] at q
            rw [u_of hu1]; exact q
          ·
            refine w_iconst (v := 0) dX10_octet_134 (by decide) ?_
            refine w_goto (t := 161) dX10_octet_135 rfl ?_
            refine w_iret dX10_octet_161 rfl rfl ?_
            rw [if_neg (by rw [nI_toInt (by omega)] at h119; omega), if_pos (by omega)] at q; exact q
        ·
          refine w_sipush (v := 234) dX10_octet_122 (by decide) ?_
          refine w_goto (t := 161) dX10_octet_125 rfl ?_
          refine w_iret dX10_octet_161 rfl rfl ?_
          rw [if_pos (by rw [nI_toInt (by omega)] at h119; omega)] at q; exact q
      ·
        refine w_if_eq (t := 162) dX10_octet_107 rfl (fun _ => ?_) (fun h => absurd (by decide) h)
        refine w_iinc dX10_octet_162 h3 (nI_1 _) (lb rfl) ?_
        refine w_goto (t := 80) dX10_octet_165 rfl ?_
        have e2 : o2B τ w (vR τ w).1.1 p.toInt i = false := by
          unfold o2B; rw [eget]; exact decide_eq_false (fun e => i104 e.1 e.2)
        exact ih (i + 1) _ (by omega) (by omega) (by rw [fst1_f e2]; exact hno) h0 h1 rfl
theorem c10_octet_x (R : rx_R b0 O z1 z2 s G) (hS : rx_in s) {τ : tx_T} (hV : TV τ) {l : Option Bool} (hML : ML s τ l) {w : Bool} (hm : im τ l = some w) {p : Int64}  (q : Q (.inl (some (.int (a_octet τ l p.toInt)))) G) : ∀ (d : Nat) (x : Nat) (L : mx_L), tN τ 1 - x < d → x ≤ tN τ 1 → fst1 (o1B τ w (vR τ w).1.1 p.toInt) x = none → L 0 = some (.ref (rA s 0 0)) → L 1 = some (.long p) → L 3 = some (.int (nI x)) → mx_W (gt_P b0 mi E) mX10_octet 12 L [] G Q := by
  obtain ⟨hT, h32, hkn, hks, hin, his⟩ := id hML
  obtain ⟨hM, ⟨c1, c2, c13, c14, c20, c26⟩, hsec, hby, hsy, hre, hro, hba⟩ := id hT
  have hV0 := hV.1
  obtain ⟨hF, f30, hO, hW, ht, hP, hvv, hvp⟩ := his w hm
  obtain ⟨hK, hI⟩ := id hF
  obtain ⟨hN, hKQ, hKV⟩ := id hK
  obtain ⟨_, hL, hD, hA⟩ := id hN
  have hvn := vV_n hV hvv
  have hsl := vV_len hvv
  intro d
  induction d with
  | zero => intro x L hd; exact absurd hd (Nat.not_lt_zero _)
  | succ d ih =>
    intro x L hd hx hno h0 h1 h3
    refine w_iload_n dX10_octet_12 h3 ?_
    refine w_aload_n dX10_octet_13 h0 ?_
    refine r_geti  dX10_octet_14 ft_9_165 R rfl (hS _ _ rfl) rfl (lb rfl) c2 ?_
    refine r_icmp_gen (t := 78) dX10_octet_17 rfl (by omega) (by omega) (fun h17 => ?_) (fun h17 => ?_)
    ·
      refine w_iconst (v := 0) dX10_octet_78 (by decide) ?_
      refine w_istore_n dX10_octet_79 (lb rfl) ?_
      obtain rfl : x = tN τ 1 := by omega
      exact c10_octet_v R hS hV hML hm hno q ((vR τ w).1.1.length + 1) 0 _ (by omega) (by omega) rfl h0 h1 rfl
    ·
      refine w_aload_n dX10_octet_20 h0 ?_
      refine w_iload_n dX10_octet_21 h3 ?_
      refine r_inv1  dX10_octet_22 mt_9_235 R rfl (hS _ _ rfl) rfl (lb rfl) (lb rfl) (lb rfl) (lb rfl) rfl (c10_isPlaced R hS hV hF (x := x) (by omega) (fun hpl => ⟨_, rfl, ?_⟩) (fun hpl => ⟨_, rfl, ?_⟩))
      ·
        refine w_if_eq (t := 72) dX10_octet_25 rfl (fun h => absurd h (by decide)) (fun _ => ?_)
        have hz := (hV.2.1 x (by omega)).2.2.1
        obtain ⟨z, hz1, hz2⟩ := nI_ofI hz.1
        have hz9 : z ≤ 20000 := by have := hz.2; rw [hz2, nI_toInt hz1] at this; omega
        have cz : cl (tT τ 5 x) = z := by rw [hz2, clN hz1]
        have hpo := plN_le hV (w := w) hvn (x := x) (by omega)
        have tl := lN_toInt (n := plN τ w (vR τ w).1.1 x) (by omega)
        have tl7 : (lN (plN τ w (vR τ w).1.1 x) + (nI z).toInt64 - 1).toInt = (plN τ w (vR τ w).1.1 x : Int) + z - 1 := by
          rw [nI_l hz1, lN_add, subG (by rw [lN_toInt (by omega)]; omega) (by rw [lN_toInt (by omega)]; omega) (by decide) (by decide), lN_toInt (by omega)]
          show ((plN τ w (vR τ w).1.1 x + z : Nat) : Int) - 1 = _
          omega
        refine w_lload_n dX10_octet_28 h1 ?_
        refine w_aload_n dX10_octet_29 h0 ?_
        refine r_getr  dX10_octet_30 ft_9_121 R rfl (hS _ _ rfl) rfl (lb rfl) (hM.1 46 (lb rfl) (lb rfl)) ?_
        refine w_iload_n dX10_octet_33 h3 ?_
        refine r_lald  dX10_octet_34 R rfl (hS _ _ rfl) rfl rfl (by omega) (lb rfl) (hP.1 x (by omega) hpl) ?_
        refine w_aload_n dX10_octet_35 h0 ?_
        refine r_getr  dX10_octet_36 ft_9_121 R rfl (hS _ _ rfl) rfl (lb rfl) (hM.1 46 (lb rfl) (lb rfl)) ?_
        refine w_iload_n dX10_octet_39 h3 ?_
        refine r_lald  dX10_octet_40 R rfl (hS _ _ rfl) rfl rfl (by omega) (lb rfl) (hP.1 x (by omega) hpl) ?_
        refine w_aload_n dX10_octet_41 h0 ?_
        refine r_getr  dX10_octet_42 ft_9_20 R rfl (hS _ _ rfl) rfl (lb rfl) (hM.1 5 (lb rfl) (lb rfl)) ?_
        refine w_iload_n dX10_octet_45 h3 ?_
        refine r_iald  dX10_octet_46 R rfl (hS _ _ rfl) rfl rfl (by omega) (lb rfl) ((hsec x (by omega)).2.2.1.trans hz2) ?_
        refine w_i2l dX10_octet_47 ?_
        refine w_ladd dX10_octet_48 ?_
        refine w_lconst (v := 1) dX10_octet_49 (by decide) ?_
        refine w_lsub dX10_octet_50 ?_
        refine r_stat3 dX10_octet_51 mt_9_155 (lb rfl) (lb rfl) (lb rfl) (lb rfl) rfl (c10_inI rfl tl tl7 (fun i51a i51b => ⟨_, rfl, ?_⟩) (fun i51 => ⟨_, rfl, ?_⟩))
        ·
          refine w_if_eq (t := 72) dX10_octet_54 rfl (fun h => absurd h (by decide)) (fun _ => ?_)
          obtain ⟨n, hn⟩ : ∃ n : Nat, p.toInt - (plN τ w (vR τ w).1.1 x : Int) = n := ⟨(p.toInt - (plN τ w (vR τ w).1.1 x : Int)).toNat, by omega⟩
          have hnz : n < z := by omega
          have e2 : o1B τ w (vR τ w).1.1 p.toInt x = true := by unfold o1B; rw [hpl, decide_eq_true (show (plN τ w (vR τ w).1.1 x : Int) ≤ p.toInt ∧ p.toInt < (plN τ w (vR τ w).1.1 x : Int) + cl (tT τ 5 x) by rw [cz]; omega)]; rfl
          have ef : fst1 (o1B τ w (vR τ w).1.1 p.toInt) (tN τ 1) = some x := by
            have := fst1_some.mp (fst1_t hno e2)
            exact fst1_some.mpr ⟨by omega, this.2⟩
          have ea : a_octet τ l p.toInt = byS τ w (vR τ w).1 x n := by
            unfold a_octet; rw [hm]; simp only []; rw [ef]; simp only []; rw [hn]; rfl
          rw [ea] at q
          refine w_aload_n dX10_octet_57 h0 ?_
          refine w_iload_n dX10_octet_58 h3 ?_
          refine w_lload_n dX10_octet_59 h1 ?_
          refine w_aload_n dX10_octet_60 h0 ?_
          refine r_getr  dX10_octet_61 ft_9_121 R rfl (hS _ _ rfl) rfl (lb rfl) (hM.1 46 (lb rfl) (lb rfl)) ?_
          refine w_iload_n dX10_octet_64 h3 ?_
          refine r_lald  dX10_octet_65 R rfl (hS _ _ rfl) rfl rfl (by omega) (lb rfl) (hP.1 x (by omega) hpl) ?_
          refine w_lsub dX10_octet_66 ?_
          refine w_l2i dX10_octet_67 ?_
          rw [l2n (by omega) hn (by omega)]
          refine r_inv2  dX10_octet_68 mt_9_310 R rfl (hS _ _ rfl) rfl (lb rfl) (lb rfl) (lb rfl) (lb rfl) rfl (c10_byteOf R hS hV hF hO hvv hvp (vQ_R τ w) hW hP (x := x) (i := n) (by omega) hpl (by rw [cz]; exact hnz) ⟨_, rfl, ?_⟩)
          exact w_iret dX10_octet_71 rfl rfl q
        ·
          refine w_if_eq (t := 72) dX10_octet_54 rfl (fun _ => ?_) (fun h => absurd (by decide) h)
          refine w_iinc dX10_octet_72 h3 (nI_1 _) (lb rfl) ?_
          refine w_goto (t := 12) dX10_octet_75 rfl ?_
          have e2 : o1B τ w (vR τ w).1.1 p.toInt x = false := by unfold o1B; rw [decide_eq_false (fun e => i51 e.1 (by rw [cz] at e; omega))]; simp
          exact ih (x + 1) _ (by omega) (by omega) (by rw [fst1_f e2]; exact hno) h0 h1 rfl
      ·
        refine w_if_eq (t := 72) dX10_octet_25 rfl (fun _ => ?_) (fun h => absurd (by decide) h)
        refine w_iinc dX10_octet_72 h3 (nI_1 _) (lb rfl) ?_
        refine w_goto (t := 12) dX10_octet_75 rfl ?_
        have e2 : o1B τ w (vR τ w).1.1 p.toInt x = false := by unfold o1B; rw [hpl]; rfl
        exact ih (x + 1) _ (by omega) (by omega) (by rw [fst1_f e2]; exact hno) h0 h1 rfl
theorem c10_octet_0 (R : rx_R b0 O z1 z2 s G) (hS : rx_in s) {τ : tx_T} (hV : TV τ) {l : Option Bool} (hML : ML s τ l) (hm : im τ l = none) {p : Int64} (q : Q (.inl (some (.int (a_octet τ l p.toInt)))) G) : mx_W (gt_P b0 mi E) mX10_octet 0 (mx_en 0 [.ref (rA s 0 0), .long p]) [] G Q := by
  obtain ⟨hT, h32, hkn, hks, hin, his⟩ := id hML
  obtain ⟨hM, ⟨c1, c2, c13, c14, c20, c26⟩, hsec, hby, hsy, hre, hro, hba⟩ := id hT
  have hV0 := hV.1
  refine w_aload_n dX10_octet_0 rfl ?_
  refine r_geti  dX10_octet_1 ft_9_143 R rfl (hS _ _ rfl) rfl (lb rfl) (hin hm) ?_
  refine r_if_neP (t := 10) dX10_octet_4 rfl (fun h => absurd rfl h) (fun h4 => ?_)
  refine w_bipush (v := (-103)) dX10_octet_7 (by decide) ?_
  refine w_iret dX10_octet_9 rfl rfl ?_
  have e : a_octet τ l p.toInt = -103 := by unfold a_octet; rw [hm]
  rw [e] at q; exact q
theorem c10_octet (R : rx_R b0 O z1 z2 s G) (hS : rx_in s) {τ : tx_T} (hV : TV τ) {l : Option Bool} (hML : ML s τ l) {p : Int64} (q : Q (.inl (some (.int (a_octet τ l p.toInt)))) G) : mx_W (gt_P b0 mi E) mX10_octet 0 (mx_en 0 [.ref (rA s 0 0), .long p]) [] G Q := by
  cases hm : im τ l with
  | none => exact c10_octet_0 R hS hV hML hm q
  | some w =>
    obtain ⟨hT, h32, hkn, hks, hin, his⟩ := id hML
    obtain ⟨hM, ⟨c1, c2, c13, c14, c20, c26⟩, hsec, hby, hsy, hre, hro, hba⟩ := id hT
    have hV0 := hV.1
    refine w_aload_n dX10_octet_0 rfl ?_
    refine r_geti  dX10_octet_1 ft_9_143 R rfl (hS _ _ rfl) rfl (lb rfl) (his w hm).2.1 ?_
    refine r_if_neP (t := 10) dX10_octet_4 rfl (fun h4 => ?_) (fun h => absurd h (by decide))
    refine w_iconst (v := 0) dX10_octet_10 (by decide) ?_
    refine w_istore_n dX10_octet_11 (lb rfl) ?_
    exact c10_octet_x R hS hV hML hm q (tN τ 1 + 1) 0 _ (by omega) (by omega) rfl rfl rfl rfl
end
