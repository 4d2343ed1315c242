theorem vp_le {τ : tx_T} (hV : TV τ) {w : Bool} {V : List (Nat × Nat)} (hv : ∀ x, nvN V x ≤ 200) (hl : V.length ≤ 200) {x n : Nat} (hx : x < tN τ 1) : vpN τ w V x n ≤ 2006022200 := by
  have h1 := plN_le hV (w := w) hv hx
  have hz := (hV.2.1 x hx).2.2.1
  have hz2 := clI hz.1
  have h2 := upN_le (plN τ w V x + cl (tT τ 5 x)) (a := 2) (by omega)
  have h3 : (V.take n).countP (fun e => Nat.beq e.1 x) ≤ 200 := Nat.le_trans List.countP_le_length (by rw [List.length_take]; omega)
  unfold vpN
  omega
theorem an_t {f : Nat → Bool} {n k : Nat} (h : k < n) (h2 : f k = true) : an f n = true := an_iff.mpr ⟨k, h, h2⟩
section
variable {b0 mi z1 z2 : Nat} {E : Nat → Nat} {O : Nat → Option mx_C} {s : rx_S} {G : mx_H} {Q : mx_O → mx_H → Prop}
theorem c10_bad (R : rx_R b0 O z1 z2 s G) (hS : rx_in s) {Z : rx_S → Prop} (hZ : Z s) (hZc : ∀ (s : rx_S) (k : Nat) (v : Int32), (k = 31 ∨ k = 32) → Z s → Z (sX s 0 0 k (.inl (.int v)))) {p : Int32 × Int32} (h31 : rX s 0 0 31 = .inl (.int p.1)) (h32 : rX s 0 0 32 = .inl (.int p.2)) {c n : Int32} (q : ∀ (s' : rx_S) (G' : mx_H), rx_R b0 O z1 z2 s' G' → mfr s s' → Z s' → rX s' 0 0 31 = .inl (.int (bd p c n).1) → rX s' 0 0 32 = .inl (.int (bd p c n).2) → Q (.inl none) G') : mx_W (gt_P b0 mi E) mX10_bad 0 (mx_en 0 [.ref (rA s 0 0), .int c, .int n]) [] G Q := by
  refine w_aload_n dX10_bad_0 rfl ?_
  refine r_geti  dX10_bad_1 ft_9_146 R rfl (hS _ _ rfl) rfl (lb rfl) h31 ?_
  refine r_if_neP (t := 17) dX10_bad_4 rfl (fun h4 => ?_) (fun h4 => ?_)
  ·
    exact w_ret dX10_bad_17 rfl (q _ _ R (mfr.rf s) hZ (by unfold bd; rw [if_neg h4]; exact h31) (by unfold bd; rw [if_neg h4]; exact h32))
  ·
    refine w_aload_n dX10_bad_7 rfl ?_
    refine w_iload_n dX10_bad_8 rfl ?_
    refine r_puti  dX10_bad_9 ft_9_146 R rfl (hS _ _ rfl) rfl (lb rfl) (fun h => by cases h) rfl rfl (fun G1 R1 => ?_)
    refine w_aload_n dX10_bad_12 rfl ?_
    refine w_iload_n dX10_bad_13 rfl ?_
    refine r_puti  dX10_bad_14 ft_9_82 R1 rfl (hS _ _ rfl) rfl (lb rfl) (fun h => by cases h) rfl rfl (fun G2 R2 => ?_)
    exact w_ret dX10_bad_17 rfl (q _ _ R2 (mfr.rf s).X.X (hZc _ 32 n (Or.inr rfl) (hZc _ 31 c (Or.inl rfl) hZ)) (by unfold bd; rw [if_pos h4]; exact (sX_p (by decide)).trans sX_s) (by unfold bd; rw [if_pos h4]; exact sX_s))
theorem c10_hasPlaced_l (R : rx_R b0 O z1 z2 s G) (hS : rx_in s) {τ : tx_T} (hV : TV τ) {w : Bool} (hF : NF s τ w) {k : Nat} (hk : k < 4)  : ∀ (d : Nat) (x : Nat) (L : mx_L), tN τ 1 - x < d → x ≤ tN τ 1 → an (fun x => (tT τ 4 x == nI k) && plB τ w x) x = false → L 0 = some (.ref (rA s 0 0)) → L 1 = some (.int (nI k)) → L 2 = some (.int (nI x)) → (hpB τ w k = true → Q (.inl (some (.int 1))) G) → (hpB τ w k = false → Q (.inl (some (.int 0))) G) → mx_W (gt_P b0 mi E) mX10_hasPlaced 2 L [] G Q := by
  obtain ⟨hK, hI⟩ := id hF
  obtain ⟨hN, hKQ, hKV⟩ := id hK
  obtain ⟨hT, hL, hD, hA⟩ := id hN
  obtain ⟨hM, ⟨c1, c2, c13, c14, c20, c26⟩, hsec, hby, hsy, hre, hro, hba⟩ := id hT
  have hV0 := hV.1
  intro d
  induction d with
  | zero => intro x L hd; exact absurd hd (Nat.not_lt_zero _)
  | succ d ih =>
    intro x L hd hx hn h0 h1 h2 qt qf
    refine w_iload_n dX10_hasPlaced_2 h2 ?_
    refine w_aload_n dX10_hasPlaced_3 h0 ?_
    refine r_geti  dX10_hasPlaced_4 ft_9_165 R rfl (hS _ _ rfl) rfl (lb rfl) c2 ?_
    refine r_icmp_gen (t := 36) dX10_hasPlaced_7 rfl (by omega) (by omega) (fun h7 => ?_) (fun h7 => ?_)
    ·
      refine w_iconst (v := 0) dX10_hasPlaced_36 (by decide) ?_
      refine w_iret dX10_hasPlaced_37 rfl rfl ?_
      obtain rfl : x = tN τ 1 := by omega
      exact qf hn
    ·
      refine w_aload_n dX10_hasPlaced_10 h0 ?_
      refine r_getr  dX10_hasPlaced_11 ft_9_17 R rfl (hS _ _ rfl) rfl (lb rfl) (hM.1 4 (lb rfl) (lb rfl)) ?_
      refine w_iload_n dX10_hasPlaced_14 h2 ?_
      refine r_iald  dX10_hasPlaced_15 R rfl (hS _ _ rfl) rfl rfl (by omega) (lb rfl) (hsec x (by omega)).2.1 ?_
      refine w_iload_n dX10_hasPlaced_16 h1 ?_
      refine r_icmp_neP (t := 30) dX10_hasPlaced_17 rfl (fun h17 => ?_) (fun h17 => ?_)
      ·
        refine w_iinc dX10_hasPlaced_30 h2 (nI_1 _) (lb rfl) ?_
        refine w_goto (t := 2) dX10_hasPlaced_33 rfl ?_
        exact ih (x + 1) _ (by omega) (by omega) (by rw [an, hn]; simp [h17]) h0 h1 rfl qt qf
      ·
        refine w_aload_n dX10_hasPlaced_20 h0 ?_
        refine w_iload_n dX10_hasPlaced_21 h2 ?_
        refine r_inv1  dX10_hasPlaced_22 mt_9_235 R rfl (hS _ _ rfl) rfl (lb rfl) (lb rfl) (lb rfl) (lb rfl) rfl (c10_isPlaced R hS hV hF (x := x) (by omega) (fun hpl => ⟨_, rfl, ?_⟩) (fun hpl => ⟨_, rfl, ?_⟩))
        ·
          refine w_if_eq (t := 30) dX10_hasPlaced_25 rfl (fun h => absurd h (by decide)) (fun _ => ?_)
          refine w_iconst (v := 1) dX10_hasPlaced_28 (by decide) ?_
          exact w_iret dX10_hasPlaced_29 rfl rfl (qt (an_t (k := x) (by omega) (by rw [h17, hpl]; simp)))
        ·
          refine w_if_eq (t := 30) dX10_hasPlaced_25 rfl (fun _ => ?_) (fun h => absurd (by decide) h)
          refine w_iinc dX10_hasPlaced_30 h2 (nI_1 _) (lb rfl) ?_
          refine w_goto (t := 2) dX10_hasPlaced_33 rfl ?_
          exact ih (x + 1) _ (by omega) (by omega) (by rw [an, hn]; simp [hpl]) h0 h1 rfl qt qf
theorem c10_hasPlaced (R : rx_R b0 O z1 z2 s G) (hS : rx_in s) {τ : tx_T} (hV : TV τ) {w : Bool} (hF : NF s τ w) {k : Nat} (hk : k < 4) (qt : hpB τ w k = true → Q (.inl (some (.int 1))) G) (qf : hpB τ w k = false → Q (.inl (some (.int 0))) G) : mx_W (gt_P b0 mi E) mX10_hasPlaced 0 (mx_en 0 [.ref (rA s 0 0), .int (nI k)]) [] G Q := by
  refine w_iconst (v := 0) dX10_hasPlaced_0 (by decide) ?_
  refine w_istore_n dX10_hasPlaced_1 (lb rfl) ?_
  exact c10_hasPlaced_l R hS hV hF hk (tN τ 1 + 1) 0 _ (by omega) (by omega) rfl rfl rfl rfl qt qf
theorem subG {u v : Int64} (h1 : -8589934592 ≤ u.toInt) (h2 : u.toInt ≤ 8589934592) (h3 : -8589934592 ≤ v.toInt) (h4 : v.toInt ≤ 8589934592) : (u - v).toInt = u.toInt - v.toInt := by
  rw [Int64.toInt_sub, Int.bmod_def]; omega
theorem c10_written (R : rx_R b0 O z1 z2 s G) (hS : rx_in s) {τ : tx_T} (hV : TV τ) {w : Bool} (hF : NF s τ w) (hO : AO τ) {S : vS} (hvv : vV τ S) (hvp : vPl τ w S) (hvq : vQ τ S) (hW : VS s S) (hP : PL s τ w S.1) {k : Nat} (hk : k < tN τ 3) (hpl : plB τ w (cl (tT τ 21 k)) = true) (q : ∀ u : Int64, u.toInt = wrI τ w S k → Q (.inl (some (.long u))) G) : mx_W (gt_P b0 mi E) mX10_written 0 (mx_en 0 [.ref (rA s 0 0), .int (nI k)]) [] G Q := by
  obtain ⟨hK, hI⟩ := id hF
  obtain ⟨hN, hKQ, hKV⟩ := id hK
  obtain ⟨hT, hL, hD, hA⟩ := id hN
  obtain ⟨hM, ⟨c1, c2, c13, c14, c20, c26⟩, hsec, hby, hsy, hre, hro, hba⟩ := id hT
  have hV0 := hV.1
  have hr := (hV.2.2.2.1 k hk).1
  obtain ⟨x, hr1, hr2⟩ := nI_ofI hr.1
  have hx : x < tN τ 1 := by have := hr.2; rw [hr2, nI_toInt hr1] at this; omega
  have cx : cl (tT τ 21 k) = x := by rw [hr2, clN hr1]
  rw [cx] at hpl
  have hvn := vV_n hV hvv
  have hsl := vV_len hvv
  have hpo := plN_le hV (w := w) hvn hx
  have hof := (hV.2.2.2.1 k hk).2.1
  have hpx : (lN (plN τ w S.1 x) + (tT τ 22 k).toInt64).toInt = (plN τ w S.1 x : Int) + (tT τ 22 k).toInt := addL (by omega) _
  refine w_aload_n dX10_written_0 rfl ?_
  refine r_getr  dX10_written_1 ft_9_121 R rfl (hS _ _ rfl) rfl (lb rfl) (hM.1 46 (lb rfl) (lb rfl)) ?_
  refine w_aload_n dX10_written_4 rfl ?_
  refine r_getr  dX10_written_5 ft_9_58 R rfl (hS _ _ rfl) rfl (lb rfl) (hM.1 21 (lb rfl) (lb rfl)) ?_
  refine w_iload_n dX10_written_8 rfl ?_
  refine r_iald  dX10_written_9 R rfl (hS _ _ rfl) rfl rfl (by omega) (lb rfl) ((hre k hk).1.trans hr2) ?_
  refine r_lald  dX10_written_10 R rfl (hS _ _ rfl) rfl rfl (by omega) (lb rfl) (hP.1 x hx hpl) ?_
  refine w_aload_n dX10_written_11 rfl ?_
  refine r_getr  dX10_written_12 ft_9_61 R rfl (hS _ _ rfl) rfl (lb rfl) (hM.1 22 (lb rfl) (lb rfl)) ?_
  refine w_iload_n dX10_written_15 rfl ?_
  refine r_iald  dX10_written_16 R rfl (hS _ _ rfl) rfl rfl (by omega) (lb rfl) (hre k hk).2.1 ?_
  refine w_i2l dX10_written_17 ?_
  refine w_ladd dX10_written_18 ?_
  refine w_lstore_n dX10_written_19 (lb rfl) rfl ?_
  refine w_aload_n dX10_written_20 rfl ?_
  refine r_getr  dX10_written_21 ft_9_136 R rfl (hS _ _ rfl) rfl (lb rfl) (hM.1 53 (lb rfl) (lb rfl)) ?_
  refine w_iload_n dX10_written_24 rfl ?_
  refine r_iald  dX10_written_25 R rfl (hS _ _ rfl) rfl rfl (by omega) (lb rfl) (hW.2.2 k (by omega)) ?_
  refine w_iconst (v := (-1)) dX10_written_26 (by decide) ?_
  refine r_icmp_neP (t := 38) dX10_written_27 rfl (fun h27 => ?_) (fun h27 => ?_)
  ·
    obtain ⟨i, hi⟩ : ∃ i, S.2 k = some i := by
      cases e : S.2 k with
      | none => exact absurd (by rw [e]; rfl) h27
      | some j => exact ⟨j, rfl⟩
    obtain ⟨hil, hi2, hi3, hi4⟩ := hvq k i hi
    have hi5 : (S.1[i]).1 = x := (nI_eq (by have := (hvv.1 i hil).1; omega) (by omega)).mp (hi2.trans hr2)
    have hvl := vp_le hV (w := w) hvn (by omega) (n := i) hx
    refine w_aload_n dX10_written_38 rfl ?_
    refine w_aload_n dX10_written_39 rfl ?_
    refine r_getr  dX10_written_40 ft_9_136 R rfl (hS _ _ rfl) rfl (lb rfl) (hM.1 53 (lb rfl) (lb rfl)) ?_
    refine w_iload_n dX10_written_43 rfl ?_
    refine r_iald  dX10_written_44 R rfl (hS _ _ rfl) rfl rfl (by omega) (lb rfl) ((hW.2.2 k (by omega)).trans (show oI (S.2 k) = nI i by rw [hi]; rfl)) ?_
    refine r_inv1  dX10_written_45 mt_9_292 R rfl (hS _ _ rfl) rfl (lb rfl) (lb rfl) (lb rfl) (lb rfl) rfl (c10_veneerPlace R hS hV hF hvv hW hP hil (hvp i hil) ⟨_, rfl, ?_⟩)
    rw [hi5]
    refine w_lstore dX10_written_48 (lb rfl) rfl ?_
    refine w_aload_n dX10_written_50 rfl ?_
    refine r_getr  dX10_written_51 ft_9_64 R rfl (hS _ _ rfl) rfl (lb rfl) (hM.1 23 (lb rfl) (lb rfl)) ?_
    refine w_iload_n dX10_written_54 rfl ?_
    refine r_iald  dX10_written_55 R rfl (hS _ _ rfl) rfl rfl (by omega) (lb rfl) (hre k hk).2.2.1 ?_
    refine w_iconst (v := 2) dX10_written_56 (by decide) ?_
    refine w_icmp_eq (t := 70) dX10_written_57 rfl (fun h57 => ?_) (fun h57 => ?_)
    ·
      refine w_lload dX10_written_70 rfl ?_
      refine w_lload_n dX10_written_72 rfl ?_
      refine w_lsub dX10_written_73 ?_
      refine w_goto (t := 79) dX10_written_74 rfl ?_
      refine w_lret dX10_written_79 rfl ?_
      have eto : toI τ w S k = vpN τ w S.1 x i := by unfold toI; rw [hi, cx]
      have hu1 : (lN (vpN τ w S.1 x i)).toInt = vpN τ w S.1 x i := lN_toInt (by omega)
      refine q _ ?_
      unfold wrI; rw [if_pos (Or.inl h57), cx, eto, subG (by rw [hu1]; omega) (by rw [hu1]; omega) (by rw [hpx]; omega) (by rw [hpx]; omega), hu1, hpx]
    ·
      refine w_aload_n dX10_written_60 rfl ?_
      refine r_getr  dX10_written_61 ft_9_64 R rfl (hS _ _ rfl) rfl (lb rfl) (hM.1 23 (lb rfl) (lb rfl)) ?_
      refine w_iload_n dX10_written_64 rfl ?_
      refine r_iald  dX10_written_65 R rfl (hS _ _ rfl) rfl rfl (by omega) (lb rfl) (hre k hk).2.2.1 ?_
      refine w_iconst (v := 3) dX10_written_66 (by decide) ?_
      refine r_icmp_neP (t := 77) dX10_written_67 rfl (fun h67 => ?_) (fun h67 => ?_)
      ·
        refine w_lload dX10_written_77 rfl ?_
        refine w_lret dX10_written_79 rfl ?_
        have eto : toI τ w S k = vpN τ w S.1 x i := by unfold toI; rw [hi, cx]
        have hu1 : (lN (vpN τ w S.1 x i)).toInt = vpN τ w S.1 x i := lN_toInt (by omega)
        refine q _ ?_
        unfold wrI; rw [if_neg (fun e => e.elim h57 h67), eto, hu1]
      ·
        refine w_lload dX10_written_70 rfl ?_
        refine w_lload_n dX10_written_72 rfl ?_
        refine w_lsub dX10_written_73 ?_
        refine w_goto (t := 79) dX10_written_74 rfl ?_
        refine w_lret dX10_written_79 rfl ?_
        have eto : toI τ w S k = vpN τ w S.1 x i := by unfold toI; rw [hi, cx]
        have hu1 : (lN (vpN τ w S.1 x i)).toInt = vpN τ w S.1 x i := lN_toInt (by omega)
        refine q _ ?_
        unfold wrI; rw [if_pos (Or.inr h67), cx, eto, subG (by rw [hu1]; omega) (by rw [hu1]; omega) (by rw [hpx]; omega) (by rw [hpx]; omega), hu1, hpx]
  ·
    have hn : S.2 k = none := (oI_none (fun j hj => by have := (hvv.2.1 k j hj).1; omega)).mp h27
    have hvl := vvI_le hV (w := w) hvn hk
    refine w_aload_n dX10_written_30 rfl ?_
    refine w_iload_n dX10_written_31 rfl ?_
    refine r_inv1  dX10_written_32 mt_9_259 R rfl (hS _ _ rfl) rfl (lb rfl) (lb rfl) (lb rfl) (lb rfl) rfl (c10_v R hS hV hF hP hvn hk (hO k hk (by rw [cx]; exact pl_kin hpl)) (fun u hu1 hu2 => ⟨_, rfl, ?_⟩))
    refine w_goto (t := 48) dX10_written_35 rfl ?_
    refine w_lstore dX10_written_48 (lb rfl) rfl ?_
    refine w_aload_n dX10_written_50 rfl ?_
    refine r_getr  dX10_written_51 ft_9_64 R rfl (hS _ _ rfl) rfl (lb rfl) (hM.1 23 (lb rfl) (lb rfl)) ?_
    refine w_iload_n dX10_written_54 rfl ?_
    refine r_iald  dX10_written_55 R rfl (hS _ _ rfl) rfl rfl (by omega) (lb rfl) (hre k hk).2.2.1 ?_
    refine w_iconst (v := 2) dX10_written_56 (by decide) ?_
    refine w_icmp_eq (t := 70) dX10_written_57 rfl (fun h57 => ?_) (fun h57 => ?_)
    ·
      refine w_lload dX10_written_70 rfl ?_
      refine w_lload_n dX10_written_72 rfl ?_
      refine w_lsub dX10_written_73 ?_
      refine w_goto (t := 79) dX10_written_74 rfl ?_
      refine w_lret dX10_written_79 rfl ?_
      have eto : toI τ w S k = vvI τ w S.1 k := by unfold toI; rw [hn]
      refine q _ ?_
      unfold wrI; rw [if_pos (Or.inl h57), cx, eto, subG (by rw [hu1]; omega) (by rw [hu1]; omega) (by rw [hpx]; omega) (by rw [hpx]; omega), hu1, hpx]
    ·
      refine w_aload_n dX10_written_60 rfl ?_
      refine r_getr  dX10_written_61 ft_9_64 R rfl (hS _ _ rfl) rfl (lb rfl) (hM.1 23 (lb rfl) (lb rfl)) ?_
      refine w_iload_n dX10_written_64 rfl ?_
      refine r_iald  dX10_written_65 R rfl (hS _ _ rfl) rfl rfl (by omega) (lb rfl) (hre k hk).2.2.1 ?_
      refine w_iconst (v := 3) dX10_written_66 (by decide) ?_
      refine r_icmp_neP (t := 77) dX10_written_67 rfl (fun h67 => ?_) (fun h67 => ?_)
      ·
        refine w_lload dX10_written_77 rfl ?_
        refine w_lret dX10_written_79 rfl ?_
        have eto : toI τ w S k = vvI τ w S.1 k := by unfold toI; rw [hn]
        refine q _ ?_
        unfold wrI; rw [if_neg (fun e => e.elim h57 h67), eto, hu1]
      ·
        refine w_lload dX10_written_70 rfl ?_
        refine w_lload_n dX10_written_72 rfl ?_
        refine w_lsub dX10_written_73 ?_
        refine w_goto (t := 79) dX10_written_74 rfl ?_
        refine w_lret dX10_written_79 rfl ?_
        have eto : toI τ w S k = vvI τ w S.1 k := by unfold toI; rw [hn]
        refine q _ ?_
        unfold wrI; rw [if_pos (Or.inr h67), cx, eto, subG (by rw [hu1]; omega) (by rw [hu1]; omega) (by rw [hpx]; omega) (by rw [hpx]; omega), hu1, hpx]
theorem c10_fits (R : rx_R b0 O z1 z2 s G) (hS : rx_in s) {τ : tx_T} (hV : TV τ) {w : Bool} (hF : NF s τ w) (hO : AO τ) {S : vS} (hvv : vV τ S) (hvp : vPl τ w S) (hvq : vQ τ S) (hW : VS s S) (hP : PL s τ w S.1) {k : Nat} (hk : k < tN τ 3) (hpl : plB τ w (cl (tT τ 21 k)) = true) (qt : fitB τ w S k = true → Q (.inl (some (.int 1))) G) (qf : fitB τ w S k = false → Q (.inl (some (.int 0))) G) : mx_W (gt_P b0 mi E) mX10_fits 0 (mx_en 0 [.ref (rA s 0 0), .int (nI k)]) [] G Q := by
  obtain ⟨hK, hI⟩ := id hF
  obtain ⟨hN, hKQ, hKV⟩ := id hK
  obtain ⟨hT, hL, hD, hA⟩ := id hN
  obtain ⟨hM, ⟨c1, c2, c13, c14, c20, c26⟩, hsec, hby, hsy, hre, hro, hba⟩ := id hT
  have hV0 := hV.1
  refine w_aload_n dX10_fits_0 rfl ?_
  refine w_iload_n dX10_fits_1 rfl ?_
  refine r_inv1  dX10_fits_2 mt_9_295 R rfl (hS _ _ rfl) rfl (lb rfl) (lb rfl) (lb rfl) (lb rfl) rfl (c10_written R hS hV hF hO hvv hvp hvq hW hP hk hpl (fun u hu => ⟨_, rfl, ?_⟩))
  refine w_lstore_n dX10_fits_5 (lb rfl) rfl ?_
  refine w_aload_n dX10_fits_6 rfl ?_
  refine r_getr  dX10_fits_7 ft_9_64 R rfl (hS _ _ rfl) rfl (lb rfl) (hM.1 23 (lb rfl) (lb rfl)) ?_
  refine w_iload_n dX10_fits_10 rfl ?_
  refine r_iald  dX10_fits_11 R rfl (hS _ _ rfl) rfl rfl (by omega) (lb rfl) (hre k hk).2.2.1 ?_
  by_cases hsw : (tT τ 23 k).toInt < 0 ∨ 3 < (tT τ 23 k).toInt
  ·
    refine w_tblOut (t := 79) dX10_fits_12 hsw rfl ?_
    refine w_lload_n dX10_fits_79 rfl ?_
    refine w_ldc2 dX10_fits_80 ct_9_306 ?_
    refine w_ldc2 dX10_fits_83 ct_9_308 ?_
    refine r_stat3 dX10_fits_86 mt_9_155 (lb rfl) (lb rfl) (lb rfl) (lb rfl) rfl (c10_inI rfl (b := -128) (by decide) (c := 255) (by decide) (fun i86a i86b => ⟨_, rfl, ?_⟩) (fun i86 => ⟨_, rfl, ?_⟩))
    ·
      exact w_iret dX10_fits_89 rfl rfl (qt (fitB_t.mpr (by rw [fitP, if_neg (fun e => by rw [e] at hsw; exact absurd hsw (by decide)), if_neg (fun e => by rw [e] at hsw; exact absurd hsw (by decide)), if_neg (fun e => by rw [e] at hsw; exact absurd hsw (by decide)), if_neg (fun e => by rw [e] at hsw; exact absurd hsw (by decide)), ← hu]; exact ⟨i86a, i86b⟩)))
    ·
      refine w_iret dX10_fits_89 rfl rfl ?_
      refine qf ?_
      cases e : fitB τ w S k
      · rfl
      · have e2 := fitB_t.mp e
        rw [fitP, if_neg (fun e => by rw [e] at hsw; exact absurd hsw (by decide)), if_neg (fun e => by rw [e] at hsw; exact absurd hsw (by decide)), if_neg (fun e => by rw [e] at hsw; exact absurd hsw (by decide)), if_neg (fun e => by rw [e] at hsw; exact absurd hsw (by decide)), ← hu] at e2; exact absurd e2.2 (fun h => i86 e2.1 h)
  by_cases hs0 : (tT τ 23 k) = 0
  ·
    refine w_tblIn (off := 32) (t := 44) dX10_fits_12 hsw (by rw [hs0]; rfl) rfl ?_
    refine w_lload_n dX10_fits_44 rfl ?_
    refine w_lconst (v := 0) dX10_fits_45 (by decide) ?_
    refine w_ldc2 dX10_fits_46 ct_9_298 ?_
    refine r_stat3 dX10_fits_49 mt_9_155 (lb rfl) (lb rfl) (lb rfl) (lb rfl) rfl (c10_inI rfl (b := 0) (by decide) (c := 4294967295) (by decide) (fun i49a i49b => ⟨_, rfl, ?_⟩) (fun i49 => ⟨_, rfl, ?_⟩))
    ·
      exact w_iret dX10_fits_52 rfl rfl (qt (fitB_t.mpr (by rw [fitP, if_pos hs0, ← hu]; exact ⟨i49a, i49b⟩)))
    ·
      refine w_iret dX10_fits_52 rfl rfl ?_
      refine qf ?_
      cases e : fitB τ w S k
      · rfl
      · have e2 := fitB_t.mp e
        rw [fitP, if_pos hs0, ← hu] at e2; exact absurd e2.2 (fun h => i49 e2.1 h)
  by_cases hs1 : (tT τ 23 k) = 1
  ·
    refine w_tblIn (off := 41) (t := 53) dX10_fits_12 hsw (by rw [hs1]; rfl) rfl ?_
    refine w_lload_n dX10_fits_53 rfl ?_
    refine w_lconst (v := 0) dX10_fits_54 (by decide) ?_
    refine w_ldc2 dX10_fits_55 ct_9_300 ?_
    refine r_stat3 dX10_fits_58 mt_9_155 (lb rfl) (lb rfl) (lb rfl) (lb rfl) rfl (c10_inI rfl (b := 0) (by decide) (c := 65535) (by decide) (fun i58a i58b => ⟨_, rfl, ?_⟩) (fun i58 => ⟨_, rfl, ?_⟩))
    ·
      exact w_iret dX10_fits_61 rfl rfl (qt (fitB_t.mpr (by rw [fitP, if_neg hs0, if_pos hs1, ← hu]; exact ⟨i58a, i58b⟩)))
    ·
      refine w_iret dX10_fits_61 rfl rfl ?_
      refine qf ?_
      cases e : fitB τ w S k
      · rfl
      · have e2 := fitB_t.mp e
        rw [fitP, if_neg hs0, if_pos hs1, ← hu] at e2; exact absurd e2.2 (fun h => i58 e2.1 h)
  by_cases hs2 : (tT τ 23 k) = 2
  ·
    refine w_tblIn (off := 50) (t := 62) dX10_fits_12 hsw (by rw [hs2]; rfl) rfl ?_
    refine w_lload_n dX10_fits_62 rfl ?_
    refine w_ldc2 dX10_fits_63 ct_9_302 ?_
    refine w_ldc2 dX10_fits_66 ct_9_304 ?_
    refine r_stat3 dX10_fits_69 mt_9_155 (lb rfl) (lb rfl) (lb rfl) (lb rfl) rfl (c10_inI rfl (b := -2147483648) (by decide) (c := 2147483647) (by decide) (fun i69a i69b => ⟨_, rfl, ?_⟩) (fun i69 => ⟨_, rfl, ?_⟩))
    ·
      exact w_iret dX10_fits_72 rfl rfl (qt (fitB_t.mpr (by rw [fitP, if_neg hs0, if_neg hs1, if_pos hs2, ← hu]; exact ⟨i69a, i69b⟩)))
    ·
      refine w_iret dX10_fits_72 rfl rfl ?_
      refine qf ?_
      cases e : fitB τ w S k
      · rfl
      · have e2 := fitB_t.mp e
        rw [fitP, if_neg hs0, if_neg hs1, if_pos hs2, ← hu] at e2; exact absurd e2.2 (fun h => i69 e2.1 h)
  have hs3 : (tT τ 23 k) = 3 := by
    apply Int32.toInt_inj.mp; show (tT τ 23 k).toInt = 3
    have e0 : (tT τ 23 k).toInt ≠ 0 := fun e => hs0 (Int32.toInt_inj.mp e)
    have e1 : (tT τ 23 k).toInt ≠ 1 := fun e => hs1 (Int32.toInt_inj.mp e)
    have e2 : (tT τ 23 k).toInt ≠ 2 := fun e => hs2 (Int32.toInt_inj.mp e)
    omega
  refine w_tblIn (off := 61) (t := 73) dX10_fits_12 hsw (by rw [hs3]; rfl) rfl ?_
  refine w_aload_n dX10_fits_73 rfl ?_
  refine w_lload_n dX10_fits_74 rfl ?_
  refine r_inv1  dX10_fits_75 mt_9_262 R rfl (hS _ _ rfl) rfl (lb rfl) (lb rfl) (lb rfl) (lb rfl) rfl (c10_isBranchNear (fun hnear => ⟨_, rfl, ?_⟩) (fun hnear => ⟨_, rfl, ?_⟩))
  ·
    exact w_iret dX10_fits_78 rfl rfl (qt (fitB_t.mpr (by rw [fitP, if_neg hs0, if_neg hs1, if_neg hs2, if_pos hs3, ← hu]; exact hnear)))
  ·
    refine w_iret dX10_fits_78 rfl rfl ?_
    refine qf ?_
    cases e : fitB τ w S k
    · rfl
    · have e2 := fitB_t.mp e
      rw [fitP, if_neg hs0, if_neg hs1, if_neg hs2, if_pos hs3, ← hu] at e2; exact absurd e2 hnear
end
