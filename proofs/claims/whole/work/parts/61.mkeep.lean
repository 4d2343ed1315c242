/-- names are known -/
def NN (s : rx_S) (τ : tx_T) : Prop := MR s τ ∧ NL s τ ∧ ND s τ 64 ∧ NA s τ (tN τ 2)
theorem NN_I {s : rx_S} {τ : tx_T} (h : NN s τ) {k j : Nat} {v : Int32} (hk : 38 ≤ k) : NN (sI s 1 k j v) τ := ⟨MR_I h.1 (by omega), fun i hi => (sI_p (by omega)).trans (h.2.1 i hi), fun i hi => (sI_p (by omega)).trans (h.2.2.1 i hi), fun i hi => ⟨(sI_p (by omega)).trans (h.2.2.2 i hi).1, (sI_p (by omega)).trans (h.2.2.2 i hi).2.1, (sI_p (by omega)).trans (h.2.2.2 i hi).2.2⟩⟩
theorem NN_L {s : rx_S} {τ : tx_T} (h : NN s τ) {k j : Nat} {v : Int64} (hk : 38 ≤ k) : NN (sL s 1 k j v) τ := ⟨MR_L h.1 (by omega), h.2⟩
theorem NN_X {s : rx_S} {τ : tx_T} (h : NN s τ) {k : Nat} {v : Int32} (hk : k = 0 ∨ 29 ≤ k) (h2 : (rx_m k).2 = 0) : NN (sX s 0 0 k (.inl (.int v))) τ := ⟨MR_X h.1 hk h2, h.2⟩
theorem kadd_t {τ : tx_T} {Q : kQ} {x : Nat} {b : Int32} (h : kin Q x = true ∨ lostB τ x = true) : kadd τ Q x b = Q := by
  unfold kadd
  rcases h with h | h <;> rw [h] <;> simp
theorem kadd_f {τ : tx_T} {Q : kQ} {x : Nat} {b : Int32} (h : kin Q x = false) (h2 : lostB τ x = false) : kadd τ Q x b = Q ++ [(x, b)] := by
  unfold kadd
  rw [h, h2]; rfl
theorem KQ_add {s s' : rx_S} {τ : tx_T} {Q : kQ} (hq : KQ s τ Q) {x : Nat} {b : Int32} (h1 : kin Q x = false) (e39 : rX s' 0 0 39 = .inl (.int (nI (Q.length + 1)))) (e38 : ∀ i, rI s' 1 38 i = if i = Q.length then nI x else rI s 1 38 i) (e40 : ∀ i, rI s' 1 40 i = if i = x then 1 else rI s 1 40 i) (e41 : ∀ i, rI s' 1 41 i = if i = x then b else rI s 1 41 i) (e42 : ∀ i, rI s' 1 42 i = if i = x then nI Q.length else rI s 1 42 i) : KQ s' τ (Q ++ [(x, b)]) := by
  refine ⟨by rw [e39]; simp, fun i hi => ?_, fun y hy => ?_, fun y hy => ?_, fun y hy => ?_⟩
  · rw [e38]
    simp only [List.length_append, List.length_cons, List.length_nil] at hi
    by_cases e : i = Q.length
    · subst e; simp
    · rw [if_neg e, hq.2.1 i (by omega), List.getElem_append_left (by omega)]
  · rw [e40, kin_app, hq.2.2.1 y hy]
    by_cases e : y = x
    · subst e; simp [b32]
    · rw [if_neg e]
      have : Nat.beq x y = false := by
        cases h : Nat.beq x y
        · rfl
        · exact absurd (Nat.eq_of_beq_eq_true h).symm e
      rw [this]; simp
  · rw [e41, kby_app y h1, hq.2.2.2.1 y hy]
  · rw [e42, krk_app y h1, hq.2.2.2.2 y hy]
section
variable {b0 mi z1 z2 : Nat} {E : Nat → Nat} {O : Nat → Option mx_C} {s : rx_S} {G : mx_H} {Q : mx_O → mx_H → Prop}
theorem c10_keeps (R : rx_R b0 O z1 z2 s G) (hS : rx_in s) {τ : tx_T} (hV : TV τ) (hN : NN s τ) {K : kQ} (hq : KQ s τ K) (hv : kV τ K) {x : Nat} (hx : x < tN τ 1) {b : Int32} (q : ∀ s' G', rx_R b0 O z1 z2 s' G' → mfk s s' → NN s' τ → KQ s' τ (kadd τ K x b) → Q (.inl none) G') : mx_W (gt_P b0 mi E) mX10_keeps 0 (mx_en 0 [.ref (rA s 0 0), .int (nI x), .int b]) [] G Q := by
  obtain ⟨hT, hL, hD, hA⟩ := id hN
  obtain ⟨hM, ⟨c1, c2, c13, c14, c20, c26⟩, hsec, hby, hsy, hre, hro, hba⟩ := id hT
  have hV0 := hV.1
  have hl0 := kV_len hv
  refine w_aload_n dX10_keeps_0 rfl ?_
  refine r_getr  dX10_keeps_1 ft_9_103 R rfl (hS _ _ rfl) rfl (lb rfl) (hM.1 40 (lb rfl) (lb rfl)) ?_
  refine w_iload_n dX10_keeps_4 rfl ?_
  refine r_zald  dX10_keeps_5 R rfl (hS _ _ rfl) rfl rfl (by omega) (lb rfl) (hq.2.2.1 x (by omega)) ?_
  refine r_if_neP (t := 62) dX10_keeps_6 rfl (fun h6 => ?_) (fun h6 => ?_)
  ·
    exact w_ret dX10_keeps_62 rfl (q _ _ R (mfk.rf s) hN (by rw [kadd_t (Or.inl (b32_ne h6))]; exact hq))
  ·
    refine w_aload_n dX10_keeps_9 rfl ?_
    refine r_getr  dX10_keeps_10 ft_9_85 R rfl (hS _ _ rfl) rfl (lb rfl) (hM.1 33 (lb rfl) (lb rfl)) ?_
    refine w_iload_n dX10_keeps_13 rfl ?_
    refine r_zald  dX10_keeps_14 R rfl (hS _ _ rfl) rfl rfl (by omega) (lb rfl) (hL x hx) ?_
    refine r_if_neP (t := 62) dX10_keeps_15 rfl (fun h15 => ?_) (fun h15 => ?_)
    ·
      exact w_ret dX10_keeps_62 rfl (q _ _ R (mfk.rf s) hN (by rw [kadd_t (Or.inr (b32_ne h15))]; exact hq))
    ·
      have hl1 : K.length + 1 ≤ tN τ 1 := by
        have := kV_len (kV_add hv hx b)
        rw [kadd_f (b32_eq h6) (b32_eq h15)] at this
        simpa using this
      refine w_aload_n dX10_keeps_18 rfl ?_
      refine r_getr  dX10_keeps_19 ft_9_103 R rfl (hS _ _ rfl) rfl (lb rfl) (hM.1 40 (lb rfl) (lb rfl)) ?_
      refine w_iload_n dX10_keeps_22 rfl ?_
      refine w_iconst (v := 1) dX10_keeps_23 (by decide) ?_
      refine r_zast  dX10_keeps_24 R rfl (hS _ _ rfl) rfl rfl (by omega) (lb rfl) (show vp_nar .boolean 1 = 1 from rfl) (fun G1 R1 => ?_)
      refine w_aload_n dX10_keeps_25 rfl ?_
      refine r_getr  dX10_keeps_26 ft_9_106 R1 rfl (hS _ _ rfl) rfl (lb rfl) (hM.1 41 (lb rfl) (lb rfl)) ?_
      refine w_iload_n dX10_keeps_29 rfl ?_
      refine w_iload_n dX10_keeps_30 rfl ?_
      refine r_iast  dX10_keeps_31 R1 rfl (hS _ _ rfl) rfl rfl (by omega) (lb rfl) (fun G2 R2 => ?_)
      refine w_aload_n dX10_keeps_32 rfl ?_
      refine r_getr  dX10_keeps_33 ft_9_109 R2 rfl (hS _ _ rfl) rfl (lb rfl) (hM.1 42 (lb rfl) (lb rfl)) ?_
      refine w_iload_n dX10_keeps_36 rfl ?_
      refine w_aload_n dX10_keeps_37 rfl ?_
      refine r_geti  dX10_keeps_38 ft_9_203 R2 rfl (hS _ _ rfl) rfl (lb rfl) hq.1 ?_
      refine r_iast  dX10_keeps_41 R2 rfl (hS _ _ rfl) rfl rfl (by omega) (lb rfl) (fun G3 R3 => ?_)
      refine w_aload_n dX10_keeps_42 rfl ?_
      refine r_getr  dX10_keeps_43 ft_9_100 R3 rfl (hS _ _ rfl) rfl (lb rfl) (hM.1 38 (lb rfl) (lb rfl)) ?_
      refine w_aload_n dX10_keeps_46 rfl ?_
      refine r_geti  dX10_keeps_47 ft_9_203 R3 rfl (hS _ _ rfl) rfl (lb rfl) hq.1 ?_
      refine w_iload_n dX10_keeps_50 rfl ?_
      refine r_iast  dX10_keeps_51 R3 rfl (hS _ _ rfl) rfl rfl (by omega) (lb rfl) (fun G4 R4 => ?_)
      refine w_aload_n dX10_keeps_52 rfl ?_
      refine w_dup dX10_keeps_53 rfl ?_
      refine r_geti  dX10_keeps_54 ft_9_203 R4 rfl (hS _ _ rfl) rfl (lb rfl) hq.1 ?_
      refine w_iconst (v := 1) dX10_keeps_57 (by decide) ?_
      refine w_iadd dX10_keeps_58 ?_
      rw [nI_1]
      refine r_puti  dX10_keeps_59 ft_9_203 R4 rfl (hS _ _ rfl) rfl (lb rfl) (fun h => by cases h) rfl rfl (fun G5 R5 => ?_)
      refine w_ret dX10_keeps_62 rfl ?_
      refine q _ _ R5 (mfk.rf s).I.I.I.I.X (NN_X (NN_I (NN_I (NN_I (NN_I hN (by omega)) (by omega)) (by omega)) (by omega)) (by omega) rfl) ?_
      rw [kadd_f (b32_eq h6) (b32_eq h15)]
      exact KQ_add hq (b32_eq h6) sX_s (fun i => sI_at.trans (by rw [sI_p (by decide), sI_p (by decide), sI_p (by decide)])) (fun i => (sI_p (by decide)).trans ((sI_p (by decide)).trans ((sI_p (by decide)).trans sI_at))) (fun i => (sI_p (by decide)).trans ((sI_p (by decide)).trans (sI_at.trans (by rw [sI_p (by decide)])))) (fun i => (sI_p (by decide)).trans (sI_at.trans (by rw [sI_p (by decide), sI_p (by decide)])))
theorem c10_comesBy_l {s0 : rx_S} (hS0 : rx_in s0) {τ : tx_T} (hV : TV τ) {K : kQ} {x y : Nat} (hy : y < tN τ 2)  : ∀ (d : Nat) (t : Nat) (L : mx_L) (s : rx_S) (G : mx_H), tN τ 1 - t < d → rx_R b0 O z1 z2 s G → t ≤ tN τ 1 → mfk s0 s → NN s τ → KQ s τ (kc2 τ K x y t) → kV τ (kc2 τ K x y t) → L 0 = some (.ref (rA s 0 0)) → L 1 = some (.int (nI x)) → L 2 = some (.int (nI y)) → L 3 = some (.int (nI t)) → (∀ (s' : rx_S) (G' : mx_H), rx_R b0 O z1 z2 s' G' → mfk s0 s' → NN s' τ → KQ s' τ (kc2 τ K x y (tN τ 1)) → Q (.inl none) G') → mx_W (gt_P b0 mi E) mX10_comesBy 23 L [] G Q := by
  intro d
  induction d with
  | zero => intro t L s G hd; exact absurd hd (Nat.not_lt_zero _)
  | succ d ih =>
    intro t L s G hd R ht hf hN hq hv h0 h1 h2 h3 kx
    obtain ⟨hT, hL, hD, hA⟩ := id hN
    obtain ⟨hM, ⟨c1, c2, c13, c14, c20, c26⟩, hsec, hby, hsy, hre, hro, hba⟩ := id hT
    have hV0 := hV.1
    have hS : rx_in s := hf.inn hS0
    have hl0 := kV_len hv
    have e1 : Int32.toInt 1 = 1 := by decide
    refine w_iload_n dX10_comesBy_23 h3 ?_
    refine w_aload_n dX10_comesBy_24 h0 ?_
    refine r_geti  dX10_comesBy_25 ft_9_165 R rfl (hS _ _ rfl) rfl (lb rfl) c2 ?_
    refine r_icmp_gen (t := 68) dX10_comesBy_28 rfl (by omega) (by omega) (fun h28 => ?_) (fun h28 => ?_)
    ·
      refine w_ret dX10_comesBy_68 rfl ?_
      obtain rfl : t = tN τ 1 := by omega
      exact kx _ _ R hf hN hq
    ·
      refine w_aload_n dX10_comesBy_31 h0 ?_
      refine r_getr  dX10_comesBy_32 ft_9_91 R rfl (hS _ _ rfl) rfl (lb rfl) (hM.1 35 (lb rfl) (lb rfl)) ?_
      refine w_iload_n dX10_comesBy_35 h2 ?_
      refine r_iald  dX10_comesBy_36 R rfl (hS _ _ rfl) rfl rfl (by omega) (lb rfl) (hA y hy).1 ?_
      refine w_iconst (v := 1) dX10_comesBy_37 (by decide) ?_
      refine r_icmp_lei (t := 62) dX10_comesBy_38 rfl (fun h38 => ?_) (fun h38 => ?_)
      ·
        refine w_iinc dX10_comesBy_62 h3 (nI_1 _) (lb rfl) ?_
        refine w_goto (t := 23) dX10_comesBy_65 rfl ?_
        have e : (decide (1 < (aimI τ y).toInt) && (tT τ 9 t == atI τ y)) = false := by rw [decide_eq_false (show ¬ 1 < (aimI τ y).toInt by omega)]; simp
        have ek : kc2 τ K x y (t + 1) = kc2 τ K x y t := by unfold kc2; rw [fo, e]; rfl
        exact ih (t + 1) _ _ _ (by omega) R (by omega) hf hN (by rw [ek]; exact hq) (by rw [ek]; exact hv) h0 h1 h2 rfl kx
      ·
        refine w_aload_n dX10_comesBy_41 h0 ?_
        refine r_getr  dX10_comesBy_42 ft_9_33 R rfl (hS _ _ rfl) rfl (lb rfl) (hM.1 9 (lb rfl) (lb rfl)) ?_
        refine w_iload_n dX10_comesBy_45 h3 ?_
        refine r_iald  dX10_comesBy_46 R rfl (hS _ _ rfl) rfl rfl (by omega) (lb rfl) (hsec t (by omega)).2.2.2.2.2.1 ?_
        refine w_aload_n dX10_comesBy_47 h0 ?_
        refine r_getr  dX10_comesBy_48 ft_9_94 R rfl (hS _ _ rfl) rfl (lb rfl) (hM.1 36 (lb rfl) (lb rfl)) ?_
        refine w_iload_n dX10_comesBy_51 h2 ?_
        refine r_iald  dX10_comesBy_52 R rfl (hS _ _ rfl) rfl rfl (by omega) (lb rfl) (hA y hy).2.1 ?_
        refine r_icmp_neP (t := 62) dX10_comesBy_53 rfl (fun h53 => ?_) (fun h53 => ?_)
        ·
          refine w_iinc dX10_comesBy_62 h3 (nI_1 _) (lb rfl) ?_
          refine w_goto (t := 23) dX10_comesBy_65 rfl ?_
          have e : (decide (1 < (aimI τ y).toInt) && (tT τ 9 t == atI τ y)) = false := by simp [h53]
          have ek : kc2 τ K x y (t + 1) = kc2 τ K x y t := by unfold kc2; rw [fo, e]; rfl
          exact ih (t + 1) _ _ _ (by omega) R (by omega) hf hN (by rw [ek]; exact hq) (by rw [ek]; exact hv) h0 h1 h2 rfl kx
        ·
          refine w_aload_n dX10_comesBy_56 h0 ?_
          refine w_iload_n dX10_comesBy_57 h3 ?_
          refine w_iload_n dX10_comesBy_58 h1 ?_
          refine r_inv2  dX10_comesBy_59 mt_9_206 R rfl (hS _ _ rfl) rfl (lb rfl) (lb rfl) (lb rfl) (lb rfl) rfl (c10_keeps R hS hV hN hq hv (x := t) (by omega) (fun s1 G1 R1 hf1 hN1 hq1 => ⟨_, rfl, ?_⟩))
          have h0 : L 0 = some (.ref (rA s1 0 0)) := by rw [hf1.1]; exact h0
          refine w_iinc dX10_comesBy_62 h3 (nI_1 _) (lb rfl) ?_
          refine w_goto (t := 23) dX10_comesBy_65 rfl ?_
          have e : (decide (1 < (aimI τ y).toInt) && (tT τ 9 t == atI τ y)) = true := by rw [decide_eq_true (show 1 < (aimI τ y).toInt by omega), h53]; simp
          have ek : kc2 τ K x y (t + 1) = kadd τ (kc2 τ K x y t) t (nI x) := by unfold kc2; rw [fo, e]; rfl
          exact ih (t + 1) _ _ _ (by omega) R1 (by omega) (hf.tr hf1) hN1 (by rw [ek]; exact hq1) (by rw [ek]; exact kV_add hv (by omega) _) h0 h1 h2 rfl kx
theorem c10_comesBy (R : rx_R b0 O z1 z2 s G) (hS : rx_in s) {τ : tx_T} (hV : TV τ) (hN : NN s τ) {K : kQ} (hq : KQ s τ K) (hv : kV τ K) {x y : Nat} (hx : x < tN τ 1) (hy : y < tN τ 2) (q : ∀ s' G', rx_R b0 O z1 z2 s' G' → mfk s s' → NN s' τ → KQ s' τ (kcb τ K x y) → Q (.inl none) G') : mx_W (gt_P b0 mi E) mX10_comesBy 0 (mx_en 0 [.ref (rA s 0 0), .int (nI x), .int (nI y)]) [] G Q := by
  obtain ⟨hT, hL, hD, hA⟩ := id hN
  obtain ⟨hM, ⟨c1, c2, c13, c14, c20, c26⟩, hsec, hby, hsy, hre, hro, hba⟩ := id hT
  have hV0 := hV.1
  have hl0 := kV_len hv
  refine w_aload_n dX10_comesBy_0 rfl ?_
  refine r_getr  dX10_comesBy_1 ft_9_91 R rfl (hS _ _ rfl) rfl (lb rfl) (hM.1 35 (lb rfl) (lb rfl)) ?_
  refine w_iload_n dX10_comesBy_4 rfl ?_
  refine r_iald  dX10_comesBy_5 R rfl (hS _ _ rfl) rfl rfl (by omega) (lb rfl) (hA y hy).1 ?_
  refine w_iconst (v := 1) dX10_comesBy_6 (by decide) ?_
  refine r_icmp_neP (t := 21) dX10_comesBy_7 rfl (fun h7 => ?_) (fun h7 => ?_)
  ·
    refine w_iconst (v := 0) dX10_comesBy_21 (by decide) ?_
    refine w_istore_n dX10_comesBy_22 (lb rfl) ?_
    have ek : kc1 τ K x y = K := by unfold kc1; rw [beq_eq_false_iff_ne.mpr h7]; rfl
    exact c10_comesBy_l hS hV (K := kc1 τ K x y) hy (tN τ 1 + 1) 0 _ _ _ (by omega) R (by omega) (mfk.rf s) hN (by rw [ek]; exact hq) (by rw [ek]; exact hv) rfl rfl rfl rfl q
  ·
    obtain ⟨d, g1, g2, g3, g4, g5⟩ := at_place hV hy h7
    obtain ⟨z, hz, hz2⟩ := nI_ofI g4
    have hzl : z < tN τ 1 := by rw [hz2, clN hz] at g5; exact g5
    have ek : kc1 τ K x y = kadd τ K z (nI x) := by unfold kc1; rw [beq_iff_eq.mpr h7, g3, hz2, clN hz]; rfl
    refine w_aload_n dX10_comesBy_10 rfl ?_
    refine w_aload_n dX10_comesBy_11 rfl ?_
    refine r_getr  dX10_comesBy_12 ft_9_94 R rfl (hS _ _ rfl) rfl (lb rfl) (hM.1 36 (lb rfl) (lb rfl)) ?_
    refine w_iload_n dX10_comesBy_15 rfl ?_
    refine r_iald  dX10_comesBy_16 R rfl (hS _ _ rfl) rfl rfl (by omega) (lb rfl) ((hA y hy).2.1.trans (g3.trans hz2)) ?_
    refine w_iload_n dX10_comesBy_17 rfl ?_
    refine r_inv2  dX10_comesBy_18 mt_9_206 R rfl (hS _ _ rfl) rfl (lb rfl) (lb rfl) (lb rfl) (lb rfl) rfl (c10_keeps R hS hV hN hq hv (x := z) hzl (fun s1 G1 R1 hf1 hN1 hq1 => ⟨_, rfl, ?_⟩))
    refine w_iconst (v := 0) dX10_comesBy_21 (by decide) ?_
    refine w_istore_n dX10_comesBy_22 (lb rfl) ?_
    exact c10_comesBy_l hS hV (K := kc1 τ K x y) hy (tN τ 1 + 1) 0 _ _ _ (by omega) R1 (by omega) hf1 hN1 (by rw [ek]; exact hq1) (by rw [ek]; exact kV_add hv hzl _) (by rw [hf1.1]; rfl) rfl rfl rfl q
end
