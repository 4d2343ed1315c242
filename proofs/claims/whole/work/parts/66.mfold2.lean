section
variable {b0 mi z1 z2 : Nat} {E : Nat → Nat} {O : Nat → Option mx_C} {s : rx_S} {G : mx_H} {Q : mx_O → mx_H → Prop}
theorem c10_foldAll_i {s0 : rx_S} (hS0 : rx_in s0) {τ : tx_T} (hV : TV τ) {w : Bool} {b : Nat} (hb : b < tN τ 1)  : ∀ (d : Nat) (a : Nat) (L : mx_L) (s : rx_S) (G : mx_H), b - a < d → rx_R b0 O z1 z2 s G → a ≤ b → mfk s0 s → NK s τ → (∀ x y, x < tN τ 1 → y < tN τ 1 → (AS s x y ↔ gA τ w x y)) → (∀ x, x < b → rI s 1 43 x = oI (inO τ w x)) → (∀ x, b < x → x < 60 → rI s 1 43 x = -1) → rI s 1 43 b = oI (fst1 (fun a => gB τ w a b) a) → L 0 = some (.ref (rA s 0 0)) → L 3 = some (.int (nI b)) → L 4 = some (.int (nI a)) → (∀ (L : mx_L) (s : rx_S) (G : mx_H), rx_R b0 O z1 z2 s G → mfk s0 s → NK s τ → (∀ x y, x < tN τ 1 → y < tN τ 1 → (AS s x y ↔ gA τ w x y)) → (∀ x, x < b + 1 → rI s 1 43 x = oI (inO τ w x)) → (∀ x, b < x → x < 60 → rI s 1 43 x = -1) → L 0 = some (.ref (rA s 0 0)) → L 3 = some (.int (nI b)) → mx_W (gt_P b0 mi E) mX10_foldAll 378 L [] G Q) → mx_W (gt_P b0 mi E) mX10_foldAll 329 L [] G Q := by
  intro d
  induction d with
  | zero => intro a L s G hd; exact absurd hd (Nat.not_lt_zero _)
  | succ d ih =>
    intro a L s G hd R ha hf hK hg hi hi2 hc h0 h3 h4 kx
    obtain ⟨hN, hKQ, hKV⟩ := id hK
    obtain ⟨hT, hL, hD, hA⟩ := id hN
    obtain ⟨hM, ⟨c1, c2, c13, c14, c20, c26⟩, hsec, hby, hsy, hre, hro, hba⟩ := id hT
    have hV0 := hV.1
    have hS : rx_in s := hf.inn hS0
    refine w_iload dX10_foldAll_329 h4 ?_
    refine w_iload_n dX10_foldAll_331 h3 ?_
    refine r_icmp_gen (t := 378) dX10_foldAll_332 rfl (by omega) (by omega) (fun h332 => ?_) (fun h332 => ?_)
    ·
      refine kx _ _ _ R hf hK hg (fun x hx => ?_) hi2 h0 h3
      by_cases e : x = b
      · subst e
        obtain rfl : a = x := by omega
        exact hc
      · exact hi x (by omega)
    ·
      refine w_aload_n dX10_foldAll_335 h0 ?_
      refine r_getr  dX10_foldAll_336 ft_9_112 R rfl (hS _ _ rfl) rfl (lb rfl) (hM.1 43 (lb rfl) (lb rfl)) ?_
      refine w_iload_n dX10_foldAll_339 h3 ?_
      refine r_iald  dX10_foldAll_340 R rfl (hS _ _ rfl) rfl rfl (by omega) (lb rfl) hc ?_
      refine w_iconst (v := (-1)) dX10_foldAll_341 (by decide) ?_
      refine r_icmp_neP (t := 378) dX10_foldAll_342 rfl (fun h342 => ?_) (fun h342 => ?_)
      ·
        refine kx _ _ _ R hf hK hg (fun x hx => ?_) hi2 h0 h3
        by_cases e : x = b
        · subst e
          rw [hc]
          cases e2 : fst1 (fun a => gB τ w a x) a with
          | none => exact absurd (by rw [e2]; rfl) h342
          | some j =>
            have e3 : inO τ w x = some j := by
              have := fst1_some.mp e2
              exact fst1_some.mpr ⟨by omega, this.2⟩
            rw [e3]
        · exact hi x (by omega)
      ·
        refine w_aload_n dX10_foldAll_345 h0 ?_
        refine r_getr  dX10_foldAll_346 ft_9_112 R rfl (hS _ _ rfl) rfl (lb rfl) (hM.1 43 (lb rfl) (lb rfl)) ?_
        refine w_iload_n dX10_foldAll_349 h3 ?_
        refine w_aload_n dX10_foldAll_350 h0 ?_
        refine r_getr  dX10_foldAll_351 ft_9_118 R rfl (hS _ _ rfl) rfl (lb rfl) (hM.1 45 (lb rfl) (lb rfl)) ?_
        refine w_bipush (v := nI 60) dX10_foldAll_354 (by decide) ?_
        refine w_iload dX10_foldAll_356 h4 ?_
        refine w_imul dX10_foldAll_358 ?_
        rw [nI_mul]
        refine w_iload_n dX10_foldAll_359 h3 ?_
        refine w_iadd dX10_foldAll_360 ?_
        rw [nI_add]
        refine r_zald  dX10_foldAll_361 R rfl (hS _ _ rfl) rfl rfl (by omega) (lb rfl) rfl ?_
        refine w_if_eq (t := 370) dX10_foldAll_362 rfl (fun h362 => ?_) (fun h362 => ?_)
        ·
          refine w_iconst (v := (-1)) dX10_foldAll_370 (by decide) ?_
          refine r_iast  dX10_foldAll_371 R rfl (hS _ _ rfl) rfl rfl (by omega) (lb rfl) (fun G1 R1 => ?_)
          refine w_iinc dX10_foldAll_372 h4 (nI_1 _) (lb rfl) ?_
          refine w_goto (t := 329) dX10_foldAll_375 rfl ?_
          have hn : fst1 (fun a => gB τ w a b) a = none := (oI_none (fun j hj => by have := fst_lt hj; omega)).mp h342
          have eg : gB τ w a b = false := by
            cases e : gB τ w a b
            · rfl
            · exact absurd h362 ((hg a b (by omega) hb).mpr (gB_t.mp e))
          exact ih (a + 1) _ _ _ (by omega) R1 (by omega) hf.I (NK_I hK (by omega)) hg (fun x hx => (sI_at.trans (if_neg (by omega))).trans (hi x hx)) (fun x hx hx2 => (sI_at.trans (if_neg (by omega))).trans (hi2 x hx hx2)) ((sI_at.trans (if_pos rfl)).trans (by rw [fst1_f (f := fun a => gB τ w a b) eg, hn]; rfl)) h0 h3 rfl kx
        ·
          refine w_iload dX10_foldAll_365 h4 ?_
          refine w_goto (t := 371) dX10_foldAll_367 rfl ?_
          refine r_iast  dX10_foldAll_371 R rfl (hS _ _ rfl) rfl rfl (by omega) (lb rfl) (fun G2 R2 => ?_)
          refine w_iinc dX10_foldAll_372 h4 (nI_1 _) (lb rfl) ?_
          refine w_goto (t := 329) dX10_foldAll_375 rfl ?_
          have hn : fst1 (fun a => gB τ w a b) a = none := (oI_none (fun j hj => by have := fst_lt hj; omega)).mp h342
          have eg : gB τ w a b = true := gB_t.mpr ((hg a b (by omega) hb).mp h362)
          exact ih (a + 1) _ _ _ (by omega) R2 (by omega) hf.I (NK_I hK (by omega)) hg (fun x hx => (sI_at.trans (if_neg (by omega))).trans (hi x hx)) (fun x hx hx2 => (sI_at.trans (if_neg (by omega))).trans (hi2 x hx hx2)) ((sI_at.trans (if_pos rfl)).trans (by rw [fst1_t (f := fun a => gB τ w a b) hn eg]; rfl)) h0 h3 rfl kx
theorem c10_foldAll_h {s0 : rx_S} (hS0 : rx_in s0) {τ : tx_T} (hV : TV τ) {w : Bool}  : ∀ (d : Nat) (b : Nat) (L : mx_L) (s : rx_S) (G : mx_H), tN τ 1 - b < d → rx_R b0 O z1 z2 s G → b ≤ tN τ 1 → mfk s0 s → NK s τ → (∀ x y, x < tN τ 1 → y < tN τ 1 → (AS s x y ↔ gA τ w x y)) → (∀ x, x < b → rI s 1 43 x = oI (inO τ w x)) → (∀ x, b ≤ x → x < 60 → rI s 1 43 x = -1) → L 0 = some (.ref (rA s 0 0)) → L 3 = some (.int (nI b)) → (∀ (s' : rx_S) (G' : mx_H), rx_R b0 O z1 z2 s' G' → mfk s0 s' → NK s' τ → (∀ x, x < tN τ 1 → rI s' 1 43 x = oI (inO τ w x)) → Q (.inl none) G') → mx_W (gt_P b0 mi E) mX10_foldAll 318 L [] G Q := by
  intro d
  induction d with
  | zero => intro b L s G hd; exact absurd hd (Nat.not_lt_zero _)
  | succ d ih =>
    intro b L s G hd R hb hf hK hg hi hi2 h0 h3 kx
    obtain ⟨hN, hKQ, hKV⟩ := id hK
    obtain ⟨hT, hL, hD, hA⟩ := id hN
    obtain ⟨hM, ⟨c1, c2, c13, c14, c20, c26⟩, hsec, hby, hsy, hre, hro, hba⟩ := id hT
    have hV0 := hV.1
    have hS : rx_in s := hf.inn hS0
    refine w_iload_n dX10_foldAll_318 h3 ?_
    refine w_aload_n dX10_foldAll_319 h0 ?_
    refine r_geti  dX10_foldAll_320 ft_9_165 R rfl (hS _ _ rfl) rfl (lb rfl) c2 ?_
    refine r_icmp_gen (t := 384) dX10_foldAll_323 rfl (by omega) (by omega) (fun h323 => ?_) (fun h323 => ?_)
    ·
      refine w_ret dX10_foldAll_384 rfl ?_
      obtain rfl : b = tN τ 1 := by omega
      exact kx _ _ R hf hK hi
    ·
      refine w_iconst (v := 0) dX10_foldAll_326 (by decide) ?_
      refine w_istore dX10_foldAll_327 (lb rfl) ?_
      refine c10_foldAll_i hS0 hV (b := b) (by omega) (b + 1) 0 _ _ _ (by omega) R (by omega) hf hK hg hi (fun x hx => hi2 x (by omega)) (hi2 b (by omega) (by omega)) h0 h3 rfl (fun L s G R hf hK hg hi hi2 h0 h3 => ?_)
      refine w_iinc dX10_foldAll_378 h3 (nI_1 _) (lb rfl) ?_
      refine w_goto (t := 318) dX10_foldAll_381 rfl ?_
      exact ih (b + 1) _ _ _ (by omega) R (by omega) hf hK hg hi (fun x hx => hi2 x (by omega)) h0 rfl kx
theorem c10_foldAll (R : rx_R b0 O z1 z2 s G) (hS : rx_in s) {τ : tx_T} (hV : TV τ) {w : Bool} (hK : NK s τ) (q : ∀ (s' : rx_S) (G' : mx_H), rx_R b0 O z1 z2 s' G' → mfk s s' → NK s' τ → (∀ x, x < tN τ 1 → rI s' 1 43 x = oI (inO τ w x)) → Q (.inl none) G') : mx_W (gt_P b0 mi E) mX10_foldAll 0 (mx_en 0 [.ref (rA s 0 0), .int (b32 w)]) [] G Q := by
  have hV0 := hV.1
  refine w_iconst (v := 0) dX10_foldAll_0 (by decide) ?_
  refine w_istore_n dX10_foldAll_1 (lb rfl) ?_
  refine c10_foldAll_a hS hV (w := w) 61 0 _ _ _ (by omega) R (by omega) (mfk.rf s) hK (fun x hx => absurd hx (Nat.not_lt_zero _)) rfl rfl rfl (fun L s1 G R hf hK h43 hm h0 => ?_)
  refine w_iconst (v := 0) dX10_foldAll_82 (by decide) ?_
  refine w_istore_n dX10_foldAll_83 (lb rfl) ?_
  refine c10_foldAll_b hS hV (w := w) (tN τ 3 + 1) 0 _ _ _ (by omega) R (by omega) hf hK h43 (fun x hx => by rw [hm x hx]; simp [an]) h0 rfl (fun L s1 G R hf hK h43 hm h0 => ?_)
  refine w_iconst (v := 0) dX10_foldAll_151 (by decide) ?_
  refine w_istore_n dX10_foldAll_152 (lb rfl) ?_
  refine c10_foldAll_c hS hV (w := w) (tN τ 1 + 1) 0 _ _ _ (by omega) R (by omega) hf hK h43 hm (fun x y hx hy hd => absurd hd (by unfold dn; omega)) h0 rfl (fun L s1 G R hf hK h43 hz h0 => ?_)
  refine w_iconst (v := 1) dX10_foldAll_231 (by decide) ?_
  refine w_istore_n dX10_foldAll_232 (lb rfl) ?_
  refine c10_foldAll_e hS hV (w := w) (mS s1 + 2) 1 _ _ _ (by rw [if_pos rfl]; omega) R hf hK h43 (fun x y hg => (hz x y (gA_post hg).1 (gA_post hg).2.1).mpr (gA_post hg).2.2.1) (fun x y hx hy h => (hz x y hx hy).mp h) (Or.inr rfl) h0 rfl (fun L s1 G R hf hK h43 hg h0 => ?_)
  refine w_iconst (v := 0) dX10_foldAll_316 (by decide) ?_
  refine w_istore_n dX10_foldAll_317 (lb rfl) ?_
  exact c10_foldAll_h hS hV (w := w) (tN τ 1 + 1) 0 _ _ _ (by omega) R (by omega) hf hK hg (fun x hx => absurd hx (Nat.not_lt_zero _)) (fun x _ hx => h43 x hx) h0 rfl q
end
