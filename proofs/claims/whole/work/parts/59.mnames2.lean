theorem sI_at {s : rx_S} {r i j p : Nat} {v : Int32} : rI (sI s r i j v) r i p = if p = j then v else rI s r i p := w3_at _ _ _ _ _ _
theorem sI_p {s : rx_S} {r i j a b p : Nat} {v : Int32} (h : ¬ (a = r ∧ b = i)) : rI (sI s r i j v) a b p = rI s a b p := w3_n _ _ (fun e => h ⟨e.1, e.2.1⟩)
theorem sL_at {s : rx_S} {r i j p : Nat} {v : Int64} : rL (sL s r i j v) r i p = if p = j then v else rL s r i p := w3_at _ _ _ _ _ _
theorem sL_p {s : rx_S} {r i j a b p : Nat} {v : Int64} (h : ¬ (a = r ∧ b = i)) : rL (sL s r i j v) a b p = rL s a b p := w3_n _ _ (fun e => h ⟨e.1, e.2.1⟩)
theorem sX_p {s : rx_S} {r i f a b c : Nat} {v : rx_V} (h : ¬ (a = r ∧ b = i ∧ c = f)) : rX (sX s r i f v) a b c = rX s a b c := u3_n _ _ h
theorem sX_s {s : rx_S} {r i f : Nat} {v : rx_V} : rX (sX s r i f v) r i f = v := u3_s _ _ _ _ _
section
variable {b0 mi z1 z2 : Nat} {E : Nat → Nat} {O : Nat → Option mx_C} {s : rx_S} {G : mx_H} {Q : mx_O → mx_H → Prop}
theorem c10_names_n {s0 : rx_S} (hS0 : rx_in s0) {τ : tx_T} (hV : TV τ)  : ∀ (d : Nat) (n : Nat) (v : Int32) (L : mx_L) (s : rx_S) (G : mx_H), 64 - n < d → rx_R b0 O z1 z2 s G → n ≤ 64 → mfk s0 s → MR s τ → NL s τ → ND s τ n → lst (secP τ n 0) v → L 0 = some (.ref (rA s 0 0)) → L 1 = some (.int v) → L 2 = some (.int (nI n)) → (∀ (L : mx_L) (s : rx_S) (G : mx_H), rx_R b0 O z1 z2 s G → mfk s0 s → MR s τ → NL s τ → ND s τ 64 → L 0 = some (.ref (rA s 0 0)) → L 1 = some (.int (oI (secO τ))) → mx_W (gt_P b0 mi E) mX10_names 304 L [] G Q) → mx_W (gt_P b0 mi E) mX10_names 103 L [] G Q := by
  intro d
  induction d with
  | zero => intro n v L s G hd; exact absurd hd (Nat.not_lt_zero _)
  | succ d ih =>
    intro n v L s G hd R hn hf hT hL hd2 hs2 h0 h1 h2 kx
    obtain ⟨hM, ⟨c1, c2, c13, c14, c20, c26⟩, hsec, hby, hsy, hre, hro, hba⟩ := id hT
    have hV0 := hV.1
    have hS : rx_in s := hf.inn hS0
    refine w_iload_n dX10_names_103 h2 ?_
    refine w_bipush (v := nI 64) dX10_names_104 (by decide) ?_
    refine r_icmp_gen (t := 304) dX10_names_106 rfl (by omega) (by omega) (fun h106 => ?_) (fun h106 => ?_)
    ·
      obtain rfl : n = 64 := by omega
      rw [sec_end hV hs2] at h1
      exact kx _ _ _ R hf hT hL hd2 h0 h1
    ·
      refine w_aload_n dX10_names_109 h0 ?_
      refine r_getr  dX10_names_110 ft_9_88 R rfl (hS _ _ rfl) rfl (lb rfl) (hM.1 34 (lb rfl) (lb rfl)) ?_
      refine w_iload_n dX10_names_113 h2 ?_
      refine w_iconst (v := (-1)) dX10_names_114 (by decide) ?_
      refine r_iast  dX10_names_115 R rfl (hS _ _ rfl) rfl rfl (by omega) (lb rfl) (fun G1 R1 => ?_)
      refine w_iconst (v := (-1)) dX10_names_116 (by decide) ?_
      refine w_istore_n dX10_names_117 (lb rfl) ?_
      refine w_iconst (v := 0) dX10_names_118 (by decide) ?_
      refine w_istore dX10_names_119 (lb rfl) ?_
      refine c10_names_k hS0 hV (n := n) (by omega) (tN τ 2 + 1) 0 v _ _ _ (by omega) R1 (by omega) hf.I (MR_I hT (by omega)) hL (fun a ha => (w3_n _ _ (by omega)).trans (hd2 a ha)) ((w3_at _ _ _ _ _ _).trans (if_pos rfl)) hs2 h0 h1 h2 rfl rfl (fun v L s G R hf hT hL hd2 hc hs2 h0 h1 h2 h3 => ?_)
      have hS : rx_in s := hf.inn hS0
      have hM := hT.1
      refine w_aload_n dX10_names_272 h0 ?_
      refine r_getr  dX10_names_273 ft_9_88 R rfl (hS _ _ rfl) rfl (lb rfl) (hM.1 34 (lb rfl) (lb rfl)) ?_
      refine w_iload_n dX10_names_276 h2 ?_
      refine w_aload_n dX10_names_277 h0 ?_
      refine r_getr  dX10_names_278 ft_9_88 R rfl (hS _ _ rfl) rfl (lb rfl) (hM.1 34 (lb rfl) (lb rfl)) ?_
      refine w_iload_n dX10_names_281 h2 ?_
      refine r_iald  dX10_names_282 R rfl (hS _ _ rfl) rfl rfl (by omega) (lb rfl) hc ?_
      refine w_iconst (v := (-1)) dX10_names_283 (by decide) ?_
      refine r_icmp_neP (t := 291) dX10_names_284 rfl (fun h284 => ?_) (fun h284 => ?_)
      ·
        refine w_aload_n dX10_names_291 h0 ?_
        refine r_getr  dX10_names_292 ft_9_88 R rfl (hS _ _ rfl) rfl (lb rfl) (hM.1 34 (lb rfl) (lb rfl)) ?_
        refine w_iload_n dX10_names_295 h2 ?_
        refine r_iald  dX10_names_296 R rfl (hS _ _ rfl) rfl rfl (by omega) (lb rfl) hc ?_
        refine r_iast  dX10_names_297 R rfl (hS _ _ rfl) rfl rfl (by omega) (lb rfl) (fun G1 R1 => ?_)
        refine w_iinc dX10_names_298 h2 (nI_1 _) (lb rfl) ?_
        refine w_goto (t := 103) dX10_names_301 rfl ?_
        have hdn : oI (fst1 (isG τ (nI n)) (tN τ 2)) = oI (defO τ (nI n)) := by
          unfold defO
          cases e : fst1 (isG τ (nI n)) (tN τ 2) with
          | none => exact absurd (by rw [e]; rfl) h284
          | some j => rfl
        exact ih (n + 1) _ _ _ _ (by omega) R1 (by omega) hf.I (MR_I hT (by omega)) hL (fun a ha => by
          refine (w3_at _ _ _ _ _ _).trans ?_
          by_cases e : a = n
          · rw [if_pos e, e]; exact hdn
          · rw [if_neg e]; exact hd2 a (by omega)) (lst_congr (secP_next n) hs2) h0 h1 rfl kx
      ·
        refine w_iload_n dX10_names_287 h3 ?_
        refine w_goto (t := 297) dX10_names_288 rfl ?_
        refine r_iast  dX10_names_297 R rfl (hS _ _ rfl) rfl rfl (by omega) (lb rfl) (fun G2 R2 => ?_)
        refine w_iinc dX10_names_298 h2 (nI_1 _) (lb rfl) ?_
        refine w_goto (t := 103) dX10_names_301 rfl ?_
        have hdn : oI (fst1 (isW τ (nI n)) (tN τ 2)) = oI (defO τ (nI n)) := by
          unfold defO
          rw [(oI_none (fun j hj => by have := fst_lt hj; omega)).mp h284]
        exact ih (n + 1) _ _ _ _ (by omega) R2 (by omega) hf.I (MR_I hT (by omega)) hL (fun a ha => by
          refine (w3_at _ _ _ _ _ _).trans ?_
          by_cases e : a = n
          · rw [if_pos e, e]; exact hdn
          · rw [if_neg e]; exact hd2 a (by omega)) (lst_congr (secP_next n) hs2) h0 h1 rfl kx
theorem nI_m1 {k : Nat} (h : k < 2 ^ 31) : ¬ nI k = -1 := fun e => by
  have e2 : (nI k).toInt = (-1 : Int32).toInt := congrArg Int32.toInt e
  rw [nI_toInt h] at e2
  have : (-1 : Int32).toInt = -1 := by decide
  omega
theorem c10_names_a {s0 : rx_S} (hS0 : rx_in s0) {τ : tx_T} (hV : TV τ)  : ∀ (d : Nat) (k : Nat) (L : mx_L) (s : rx_S) (G : mx_H), tN τ 2 - k < d → rx_R b0 O z1 z2 s G → k ≤ tN τ 2 → mfk s0 s → MR s τ → NL s τ → ND s τ 64 → NA s τ k → L 0 = some (.ref (rA s 0 0)) → L 1 = some (.int (oI (secO τ))) → L 2 = some (.int (nI k)) → (∀ (s : rx_S) (G : mx_H), rx_R b0 O z1 z2 s G → mfk s0 s → MR s τ → NL s τ → ND s τ 64 → NA s τ (tN τ 2) → Q (.inl (some (.int (oI (secO τ))))) G) → mx_W (gt_P b0 mi E) mX10_names 306 L [] G Q := by
  intro d
  induction d with
  | zero => intro k L s G hd; exact absurd hd (Nat.not_lt_zero _)
  | succ d ih =>
    intro k L s G hd R hk hf hT hL hd2 ha h0 h1 h2 kx
    obtain ⟨hM, ⟨c1, c2, c13, c14, c20, c26⟩, hsec, hby, hsy, hre, hro, hba⟩ := id hT
    have hV0 := hV.1
    have hS : rx_in s := hf.inn hS0
    have em1 : Int32.toInt (-1) = -1 := by decide
    have em10 : Int32.toInt (-10) = -10 := by decide
    refine w_iload_n dX10_names_306 h2 ?_
    refine w_aload_n dX10_names_307 h0 ?_
    refine r_geti  dX10_names_308 ft_9_186 R rfl (hS _ _ rfl) rfl (lb rfl) c14 ?_
    refine r_icmp_gen (t := 471) dX10_names_311 rfl (by omega) (by omega) (fun h311 => ?_) (fun h311 => ?_)
    ·
      refine w_iload_n dX10_names_471 h1 ?_
      refine w_iret dX10_names_472 rfl rfl ?_
      obtain rfl : k = tN τ 2 := by omega
      exact kx _ _ R hf hT hL hd2 ha
    ·
      refine w_aload_n dX10_names_314 h0 ?_
      refine r_getr  dX10_names_315 ft_9_49 R rfl (hS _ _ rfl) rfl (lb rfl) (hM.1 17 (lb rfl) (lb rfl)) ?_
      refine w_iload_n dX10_names_318 h2 ?_
      refine r_iald  dX10_names_319 R rfl (hS _ _ rfl) rfl rfl (by omega) (lb rfl) (hsy k (by omega)).2.2.1 ?_
      refine w_istore_n dX10_names_320 (lb rfl) ?_
      refine w_aload_n dX10_names_321 h0 ?_
      refine r_getr  dX10_names_322 ft_9_55 R rfl (hS _ _ rfl) rfl (lb rfl) (hM.1 19 (lb rfl) (lb rfl)) ?_
      refine w_iload_n dX10_names_325 h2 ?_
      refine r_iald  dX10_names_326 R rfl (hS _ _ rfl) rfl rfl (by omega) (lb rfl) (hsy k (by omega)).2.2.2.2 ?_
      refine r_if_neP (t := 334) dX10_names_327 rfl (fun h327 => ?_) (fun h327 => ?_)
      ·
        have hnm := (hV.2.2.1 k (by omega)).2.1
        obtain ⟨x, hx, hx2⟩ := nI_ofI hnm.1
        have hx3 : (x : Int) ≤ 63 := by have := hnm.2; rw [hx2, nI_toInt hx] at this; exact this
        refine w_aload_n dX10_names_334 h0 ?_
        refine r_getr  dX10_names_335 ft_9_88 R rfl (hS _ _ rfl) rfl (lb rfl) (hM.1 34 (lb rfl) (lb rfl)) ?_
        refine w_aload_n dX10_names_338 h0 ?_
        refine r_getr  dX10_names_339 ft_9_46 R rfl (hS _ _ rfl) rfl (lb rfl) (hM.1 16 (lb rfl) (lb rfl)) ?_
        refine w_iload_n dX10_names_342 h2 ?_
        refine r_iald  dX10_names_343 R rfl (hS _ _ rfl) rfl rfl (by omega) (lb rfl) ((hsy k (by omega)).2.1.trans hx2) ?_
        refine r_iald  dX10_names_344 R rfl (hS _ _ rfl) rfl rfl (by omega) (lb rfl) (show rI s 1 34 x = oI (defO τ (tT τ 16 k)) from (hd2 x (by omega)).trans (by rw [hx2])) ?_
        refine w_istore dX10_names_345 (lb rfl) ?_
        refine w_iload_n dX10_names_347 rfl ?_
        refine w_iconst (v := (-1)) dX10_names_348 (by decide) ?_
        refine r_icmp_gei (t := 402) dX10_names_349 rfl (fun h349 => ?_) (fun h349 => ?_)
        ·
          refine w_aload_n dX10_names_402 h0 ?_
          refine r_getr  dX10_names_403 ft_9_91 R rfl (hS _ _ rfl) rfl (lb rfl) (hM.1 35 (lb rfl) (lb rfl)) ?_
          refine w_iload_n dX10_names_406 h2 ?_
          refine w_iload dX10_names_407 rfl ?_
          refine w_iconst (v := (-1)) dX10_names_409 (by decide) ?_
          refine r_icmp_neP (t := 417) dX10_names_410 rfl (fun h410 => ?_) (fun h410 => ?_)
          ·
            obtain ⟨dd, hdd⟩ : ∃ dd, defO τ (tT τ 16 k) = some dd := by
              cases e : defO τ (tT τ 16 k) with
              | none => exact absurd (by rw [e]; rfl) h410
              | some j => exact ⟨j, rfl⟩
            have hdl := (defO_lt hdd).1
            have hdo : oI (defO τ (tT τ 16 k)) = nI dd := by rw [hdd]; rfl
            refine w_iconst (v := 1) dX10_names_417 (by decide) ?_
            refine r_iast  dX10_names_418 R rfl (hS _ _ rfl) rfl rfl (by omega) (lb rfl) (fun G1 R1 => ?_)
            refine w_aload_n dX10_names_419 h0 ?_
            refine r_getr  dX10_names_420 ft_9_94 R1 rfl (hS _ _ rfl) rfl (lb rfl) (hM.1 36 (lb rfl) (lb rfl)) ?_
            refine w_iload_n dX10_names_423 h2 ?_
            refine w_iload dX10_names_424 rfl ?_
            refine w_iconst (v := (-1)) dX10_names_426 (by decide) ?_
            refine r_icmp_neP (t := 434) dX10_names_427 rfl (fun h427 => ?_) (fun h => absurd h h410)
            refine w_aload_n dX10_names_434 h0 ?_
            refine r_getr  dX10_names_435 ft_9_49 R1 rfl (hS _ _ rfl) rfl (lb rfl) (hM.1 17 (lb rfl) (lb rfl)) ?_
            refine w_iload dX10_names_438 (show some (Value.int (oI (defO τ (tT τ 16 k)))) = some (Value.int (nI dd)) by rw [hdo]) ?_
            refine r_iald  dX10_names_440 R1 rfl (hS _ _ rfl) rfl rfl (by omega) (lb rfl) (hsy dd (by omega)).2.2.1 ?_
            refine r_iast  dX10_names_441 R1 rfl (hS _ _ rfl) rfl rfl (by omega) (lb rfl) (fun G2 R2 => ?_)
            refine w_aload_n dX10_names_442 h0 ?_
            refine r_getr  dX10_names_443 ft_9_97 R2 rfl (hS _ _ rfl) rfl (lb rfl) (hM.1 37 (lb rfl) (lb rfl)) ?_
            refine w_iload_n dX10_names_446 h2 ?_
            refine w_iload dX10_names_447 rfl ?_
            refine w_iconst (v := (-1)) dX10_names_449 (by decide) ?_
            refine r_icmp_neP (t := 457) dX10_names_450 rfl (fun h450 => ?_) (fun h => absurd h h410)
            refine w_aload_n dX10_names_457 h0 ?_
            refine r_getr  dX10_names_458 ft_9_52 R2 rfl (hS _ _ rfl) rfl (lb rfl) (hM.1 18 (lb rfl) (lb rfl)) ?_
            refine w_iload dX10_names_461 (show some (Value.int (oI (defO τ (tT τ 16 k)))) = some (Value.int (nI dd)) by rw [hdo]) ?_
            refine r_iald  dX10_names_463 R2 rfl (hS _ _ rfl) rfl rfl (by omega) (lb rfl) (hsy dd (by omega)).2.2.2.1 ?_
            refine r_iast  dX10_names_464 R2 rfl (hS _ _ rfl) rfl rfl (by omega) (lb rfl) (fun G3 R3 => ?_)
            refine w_iinc dX10_names_465 h2 (nI_1 _) (lb rfl) ?_
            refine w_goto (t := 306) dX10_names_468 rfl ?_
            have ht : tgO τ k = defO τ (tT τ 16 k) := by unfold tgO; rw [if_neg (show ¬ (tT τ 17 k).toInt < -1 by omega), if_neg h327]
            have htn : tgO τ k = some dd := ht.trans hdd
            refine ih (k + 1) _ _ _ (by omega) R3 (by omega) hf.I.I.I (MR_I (MR_I (MR_I hT (by omega)) (by omega)) (by omega)) hL hd2 (fun a ha2 => ?_) h0 h1 rfl kx
            by_cases e : a = k
            · subst e
              refine ⟨(sI_p (by decide)).trans ((sI_p (by decide)).trans ((sI_at.trans (if_pos rfl)).trans ?_)), (sI_p (by decide)).trans ((sI_at.trans (if_pos rfl)).trans ?_), (sI_at.trans (if_pos rfl)).trans ?_⟩
              · unfold aimI; rw [if_neg (by omega), htn]
              · unfold atI; rw [if_neg (by omega), htn]
              · unfold offI; rw [htn]
            · obtain ⟨q1, q2, q3⟩ := ha a (by omega)
              exact ⟨(sI_p (by decide)).trans ((sI_p (by decide)).trans ((sI_at.trans (if_neg e)).trans q1)), (sI_p (by decide)).trans ((sI_at.trans (if_neg e)).trans ((sI_p (by decide)).trans q2)), (sI_at.trans (if_neg e)).trans ((sI_p (by decide)).trans ((sI_p (by decide)).trans q3))⟩
          ·
            refine w_iconst (v := 0) dX10_names_413 (by decide) ?_
            refine w_goto (t := 418) dX10_names_414 rfl ?_
            refine r_iast  dX10_names_418 R rfl (hS _ _ rfl) rfl rfl (by omega) (lb rfl) (fun G4 R4 => ?_)
            refine w_aload_n dX10_names_419 h0 ?_
            refine r_getr  dX10_names_420 ft_9_94 R4 rfl (hS _ _ rfl) rfl (lb rfl) (hM.1 36 (lb rfl) (lb rfl)) ?_
            refine w_iload_n dX10_names_423 h2 ?_
            refine w_iload dX10_names_424 rfl ?_
            refine w_iconst (v := (-1)) dX10_names_426 (by decide) ?_
            refine r_icmp_neP (t := 434) dX10_names_427 rfl (fun h => absurd h410 h) (fun h427 => ?_)
            refine w_iconst (v := (-1)) dX10_names_430 (by decide) ?_
            refine w_goto (t := 441) dX10_names_431 rfl ?_
            refine r_iast  dX10_names_441 R4 rfl (hS _ _ rfl) rfl rfl (by omega) (lb rfl) (fun G5 R5 => ?_)
            refine w_aload_n dX10_names_442 h0 ?_
            refine r_getr  dX10_names_443 ft_9_97 R5 rfl (hS _ _ rfl) rfl (lb rfl) (hM.1 37 (lb rfl) (lb rfl)) ?_
            refine w_iload_n dX10_names_446 h2 ?_
            refine w_iload dX10_names_447 rfl ?_
            refine w_iconst (v := (-1)) dX10_names_449 (by decide) ?_
            refine r_icmp_neP (t := 457) dX10_names_450 rfl (fun h => absurd h410 h) (fun h450 => ?_)
            refine w_iconst (v := 0) dX10_names_453 (by decide) ?_
            refine w_goto (t := 464) dX10_names_454 rfl ?_
            refine r_iast  dX10_names_464 R5 rfl (hS _ _ rfl) rfl rfl (by omega) (lb rfl) (fun G6 R6 => ?_)
            refine w_iinc dX10_names_465 h2 (nI_1 _) (lb rfl) ?_
            refine w_goto (t := 306) dX10_names_468 rfl ?_
            have ht : tgO τ k = defO τ (tT τ 16 k) := by unfold tgO; rw [if_neg (show ¬ (tT τ 17 k).toInt < -1 by omega), if_neg h327]
            have htn : tgO τ k = none := by rw [ht]; exact (oI_none (fun j hj => by have := (defO_lt hj).1; omega)).mp h410
            refine ih (k + 1) _ _ _ (by omega) R6 (by omega) hf.I.I.I (MR_I (MR_I (MR_I hT (by omega)) (by omega)) (by omega)) hL hd2 (fun a ha2 => ?_) h0 h1 rfl kx
            by_cases e : a = k
            · subst e
              refine ⟨(sI_p (by decide)).trans ((sI_p (by decide)).trans ((sI_at.trans (if_pos rfl)).trans ?_)), (sI_p (by decide)).trans ((sI_at.trans (if_pos rfl)).trans ?_), (sI_at.trans (if_pos rfl)).trans ?_⟩
              · unfold aimI; rw [if_neg (by omega), htn]
              · unfold atI; rw [if_neg (by omega), htn]
              · unfold offI; rw [htn]
            · obtain ⟨q1, q2, q3⟩ := ha a (by omega)
              exact ⟨(sI_p (by decide)).trans ((sI_p (by decide)).trans ((sI_at.trans (if_neg e)).trans q1)), (sI_p (by decide)).trans ((sI_at.trans (if_neg e)).trans ((sI_p (by decide)).trans q2)), (sI_at.trans (if_neg e)).trans ((sI_p (by decide)).trans ((sI_p (by decide)).trans q3))⟩
        ·
          refine w_aload_n dX10_names_352 h0 ?_
          refine r_getr  dX10_names_353 ft_9_91 R rfl (hS _ _ rfl) rfl (lb rfl) (hM.1 35 (lb rfl) (lb rfl)) ?_
          refine w_iload_n dX10_names_356 h2 ?_
          refine w_iload_n dX10_names_357 rfl ?_
          refine w_bipush (v := (-10)) dX10_names_358 (by decide) ?_
          refine r_icmp_lei (t := 367) dX10_names_360 rfl (fun h360 => ?_) (fun h360 => ?_)
          ·
            refine w_iconst (v := 3) dX10_names_367 (by decide) ?_
            refine r_iast  dX10_names_368 R rfl (hS _ _ rfl) rfl rfl (by omega) (lb rfl) (fun G7 R7 => ?_)
            refine w_aload_n dX10_names_369 h0 ?_
            refine r_getr  dX10_names_370 ft_9_94 R7 rfl (hS _ _ rfl) rfl (lb rfl) (hM.1 36 (lb rfl) (lb rfl)) ?_
            refine w_iload_n dX10_names_373 h2 ?_
            refine w_iload_n dX10_names_374 rfl ?_
            refine w_bipush (v := (-10)) dX10_names_375 (by decide) ?_
            refine r_icmp_lei (t := 387) dX10_names_377 rfl (fun h377 => ?_) (fun h => by omega)
            refine w_bipush (v := (-10)) dX10_names_387 (by decide) ?_
            refine w_iload_n dX10_names_389 rfl ?_
            refine w_isub dX10_names_390 ?_
            refine r_iast  dX10_names_391 R7 rfl (hS _ _ rfl) rfl rfl (by omega) (lb rfl) (fun G8 R8 => ?_)
            refine w_aload_n dX10_names_392 h0 ?_
            refine r_getr  dX10_names_393 ft_9_97 R8 rfl (hS _ _ rfl) rfl (lb rfl) (hM.1 37 (lb rfl) (lb rfl)) ?_
            refine w_iload_n dX10_names_396 h2 ?_
            refine w_iconst (v := 0) dX10_names_397 (by decide) ?_
            refine r_iast  dX10_names_398 R8 rfl (hS _ _ rfl) rfl rfl (by omega) (lb rfl) (fun G9 R9 => ?_)
            refine w_goto (t := 465) dX10_names_399 rfl ?_
            refine w_iinc dX10_names_465 h2 (nI_1 _) (lb rfl) ?_
            refine w_goto (t := 306) dX10_names_468 rfl ?_
            have ht : tgO τ k = none := by unfold tgO; rw [if_pos (show (tT τ 17 k).toInt < -1 by omega)]
            refine ih (k + 1) _ _ _ (by omega) R9 (by omega) hf.I.I.I (MR_I (MR_I (MR_I hT (by omega)) (by omega)) (by omega)) hL hd2 (fun a ha2 => ?_) h0 h1 rfl kx
            by_cases e : a = k
            · subst e
              refine ⟨(sI_p (by decide)).trans ((sI_p (by decide)).trans ((sI_at.trans (if_pos rfl)).trans ?_)), (sI_p (by decide)).trans ((sI_at.trans (if_pos rfl)).trans ?_), (sI_at.trans (if_pos rfl)).trans ?_⟩
              · unfold aimI; rw [if_pos (by omega), if_neg (by omega)]
              · unfold atI; rw [if_pos (by omega), if_neg (by omega)]
              · unfold offI; rw [ht]
            · obtain ⟨q1, q2, q3⟩ := ha a (by omega)
              exact ⟨(sI_p (by decide)).trans ((sI_p (by decide)).trans ((sI_at.trans (if_neg e)).trans q1)), (sI_p (by decide)).trans ((sI_at.trans (if_neg e)).trans ((sI_p (by decide)).trans q2)), (sI_at.trans (if_neg e)).trans ((sI_p (by decide)).trans ((sI_p (by decide)).trans q3))⟩
          ·
            refine w_iconst (v := 2) dX10_names_363 (by decide) ?_
            refine w_goto (t := 368) dX10_names_364 rfl ?_
            refine r_iast  dX10_names_368 R rfl (hS _ _ rfl) rfl rfl (by omega) (lb rfl) (fun G10 R10 => ?_)
            refine w_aload_n dX10_names_369 h0 ?_
            refine r_getr  dX10_names_370 ft_9_94 R10 rfl (hS _ _ rfl) rfl (lb rfl) (hM.1 36 (lb rfl) (lb rfl)) ?_
            refine w_iload_n dX10_names_373 h2 ?_
            refine w_iload_n dX10_names_374 rfl ?_
            refine w_bipush (v := (-10)) dX10_names_375 (by decide) ?_
            refine r_icmp_lei (t := 387) dX10_names_377 rfl (fun h => by omega) (fun h377 => ?_)
            refine w_bipush (v := (-2)) dX10_names_380 (by decide) ?_
            refine w_iload_n dX10_names_382 rfl ?_
            refine w_isub dX10_names_383 ?_
            refine w_goto (t := 391) dX10_names_384 rfl ?_
            refine r_iast  dX10_names_391 R10 rfl (hS _ _ rfl) rfl rfl (by omega) (lb rfl) (fun G11 R11 => ?_)
            refine w_aload_n dX10_names_392 h0 ?_
            refine r_getr  dX10_names_393 ft_9_97 R11 rfl (hS _ _ rfl) rfl (lb rfl) (hM.1 37 (lb rfl) (lb rfl)) ?_
            refine w_iload_n dX10_names_396 h2 ?_
            refine w_iconst (v := 0) dX10_names_397 (by decide) ?_
            refine r_iast  dX10_names_398 R11 rfl (hS _ _ rfl) rfl rfl (by omega) (lb rfl) (fun G12 R12 => ?_)
            refine w_goto (t := 465) dX10_names_399 rfl ?_
            refine w_iinc dX10_names_465 h2 (nI_1 _) (lb rfl) ?_
            refine w_goto (t := 306) dX10_names_468 rfl ?_
            have ht : tgO τ k = none := by unfold tgO; rw [if_pos (show (tT τ 17 k).toInt < -1 by omega)]
            refine ih (k + 1) _ _ _ (by omega) R12 (by omega) hf.I.I.I (MR_I (MR_I (MR_I hT (by omega)) (by omega)) (by omega)) hL hd2 (fun a ha2 => ?_) h0 h1 rfl kx
            by_cases e : a = k
            · subst e
              refine ⟨(sI_p (by decide)).trans ((sI_p (by decide)).trans ((sI_at.trans (if_pos rfl)).trans ?_)), (sI_p (by decide)).trans ((sI_at.trans (if_pos rfl)).trans ?_), (sI_at.trans (if_pos rfl)).trans ?_⟩
              · unfold aimI; rw [if_pos (by omega), if_pos (by omega)]
              · unfold atI; rw [if_pos (by omega), if_pos (by omega)]
              · unfold offI; rw [ht]
            · obtain ⟨q1, q2, q3⟩ := ha a (by omega)
              exact ⟨(sI_p (by decide)).trans ((sI_p (by decide)).trans ((sI_at.trans (if_neg e)).trans q1)), (sI_p (by decide)).trans ((sI_at.trans (if_neg e)).trans ((sI_p (by decide)).trans q2)), (sI_at.trans (if_neg e)).trans ((sI_p (by decide)).trans ((sI_p (by decide)).trans q3))⟩
      ·
        refine w_iload_n dX10_names_330 h2 ?_
        refine w_goto (t := 345) dX10_names_331 rfl ?_
        refine w_istore dX10_names_345 (lb rfl) ?_
        refine w_iload_n dX10_names_347 rfl ?_
        refine w_iconst (v := (-1)) dX10_names_348 (by decide) ?_
        refine r_icmp_gei (t := 402) dX10_names_349 rfl (fun h349 => ?_) (fun h349 => ?_)
        ·
          refine w_aload_n dX10_names_402 h0 ?_
          refine r_getr  dX10_names_403 ft_9_91 R rfl (hS _ _ rfl) rfl (lb rfl) (hM.1 35 (lb rfl) (lb rfl)) ?_
          refine w_iload_n dX10_names_406 h2 ?_
          refine w_iload dX10_names_407 rfl ?_
          refine w_iconst (v := (-1)) dX10_names_409 (by decide) ?_
          refine r_icmp_neP (t := 417) dX10_names_410 rfl (fun h410 => ?_) (fun h => absurd h (nI_m1 (by omega)))
          have hdd : (some k : Option Nat) = some k := rfl
          refine w_iconst (v := 1) dX10_names_417 (by decide) ?_
          refine r_iast  dX10_names_418 R rfl (hS _ _ rfl) rfl rfl (by omega) (lb rfl) (fun G13 R13 => ?_)
          refine w_aload_n dX10_names_419 h0 ?_
          refine r_getr  dX10_names_420 ft_9_94 R13 rfl (hS _ _ rfl) rfl (lb rfl) (hM.1 36 (lb rfl) (lb rfl)) ?_
          refine w_iload_n dX10_names_423 h2 ?_
          refine w_iload dX10_names_424 rfl ?_
          refine w_iconst (v := (-1)) dX10_names_426 (by decide) ?_
          refine r_icmp_neP (t := 434) dX10_names_427 rfl (fun h427 => ?_) (fun h => absurd h (nI_m1 (by omega)))
          refine w_aload_n dX10_names_434 h0 ?_
          refine r_getr  dX10_names_435 ft_9_49 R13 rfl (hS _ _ rfl) rfl (lb rfl) (hM.1 17 (lb rfl) (lb rfl)) ?_
          refine w_iload dX10_names_438 rfl ?_
          refine r_iald  dX10_names_440 R13 rfl (hS _ _ rfl) rfl rfl (by omega) (lb rfl) (hsy k (by omega)).2.2.1 ?_
          refine r_iast  dX10_names_441 R13 rfl (hS _ _ rfl) rfl rfl (by omega) (lb rfl) (fun G14 R14 => ?_)
          refine w_aload_n dX10_names_442 h0 ?_
          refine r_getr  dX10_names_443 ft_9_97 R14 rfl (hS _ _ rfl) rfl (lb rfl) (hM.1 37 (lb rfl) (lb rfl)) ?_
          refine w_iload_n dX10_names_446 h2 ?_
          refine w_iload dX10_names_447 rfl ?_
          refine w_iconst (v := (-1)) dX10_names_449 (by decide) ?_
          refine r_icmp_neP (t := 457) dX10_names_450 rfl (fun h450 => ?_) (fun h => absurd h (nI_m1 (by omega)))
          refine w_aload_n dX10_names_457 h0 ?_
          refine r_getr  dX10_names_458 ft_9_52 R14 rfl (hS _ _ rfl) rfl (lb rfl) (hM.1 18 (lb rfl) (lb rfl)) ?_
          refine w_iload dX10_names_461 rfl ?_
          refine r_iald  dX10_names_463 R14 rfl (hS _ _ rfl) rfl rfl (by omega) (lb rfl) (hsy k (by omega)).2.2.2.1 ?_
          refine r_iast  dX10_names_464 R14 rfl (hS _ _ rfl) rfl rfl (by omega) (lb rfl) (fun G15 R15 => ?_)
          refine w_iinc dX10_names_465 h2 (nI_1 _) (lb rfl) ?_
          refine w_goto (t := 306) dX10_names_468 rfl ?_
          have ht : tgO τ k = some k := by unfold tgO; rw [if_neg (show ¬ (tT τ 17 k).toInt < -1 by omega), if_pos h327]
          have htn : tgO τ k = some k := ht.trans hdd
          refine ih (k + 1) _ _ _ (by omega) R15 (by omega) hf.I.I.I (MR_I (MR_I (MR_I hT (by omega)) (by omega)) (by omega)) hL hd2 (fun a ha2 => ?_) h0 h1 rfl kx
          by_cases e : a = k
          · subst e
            refine ⟨(sI_p (by decide)).trans ((sI_p (by decide)).trans ((sI_at.trans (if_pos rfl)).trans ?_)), (sI_p (by decide)).trans ((sI_at.trans (if_pos rfl)).trans ?_), (sI_at.trans (if_pos rfl)).trans ?_⟩
            · unfold aimI; rw [if_neg (by omega), htn]
            · unfold atI; rw [if_neg (by omega), htn]
            · unfold offI; rw [htn]
          · obtain ⟨q1, q2, q3⟩ := ha a (by omega)
            exact ⟨(sI_p (by decide)).trans ((sI_p (by decide)).trans ((sI_at.trans (if_neg e)).trans q1)), (sI_p (by decide)).trans ((sI_at.trans (if_neg e)).trans ((sI_p (by decide)).trans q2)), (sI_at.trans (if_neg e)).trans ((sI_p (by decide)).trans ((sI_p (by decide)).trans q3))⟩
        ·
          refine w_aload_n dX10_names_352 h0 ?_
          refine r_getr  dX10_names_353 ft_9_91 R rfl (hS _ _ rfl) rfl (lb rfl) (hM.1 35 (lb rfl) (lb rfl)) ?_
          refine w_iload_n dX10_names_356 h2 ?_
          refine w_iload_n dX10_names_357 rfl ?_
          refine w_bipush (v := (-10)) dX10_names_358 (by decide) ?_
          refine r_icmp_lei (t := 367) dX10_names_360 rfl (fun h360 => ?_) (fun h360 => ?_)
          ·
            refine w_iconst (v := 3) dX10_names_367 (by decide) ?_
            refine r_iast  dX10_names_368 R rfl (hS _ _ rfl) rfl rfl (by omega) (lb rfl) (fun G16 R16 => ?_)
            refine w_aload_n dX10_names_369 h0 ?_
            refine r_getr  dX10_names_370 ft_9_94 R16 rfl (hS _ _ rfl) rfl (lb rfl) (hM.1 36 (lb rfl) (lb rfl)) ?_
            refine w_iload_n dX10_names_373 h2 ?_
            refine w_iload_n dX10_names_374 rfl ?_
            refine w_bipush (v := (-10)) dX10_names_375 (by decide) ?_
            refine r_icmp_lei (t := 387) dX10_names_377 rfl (fun h377 => ?_) (fun h => by omega)
            refine w_bipush (v := (-10)) dX10_names_387 (by decide) ?_
            refine w_iload_n dX10_names_389 rfl ?_
            refine w_isub dX10_names_390 ?_
            refine r_iast  dX10_names_391 R16 rfl (hS _ _ rfl) rfl rfl (by omega) (lb rfl) (fun G17 R17 => ?_)
            refine w_aload_n dX10_names_392 h0 ?_
            refine r_getr  dX10_names_393 ft_9_97 R17 rfl (hS _ _ rfl) rfl (lb rfl) (hM.1 37 (lb rfl) (lb rfl)) ?_
            refine w_iload_n dX10_names_396 h2 ?_
            refine w_iconst (v := 0) dX10_names_397 (by decide) ?_
            refine r_iast  dX10_names_398 R17 rfl (hS _ _ rfl) rfl rfl (by omega) (lb rfl) (fun G18 R18 => ?_)
            refine w_goto (t := 465) dX10_names_399 rfl ?_
            refine w_iinc dX10_names_465 h2 (nI_1 _) (lb rfl) ?_
            refine w_goto (t := 306) dX10_names_468 rfl ?_
            have ht : tgO τ k = none := by unfold tgO; rw [if_pos (show (tT τ 17 k).toInt < -1 by omega)]
            refine ih (k + 1) _ _ _ (by omega) R18 (by omega) hf.I.I.I (MR_I (MR_I (MR_I hT (by omega)) (by omega)) (by omega)) hL hd2 (fun a ha2 => ?_) h0 h1 rfl kx
            by_cases e : a = k
            · subst e
              refine ⟨(sI_p (by decide)).trans ((sI_p (by decide)).trans ((sI_at.trans (if_pos rfl)).trans ?_)), (sI_p (by decide)).trans ((sI_at.trans (if_pos rfl)).trans ?_), (sI_at.trans (if_pos rfl)).trans ?_⟩
              · unfold aimI; rw [if_pos (by omega), if_neg (by omega)]
              · unfold atI; rw [if_pos (by omega), if_neg (by omega)]
              · unfold offI; rw [ht]
            · obtain ⟨q1, q2, q3⟩ := ha a (by omega)
              exact ⟨(sI_p (by decide)).trans ((sI_p (by decide)).trans ((sI_at.trans (if_neg e)).trans q1)), (sI_p (by decide)).trans ((sI_at.trans (if_neg e)).trans ((sI_p (by decide)).trans q2)), (sI_at.trans (if_neg e)).trans ((sI_p (by decide)).trans ((sI_p (by decide)).trans q3))⟩
          ·
            refine w_iconst (v := 2) dX10_names_363 (by decide) ?_
            refine w_goto (t := 368) dX10_names_364 rfl ?_
            refine r_iast  dX10_names_368 R rfl (hS _ _ rfl) rfl rfl (by omega) (lb rfl) (fun G19 R19 => ?_)
            refine w_aload_n dX10_names_369 h0 ?_
            refine r_getr  dX10_names_370 ft_9_94 R19 rfl (hS _ _ rfl) rfl (lb rfl) (hM.1 36 (lb rfl) (lb rfl)) ?_
            refine w_iload_n dX10_names_373 h2 ?_
            refine w_iload_n dX10_names_374 rfl ?_
            refine w_bipush (v := (-10)) dX10_names_375 (by decide) ?_
            refine r_icmp_lei (t := 387) dX10_names_377 rfl (fun h => by omega) (fun h377 => ?_)
            refine w_bipush (v := (-2)) dX10_names_380 (by decide) ?_
            refine w_iload_n dX10_names_382 rfl ?_
            refine w_isub dX10_names_383 ?_
            refine w_goto (t := 391) dX10_names_384 rfl ?_
            refine r_iast  dX10_names_391 R19 rfl (hS _ _ rfl) rfl rfl (by omega) (lb rfl) (fun G20 R20 => ?_)
            refine w_aload_n dX10_names_392 h0 ?_
            refine r_getr  dX10_names_393 ft_9_97 R20 rfl (hS _ _ rfl) rfl (lb rfl) (hM.1 37 (lb rfl) (lb rfl)) ?_
            refine w_iload_n dX10_names_396 h2 ?_
            refine w_iconst (v := 0) dX10_names_397 (by decide) ?_
            refine r_iast  dX10_names_398 R20 rfl (hS _ _ rfl) rfl rfl (by omega) (lb rfl) (fun G21 R21 => ?_)
            refine w_goto (t := 465) dX10_names_399 rfl ?_
            refine w_iinc dX10_names_465 h2 (nI_1 _) (lb rfl) ?_
            refine w_goto (t := 306) dX10_names_468 rfl ?_
            have ht : tgO τ k = none := by unfold tgO; rw [if_pos (show (tT τ 17 k).toInt < -1 by omega)]
            refine ih (k + 1) _ _ _ (by omega) R21 (by omega) hf.I.I.I (MR_I (MR_I (MR_I hT (by omega)) (by omega)) (by omega)) hL hd2 (fun a ha2 => ?_) h0 h1 rfl kx
            by_cases e : a = k
            · subst e
              refine ⟨(sI_p (by decide)).trans ((sI_p (by decide)).trans ((sI_at.trans (if_pos rfl)).trans ?_)), (sI_p (by decide)).trans ((sI_at.trans (if_pos rfl)).trans ?_), (sI_at.trans (if_pos rfl)).trans ?_⟩
              · unfold aimI; rw [if_pos (by omega), if_pos (by omega)]
              · unfold atI; rw [if_pos (by omega), if_pos (by omega)]
              · unfold offI; rw [ht]
            · obtain ⟨q1, q2, q3⟩ := ha a (by omega)
              exact ⟨(sI_p (by decide)).trans ((sI_p (by decide)).trans ((sI_at.trans (if_neg e)).trans q1)), (sI_p (by decide)).trans ((sI_at.trans (if_neg e)).trans ((sI_p (by decide)).trans q2)), (sI_at.trans (if_neg e)).trans ((sI_p (by decide)).trans ((sI_p (by decide)).trans q3))⟩
theorem c10_names (R : rx_R b0 O z1 z2 s G) (hS : rx_in s) {τ : tx_T} (hV : TV τ) (hT : MR s τ) (q : ∀ (s' : rx_S) (G : mx_H), rx_R b0 O z1 z2 s' G → mfk s s' → MR s' τ → NL s' τ → ND s' τ 64 → NA s' τ (tN τ 2) → Q (.inl (some (.int (oI (secO τ))))) G) : mx_W (gt_P b0 mi E) mX10_names 0 (mx_en 0 [.ref (rA s 0 0)]) [] G Q := by
  refine w_iconst (v := 0) dX10_names_0 (by decide) ?_
  refine w_istore_n dX10_names_1 (lb rfl) ?_
  refine c10_names_i hS hV (tN τ 1 + 1) 0 _ _ _ (by omega) R (by omega) (mfk.rf s) hT (fun a ha => absurd ha (Nat.not_lt_zero _)) rfl rfl (fun L s1 G R hf hT hL h0 => ?_)
  refine w_iconst (v := (-1)) dX10_names_99 (by decide) ?_
  refine w_istore_n dX10_names_100 (lb rfl) ?_
  refine w_iconst (v := 0) dX10_names_101 (by decide) ?_
  refine w_istore_n dX10_names_102 (lb rfl) ?_
  refine c10_names_n hS hV 65 0 (-1) _ _ _ (by omega) R (by omega) hf hT hL (fun a ha => absurd ha (Nat.not_lt_zero _)) (Or.inl ⟨rfl, fun j e => ?_⟩) h0 rfl rfl (fun L s1 G R hf hT hL hd h0 h1 => ?_)
  · have := (hV.2.2.1 j e.1).2.1
    rcases e.2.2 with h | h <;> omega
  refine w_iconst (v := 0) dX10_names_304 (by decide) ?_
  refine w_istore_n dX10_names_305 (lb rfl) ?_
  exact c10_names_a hS hV (tN τ 2 + 1) 0 _ _ _ (by omega) R (by omega) hf hT hL hd (fun a ha => absurd ha (Nat.not_lt_zero _)) h0 h1 rfl q
end
