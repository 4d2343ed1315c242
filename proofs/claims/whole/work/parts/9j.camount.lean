/-! ===== The class's values and amounts ===== -/
theorem off_r {τ : tx_T} (hV : TV τ) {y : Nat} (hy : y < tN τ 2) : 0 ≤ (offI τ y).toInt ∧ (offI τ y).toInt ≤ 20000 := by
  unfold offI
  cases e : tgO τ y with
  | none => exact ⟨show (0 : Int) ≤ (0 : Int32).toInt by decide, show (0 : Int32).toInt ≤ 20000 by decide⟩
  | some d => exact (hV.2.2.1 d (tgO_lt hy e)).2.2.2.1
theorem tyR_2 {t : Nat} (h : t < 5) : tyR t = 0 ↔ ¬ (nI t = 2 ∨ nI t = 3) := by
  rcases (show t = 0 ∨ t = 1 ∨ t = 2 ∨ t = 3 ∨ t = 4 by omega) with rfl | rfl | rfl | rfl | rfl <;> decide
theorem fit_t {t : Nat} (h : t < 5) (v : Int) : ((tyL t).toInt ≤ v ∧ v ≤ (tyM t).toInt) ↔ fitP (nI t) v := by
  rcases (show t = 0 ∨ t = 1 ∨ t = 2 ∨ t = 3 ∨ t = 4 by omega) with rfl | rfl | rfl | rfl | rfl
  · show ((0 : Int64).toInt ≤ v ∧ v ≤ (4294967295 : Int64).toInt) ↔ _
    rw [show (0 : Int64).toInt = 0 from rfl, show (4294967295 : Int64).toInt = 4294967295 from rfl]
    unfold fitP; rw [if_pos (by decide)]
  · show ((0 : Int64).toInt ≤ v ∧ v ≤ (65535 : Int64).toInt) ↔ _
    rw [show (0 : Int64).toInt = 0 from rfl, show (65535 : Int64).toInt = 65535 from rfl]
    unfold fitP; rw [if_neg (by decide), if_pos (by decide)]
  · show ((-2147483648 : Int64).toInt ≤ v ∧ v ≤ (2147483647 : Int64).toInt) ↔ _
    rw [show (-2147483648 : Int64).toInt = -2147483648 from rfl, show (2147483647 : Int64).toInt = 2147483647 from rfl]
    unfold fitP; rw [if_neg (by decide), if_neg (by decide), if_pos (by decide)]
  · show ((-32768 : Int64).toInt ≤ v ∧ v ≤ (32767 : Int64).toInt) ↔ _
    rw [show (-32768 : Int64).toInt = -32768 from rfl, show (32767 : Int64).toInt = 32767 from rfl]
    unfold fitP; rw [if_neg (by decide), if_neg (by decide), if_neg (by decide), if_pos (by decide)]
  · show ((-128 : Int64).toInt ≤ v ∧ v ≤ (255 : Int64).toInt) ↔ _
    rw [show (-128 : Int64).toInt = -128 from rfl, show (255 : Int64).toInt = 255 from rfl]
    unfold fitP; rw [if_neg (by decide), if_neg (by decide), if_neg (by decide), if_neg (by decide)]
theorem vaN_le {τ : tx_T} (hV : TV τ) {w : Bool} {V : List (Nat × Nat)} (hv : ∀ x, nvN V x ≤ 200) {y : Nat} (hy : y < tN τ 2) : vaN τ w V y < 2 ^ 31 := by
  unfold vaN
  split
  · omega
  · split
    · rename_i h1
      have := poN_le hV (w := w) hv (at_lt hV hy h1)
      have h2 := off_r hV hy
      have := clI h2.1
      omega
    · split
      · exact (lo_lt hV (w := w) hv (Nat.le_refl _)).2
      · cases e : loN τ w V (atI τ y) (tN τ 1) with
        | none => show (0 : Nat) < 2 ^ 31; omega
        | some l => exact (lo_lt hV (w := w) hv (Nat.le_refl _)).1 l e
section
variable {b0 mi z1 z2 : Nat} {E : Nat → Nat} {O : Nat → Option mx_C} {s : rx_S} {G : mx_H} {Q : mx_O → mx_H → Prop}
theorem c3_tv (R : rx_R b0 O z1 z2 s G) (hS : rx_in s) {τ : tx_T} (hT : CT E s τ) (hV : TV τ) {w : Bool} (hF : FD E s τ w) {V : List (Nat × Nat)} (hvn : ∀ x, nvN V x ≤ 200) (hP : PC s τ w V) (hES : ES s τ w V) {y : Nat} (hy : y < tN τ 2) (hk : aimI τ y = 1 → kin (kR τ) (cl (atI τ y)) = true) (q : Q (.inl (some (.long (lN (vaN τ w V y))))) G) : mx_W (gt_P b0 mi E) mX3_targetValue 0 (mx_en 0 [.ref (rA s 7 0), .ref (rA s 24 y)]) [] G Q := by
  have hV0 := hV.1
  have nk := hF.1.1.2.2 y hy
  have hof := off_r hV hy
  have hofc := clI hof.1
  rcases aim_4 hV hy with ⟨a1, a2, a3, a4, a5, a6, a7⟩ | ⟨a1, a2, a3, a4, a5, a6, a7⟩ | ⟨a1, a2, a3, a4, a5, a6, a7, a8, a9⟩ | ⟨a1, a2, a3, a4, a5, a6, a7, a8, a9⟩
  ·
    refine w_aload_n dX3_targetValue_0 rfl ?_
    refine r_geti  dX3_targetValue_1 ft_3_88 R rfl (cT_Yu hT hy) rfl (lb rfl) ((cT_Y hT hy 5 (lb rfl)).trans (congrArg (fun q => Sum.inl (Value.int q)) a2)) ?_
    refine r_if_lti (t := 29) dX3_targetValue_4 rfl (fun h4 => ?_) (fun h => absurd (show (-1 : Int32).toInt < 0 by decide) (by omega))
    refine w_aload_n dX3_targetValue_29 rfl ?_
    refine r_geti  dX3_targetValue_30 ft_3_93 R rfl (cT_Yu hT hy) rfl (lb rfl) ((cT_Y hT hy 6 (lb rfl)).trans (congrArg (fun q => Sum.inl (Value.int q)) a3)) ?_
    refine r_if_lti (t := 58) dX3_targetValue_33 rfl (fun h33 => ?_) (fun h => absurd (show (-1 : Int32).toInt < 0 by decide) (by omega))
    refine w_aload_n dX3_targetValue_58 rfl ?_
    refine r_geti  dX3_targetValue_59 ft_3_96 R rfl (cT_Yu hT hy) rfl (lb rfl) (nk.1.trans (congrArg oV a5)) ?_
    refine r_nnF (t := 69) dX3_targetValue_62 rfl ?_
    refine w_lconst (v := 0) dX3_targetValue_65 (by decide) ?_
    refine w_goto (t := 82) dX3_targetValue_66 rfl ?_
    refine w_lret dX3_targetValue_82 rfl ?_
    rw [show vaN τ w V y = 0 by unfold vaN; rw [if_pos a1]] at q; exact q
  ·
    refine w_aload_n dX3_targetValue_0 rfl ?_
    refine r_geti  dX3_targetValue_1 ft_3_88 R rfl (cT_Yu hT hy) rfl (lb rfl) ((cT_Y hT hy 5 (lb rfl)).trans (congrArg (fun q => Sum.inl (Value.int q)) a2)) ?_
    refine r_if_lti (t := 29) dX3_targetValue_4 rfl (fun h4 => ?_) (fun h => absurd (show (-1 : Int32).toInt < 0 by decide) (by omega))
    refine w_aload_n dX3_targetValue_29 rfl ?_
    refine r_geti  dX3_targetValue_30 ft_3_93 R rfl (cT_Yu hT hy) rfl (lb rfl) ((cT_Y hT hy 6 (lb rfl)).trans (congrArg (fun q => Sum.inl (Value.int q)) a3)) ?_
    refine r_if_lti (t := 58) dX3_targetValue_33 rfl (fun h33 => ?_) (fun h => absurd (show (-1 : Int32).toInt < 0 by decide) (by omega))
    refine w_aload_n dX3_targetValue_58 rfl ?_
    refine r_getr  dX3_targetValue_59 ft_3_96 R rfl (cT_Yu hT hy) rfl (lb rfl) (nk.1.trans (congrArg oV a5)) ?_
    refine r_nnT (t := 69) dX3_targetValue_62 rfl ?_
    refine w_aload_n dX3_targetValue_69 rfl ?_
    refine r_getr  dX3_targetValue_70 ft_3_96 R rfl (cT_Yu hT hy) rfl (lb rfl) (nk.1.trans (congrArg oV a5)) ?_
    refine r_inv0  dX3_targetValue_73 mt_3_99 R rfl (cT_Su hT a6) rfl (lb rfl) (lb rfl) (lb rfl) (lb rfl) rfl (c5_poN R hS hT hV hF hP a6 (hk a1) ⟨_, rfl, ?_⟩)
    refine w_aload_n dX3_targetValue_76 rfl ?_
    refine r_geti  dX3_targetValue_77 ft_3_103 R rfl (cT_Yu hT hy) rfl (lb rfl) (nk.2.trans (congrArg (fun q => Sum.inl (Value.int q)) (nIcl hof.1).symm)) ?_
    refine w_i2l dX3_targetValue_80 ?_
    rw [nI_l (by omega)]
    refine w_ladd dX3_targetValue_81 ?_
    rw [lN_add]
    refine w_lret dX3_targetValue_82 rfl ?_
    rw [show vaN τ w V y = poN τ w V (cl (atI τ y)) + cl (offI τ y) by unfold vaN; rw [if_neg (by rw [a1]; decide), if_pos a1]] at q; exact q
  ·
    obtain ⟨g, hg, hge⟩ := nI_ofI a8
    have hg8 : g < 8 := by rw [hge, nI_toInt hg] at a9; omega
    refine w_aload_n dX3_targetValue_0 rfl ?_
    refine r_geti  dX3_targetValue_1 ft_3_88 R rfl (cT_Yu hT hy) rfl (lb rfl) ((cT_Y hT hy 5 (lb rfl)).trans (congrArg (fun q => Sum.inl (Value.int q)) (a2.trans hge))) ?_
    refine r_if_lti (t := 29) dX3_targetValue_4 rfl (fun h => by rw [nI_toInt hg] at h; omega) (fun h4 => ?_)
    refine w_aload_n dX3_targetValue_7 rfl ?_
    refine r_geti  dX3_targetValue_8 ft_3_88 R rfl (cT_Yu hT hy) rfl (lb rfl) ((cT_Y hT hy 5 (lb rfl)).trans (congrArg (fun q => Sum.inl (Value.int q)) (a2.trans hge))) ?_
    refine w_aload_n dX3_targetValue_11 rfl ?_
    refine r_getr  dX3_targetValue_12 ft_3_22 R rfl (hS _ _ rfl) rfl (lb rfl) (cT_s hT 7 3 rfl) ?_
    refine r_alen  dX3_targetValue_15 R rfl (hS _ _ rfl) rfl rfl (lb rfl) ?_
    refine r_icmp_gen (t := 29) dX3_targetValue_16 rfl (by omega) (by omega) (fun h => by omega) (fun h16 => ?_)
    refine w_aload_n dX3_targetValue_19 rfl ?_
    refine r_getr  dX3_targetValue_20 ft_3_22 R rfl (hS _ _ rfl) rfl (lb rfl) (cT_s hT 7 3 rfl) ?_
    refine w_aload_n dX3_targetValue_23 rfl ?_
    refine r_geti  dX3_targetValue_24 ft_3_88 R rfl (cT_Yu hT hy) rfl (lb rfl) ((cT_Y hT hy 5 (lb rfl)).trans (congrArg (fun q => Sum.inl (Value.int q)) (a2.trans hge))) ?_
    refine r_lald  dX3_targetValue_27 R rfl (hS _ _ rfl) rfl rfl hg8 (lb rfl) (hES g hg8).1 ?_
    refine w_lret dX3_targetValue_28 rfl ?_
    rw [show vaN τ w V y = (loN τ w V (atI τ y) (tN τ 1)).getD 0 by unfold vaN; rw [if_neg (by rw [a1]; decide), if_neg (by rw [a1]; decide), if_neg (by rw [a1]; decide)], hge] at q; exact q
  ·
    obtain ⟨g, hg, hge⟩ := nI_ofI a8
    have hg8 : g < 8 := by rw [hge, nI_toInt hg] at a9; omega
    refine w_aload_n dX3_targetValue_0 rfl ?_
    refine r_geti  dX3_targetValue_1 ft_3_88 R rfl (cT_Yu hT hy) rfl (lb rfl) ((cT_Y hT hy 5 (lb rfl)).trans (congrArg (fun q => Sum.inl (Value.int q)) a2)) ?_
    refine r_if_lti (t := 29) dX3_targetValue_4 rfl (fun h4 => ?_) (fun h => absurd (show (-1 : Int32).toInt < 0 by decide) (by omega))
    refine w_aload_n dX3_targetValue_29 rfl ?_
    refine r_geti  dX3_targetValue_30 ft_3_93 R rfl (cT_Yu hT hy) rfl (lb rfl) ((cT_Y hT hy 6 (lb rfl)).trans (congrArg (fun q => Sum.inl (Value.int q)) (a3.trans hge))) ?_
    refine r_if_lti (t := 58) dX3_targetValue_33 rfl (fun h => by rw [nI_toInt hg] at h; omega) (fun h33 => ?_)
    refine w_aload_n dX3_targetValue_36 rfl ?_
    refine r_geti  dX3_targetValue_37 ft_3_93 R rfl (cT_Yu hT hy) rfl (lb rfl) ((cT_Y hT hy 6 (lb rfl)).trans (congrArg (fun q => Sum.inl (Value.int q)) (a3.trans hge))) ?_
    refine w_aload_n dX3_targetValue_40 rfl ?_
    refine r_getr  dX3_targetValue_41 ft_3_25 R rfl (hS _ _ rfl) rfl (lb rfl) (cT_s hT 7 4 rfl) ?_
    refine r_alen  dX3_targetValue_44 R rfl (hS _ _ rfl) rfl rfl (lb rfl) ?_
    refine r_icmp_gen (t := 58) dX3_targetValue_45 rfl (by omega) (by omega) (fun h => by omega) (fun h45 => ?_)
    refine w_aload_n dX3_targetValue_48 rfl ?_
    refine r_getr  dX3_targetValue_49 ft_3_25 R rfl (hS _ _ rfl) rfl (lb rfl) (cT_s hT 7 4 rfl) ?_
    refine w_aload_n dX3_targetValue_52 rfl ?_
    refine r_geti  dX3_targetValue_53 ft_3_93 R rfl (cT_Yu hT hy) rfl (lb rfl) ((cT_Y hT hy 6 (lb rfl)).trans (congrArg (fun q => Sum.inl (Value.int q)) (a3.trans hge))) ?_
    refine r_lald  dX3_targetValue_56 R rfl (hS _ _ rfl) rfl rfl hg8 (lb rfl) (hES g hg8).2 ?_
    refine w_lret dX3_targetValue_57 rfl ?_
    rw [show vaN τ w V y = hiN τ w V (atI τ y) (tN τ 1) by unfold vaN; rw [if_neg (by rw [a1]; decide), if_neg (by rw [a1]; decide), if_pos a1], hge] at q; exact q
theorem c3_aw0 (R : rx_R b0 O z1 z2 s G) (hS : rx_in s) {τ : tx_T} (hT : CT E s τ) (hV : TV τ) {w : Bool} (hF : FD E s τ w) (hE : WE b0 O E) {V : List (Nat × Nat)} (hvn : ∀ x, nvN V x ≤ 200) (hP : PC s τ w V) (hES : ES s τ w V) {k : Nat} (hk3 : k < tN τ 3) (h5 : rX s 25 k 5 = .inl (.int (-1))) (hpl : plB τ w (cl (tT τ 21 k)) = true) (hk : aimI τ (cl (tT τ 24 k)) = 1 → kin (kR τ) (cl (atI τ (cl (tT τ 24 k)))) = true) (q : Q (.inl (some (.long (Int64.ofInt (if tT τ 23 k = 2 ∨ tT τ 23 k = 3 then vvI τ w V k - ((plN τ w V (cl (tT τ 21 k)) : Int) + (tT τ 22 k).toInt) else vvI τ w V k))))) G) : mx_W (gt_P b0 mi E) mX3_amountWritten 0 (mx_en 0 [.ref (rA s 7 0), .ref (rA s 25 k)]) [] G Q := by
  have hV0 := hV.1
  have rk := hV.2.2.2.1 k hk3
  have cx := clI rk.1.1
  have cy := clI rk.2.2.2.1.1
  have ct := clI rk.2.2.1.1
  have hx : cl (tT τ 21 k) < tN τ 1 := by omega
  have hy : cl (tT τ 24 k) < tN τ 2 := by omega
  have ht5 : cl (tT τ 23 k) < 5 := by omega
  have etk : nI (cl (tT τ 23 k)) = tT τ 23 k := nIcl rk.2.2.1.1
  refine w_aload_n dX3_amountWritten_0 rfl ?_
  refine r_geti  dX3_amountWritten_1 ft_3_133 R rfl (cT_Ru hT hk3) rfl (lb rfl) h5 ?_
  refine w_iconst (v := (-1)) dX3_amountWritten_4 (by decide) ?_
  refine w_icmp_eq (t := 25) dX3_amountWritten_5 rfl (fun h5 => ?_) (fun h => absurd rfl h)
  refine w_aload_n dX3_amountWritten_25 rfl ?_
  refine r_geti  dX3_amountWritten_26 ft_3_74 R rfl (cT_Ru hT hk3) rfl (lb rfl) (cT_R hT hk3 2 (lb rfl)) ?_
  refine w_getE dX3_amountWritten_29 ((et_3_218 _).trans (ev_R hE.2.2 ht5)) ?_
  refine w_if_eq (t := 42) dX3_amountWritten_32 rfl (fun h32 => ?_) (fun h32 => ?_)
  ·
    refine w_lconst (v := 0) dX3_amountWritten_42 (by decide) ?_
    refine w_lstore_n dX3_amountWritten_43 (lb rfl) rfl ?_
    refine w_aload_n dX3_amountWritten_44 rfl ?_
    refine w_aload_n dX3_amountWritten_45 rfl ?_
    refine r_getr  dX3_amountWritten_46 ft_3_207 R rfl (cT_Ru hT hk3) rfl (lb rfl) (cT_R hT hk3 3 (lb rfl)) ?_
    refine r_inv1  dX3_amountWritten_49 mt_3_222 R rfl (hS _ _ rfl) rfl (lb rfl) (lb rfl) (lb rfl) (lb rfl) rfl (c3_tv R hS hT hV hF hvn hP hES hy hk ⟨_, rfl, ?_⟩)
    refine w_aload_n dX3_amountWritten_52 rfl ?_
    refine r_geti  dX3_amountWritten_53 ft_3_204 R rfl (cT_Ru hT hk3) rfl (lb rfl) (cT_R hT hk3 4 (lb rfl)) ?_
    refine w_i2l dX3_amountWritten_56 ?_
    refine w_ladd dX3_amountWritten_57 ?_
    refine w_lload_n dX3_amountWritten_58 rfl ?_
    refine w_lsub dX3_amountWritten_59 ?_
    refine w_lret dX3_amountWritten_60 rfl ?_
    rw [if_neg (by rw [← etk]; exact (tyR_2 ht5).mp h32)] at q
    unfold vvI at q
    rw [lN_ofI, i64_ofI, show (0 : Int64) = Int64.ofInt 0 from rfl, ← Int64.ofInt_add, ← Int64.ofInt_sub, Int.sub_zero]; exact q
  ·
    refine w_aload_n dX3_amountWritten_35 rfl ?_
    refine r_inv0  dX3_amountWritten_36 mt_3_215 R rfl (cT_Ru hT hk3) rfl (lb rfl) (lb rfl) (lb rfl) (lb rfl) rfl (c4_own R (cT_Ru hT hk3) (cT_Su hT hx) (cT_R hT hk3 0 (lb rfl)) (cT_R hT hk3 1 (lb rfl)) (hP _ hx hpl) ⟨_, rfl, ?_⟩)
    refine w_goto (t := 43) dX3_amountWritten_39 rfl ?_
    refine w_lstore_n dX3_amountWritten_43 (lb rfl) rfl ?_
    refine w_aload_n dX3_amountWritten_44 rfl ?_
    refine w_aload_n dX3_amountWritten_45 rfl ?_
    refine r_getr  dX3_amountWritten_46 ft_3_207 R rfl (cT_Ru hT hk3) rfl (lb rfl) (cT_R hT hk3 3 (lb rfl)) ?_
    refine r_inv1  dX3_amountWritten_49 mt_3_222 R rfl (hS _ _ rfl) rfl (lb rfl) (lb rfl) (lb rfl) (lb rfl) rfl (c3_tv R hS hT hV hF hvn hP hES hy hk ⟨_, rfl, ?_⟩)
    refine w_aload_n dX3_amountWritten_52 rfl ?_
    refine r_geti  dX3_amountWritten_53 ft_3_204 R rfl (cT_Ru hT hk3) rfl (lb rfl) (cT_R hT hk3 4 (lb rfl)) ?_
    refine w_i2l dX3_amountWritten_56 ?_
    refine w_ladd dX3_amountWritten_57 ?_
    refine w_lload_n dX3_amountWritten_58 rfl ?_
    refine w_lsub dX3_amountWritten_59 ?_
    refine w_lret dX3_amountWritten_60 rfl ?_
    rw [if_pos (by rw [← etk]; exact Classical.not_not.mp (fun e => h32 ((tyR_2 ht5).mpr e)))] at q
    unfold vvI at q
    rw [lN_ofI, lN_ofI, i64_ofI, i64_ofI, ← Int64.ofInt_add, ← Int64.ofInt_add, ← Int64.ofInt_sub]; exact q
theorem c3_aw1 (R : rx_R b0 O z1 z2 s G) (hS : rx_in s) {τ : tx_T} (hT : CT E s τ) (hV : TV τ) {w : Bool} (hF : FD E s τ w) (hE : WE b0 O E) {S : vS} (hvi : VI τ w S) (hv : VC s τ S) (hP : PC s τ w S.1) {k i : Nat} (hk3 : k < tN τ 3) (hi : S.2 k = some i) (q : Q (.inl (some (.long (Int64.ofInt (wrI τ w S k))))) G) : mx_W (gt_P b0 mi E) mX3_amountWritten 0 (mx_en 0 [.ref (rA s 7 0), .ref (rA s 25 k)]) [] G Q := by
  have hV0 := hV.1
  have rk := hV.2.2.2.1 k hk3
  have cx := clI rk.1.1
  have cy := clI rk.2.2.2.1.1
  have ct := clI rk.2.2.1.1
  have hx : cl (tT τ 21 k) < tN τ 1 := by omega
  have hy : cl (tT τ 24 k) < tN τ 2 := by omega
  have ht5 : cl (tT τ 23 k) < 5 := by omega
  have etk : nI (cl (tT τ 23 k)) = tT τ 23 k := nIcl rk.2.2.1.1
  have hvt := hvi.2.2.2 k i hi
  have hil := hvi.1.2.1 k i hi
  have hln := vV_len hvi.1
  have hcn : (S.1.take i).countP (fun e => Nat.beq e.1 (cl (tT τ 21 k))) ≤ S.1.length := Nat.le_trans List.countP_le_length (by rw [List.length_take]; omega)
  have hv5 : rX s 25 k 5 = .inl (.int (nI ((S.1.take i).countP (fun e => Nat.beq e.1 (cl (tT τ 21 k)))))) := (hv.2.1 k hk3).trans (by unfold vnI; rw [hi])
  have hpb := plN_le hV (w := w) (VI_nv hvi hV) hx
  have hzr := (hV.2.1 _ hx).2.2.1
  have hzc := clI hzr.1
  have hx3 : rX s 20 (cl (tT τ 21 k)) 3 = .inl (.int (nI (cl (tT τ 5 (cl (tT τ 21 k)))))) := (cT_S hT hx 3 rfl).trans (congrArg (fun q => Sum.inl (Value.int q)) (nIcl hzr.1).symm)
  refine w_aload_n dX3_amountWritten_0 rfl ?_
  refine r_geti  dX3_amountWritten_1 ft_3_133 R rfl (cT_Ru hT hk3) rfl (lb rfl) hv5 ?_
  refine w_iconst (v := (-1)) dX3_amountWritten_4 (by decide) ?_
  refine w_icmp_eq (t := 25) dX3_amountWritten_5 rfl (fun h => absurd h (nI_m1 (by omega))) (fun h5 => ?_)
  refine w_aload_n dX3_amountWritten_8 rfl ?_
  refine r_getr  dX3_amountWritten_9 ft_3_64 R rfl (cT_Ru hT hk3) rfl (lb rfl) (cT_R hT hk3 0 (lb rfl)) ?_
  refine w_aload_n dX3_amountWritten_12 rfl ?_
  refine r_geti  dX3_amountWritten_13 ft_3_133 R rfl (cT_Ru hT hk3) rfl (lb rfl) hv5 ?_
  refine r_inv1  dX3_amountWritten_16 mt_3_117 R rfl (cT_Su hT hx) rfl (lb rfl) (lb rfl) (lb rfl) (lb rfl) rfl (c5_pvN (p := plN τ w S.1 (cl (tT τ 21 k))) (z := cl (tT τ 5 (cl (tT τ 21 k)))) R (cT_Su hT hx) (hP _ hx hvt.2) hx3 (by omega) (by omega) (by omega) ⟨_, rfl, ?_⟩)
  refine w_aload_n dX3_amountWritten_19 rfl ?_
  refine r_inv0  dX3_amountWritten_20 mt_3_215 R rfl (cT_Ru hT hk3) rfl (lb rfl) (lb rfl) (lb rfl) (lb rfl) rfl (c4_own R (cT_Ru hT hk3) (cT_Su hT hx) (cT_R hT hk3 0 (lb rfl)) (cT_R hT hk3 1 (lb rfl)) (hP _ hx hvt.2) ⟨_, rfl, ?_⟩)
  refine w_lsub dX3_amountWritten_23 ?_
  refine w_lret dX3_amountWritten_24 rfl ?_
  unfold wrI toI at q
  rw [if_pos (Or.inr hvt.1), hi] at q
  rw [lN_ofI, lN_ofI, i64_ofI, ← Int64.ofInt_add, ← Int64.ofInt_sub]; exact q
theorem c3_aw (R : rx_R b0 O z1 z2 s G) (hS : rx_in s) {τ : tx_T} (hT : CT E s τ) (hV : TV τ) {w : Bool} (hF : FD E s τ w) (hE : WE b0 O E) {S : vS} (hvi : VI τ w S) (hv : VC s τ S) (hP : PC s τ w S.1) (hES : ES s τ w S.1) {k : Nat} (hk3 : k < tN τ 3) (hpl : plB τ w (cl (tT τ 21 k)) = true) (hk : aimI τ (cl (tT τ 24 k)) = 1 → kin (kR τ) (cl (atI τ (cl (tT τ 24 k)))) = true) (q : Q (.inl (some (.long (Int64.ofInt (wrI τ w S k))))) G) : mx_W (gt_P b0 mi E) mX3_amountWritten 0 (mx_en 0 [.ref (rA s 7 0), .ref (rA s 25 k)]) [] G Q := by
  have hln := vV_len hvi.1
  have hV0 := hV.1
  cases e : S.2 k with
  | some i => exact c3_aw1 R hS hT hV hF hE hvi hv hP hk3 e q
  | none =>
    refine c3_aw0 R hS hT hV hF hE (VI_nv hvi hV) hP hES hk3 ((hv.2.1 k hk3).trans (by rw [(vnI_none (by omega) k).mpr e])) hpl hk ?_
    unfold wrI toI at q
    rw [e] at q
    exact q
end
