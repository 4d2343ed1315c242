/-! ===== The class's link ===== -/
def wB (r f : Nat) : Bool := Nat.beq r 2 && (Nat.beq f 5 || (Nat.beq f 6 || Nat.beq f 7))
def wA (r f : Nat) : Bool := Nat.beq r 2 && Nat.beq f 7
theorem wA_B (r f : Nat) (h : wB r f = false) : wA r f = false := by
  unfold wB at h
  unfold wA
  cases h1 : Nat.beq r 2 <;> cases h2 : Nat.beq f 7 <;> first | rfl | (rw [h1, h2] at h; simp at h)
theorem FD_b {E : Nat → Nat} {s s' : rx_S} {τ : tx_T} {w : Bool} (h : FD E s τ w) (hf : cf wB s s') : FD E s' τ w := ⟨KD_cf h.1 hf, fun x hx => (hf.2.2.1 20 17 x rfl).trans (h.2 x hx)⟩
theorem VC_b {s s' : rx_S} {τ : tx_T} {S : vS} (h : VC s τ S) (hf : cf wB s s') : VC s' τ S := ⟨fun x hx => (hf.2.2.1 20 19 x rfl).trans (h.1 x hx), fun k hk => (hf.2.2.1 25 5 k rfl).trans (h.2.1 k hk), (hf.2.2.1 7 6 0 rfl).trans h.2.2⟩
theorem LO_b {s s' : rx_S} {τ : tx_T} {w : Bool} {V : List (Nat × Nat)} {tm : Nat} (h : LO s τ w V tm) (hf : cf wB s s') : LO s' τ w V tm := by
  obtain ⟨h1, h2, h3, h4⟩ := h
  refine ⟨fun x hx hp => (hf.2.2.1 20 18 x rfl).trans (h1 x hx hp), fun k hk => ?_, fun g hg => ?_, (hf.2.2.1 7 5 0 rfl).trans h4⟩
  · rw [(hf.2.2.2.1 4 rfl).2.1, (hf.2.2.2.1 5 rfl).2.1, (hf.2.2.2.1 6 rfl).1]; exact h2 k hk
  · rw [(hf.2.2.2.1 7 rfl).2.1, (hf.2.2.2.1 8 rfl).2.1]; exact h3 g hg
theorem tfr.g {s s' : rx_S} (h : tfr s s') : gfr s s' := by
  obtain ⟨a1, a2, a3, a4, a5, a6, a7, a8⟩ := h
  refine ⟨fun r i u => ⟨a2 r i u, by rw [a1]⟩, fun f => a4 0 f 0 rfl, ?_, ?_, ?_, fun K hK i m u x => hK i m ((a3 22 i (by omega)).symm.trans u) ((a4 22 2 i rfl).symm.trans x)⟩
  · funext i; exact a5 1 i (Or.inl rfl)
  · funext i; exact a6 1 i (by omega)
  · funext i; exact a6 26 i (by omega)
/-- the class's state of link l -/
def CL (E : Nat → Nat) (s : rx_S) (τ : tx_T) (l : Option Bool) : Prop := CT E s τ ∧ rX s 2 0 7 = .inl (.int (a_fault τ l)) ∧
  (kn τ l = none → rX s 2 0 5 = .inl (.int 0)) ∧
  (∀ w, kn τ l = some w → rX s 2 0 5 = .inl (.int 1) ∧ FD E s τ w ∧ rX s 6 0 0 = .inl (.int (nI (cnt (fun x => (inO τ w x).isSome) (tN τ 1))))) ∧
  (im τ l = none → rX s 2 0 6 = .inl (.int 0)) ∧
  (∀ w, im τ l = some w → rX s 2 0 6 = .inl (.int 1) ∧ AO τ ∧ VC s τ (vR τ w).1 ∧ VI τ w (vR τ w).1 ∧ LO s τ w (vR τ w).1.1 (vR τ w).2)
theorem CL_told {E : Nat → Nat} {s : rx_S} {τ : tx_T} (h : CT E s τ) (h2 : GT s) : CL E s τ none := ⟨h, h2.2.2, fun _ => h2.1, fun w hw => (by cases hw), fun _ => h2.2.1, fun w hw => (by cases hw)⟩
section
variable {b0 mi z1 z2 : Nat} {E : Nat → Nat} {O : Nat → Option mx_C} {s : rx_S} {G : mx_H} {Q : mx_O → mx_H → Prop}
theorem c3_ko_i {s : rx_S} {G : mx_H} (R : rx_R b0 O z1 z2 s G) (hS : rx_in s) {τ : tx_T} (hT : CT E s τ) (hV : TV τ) {w : Bool} (hF : FD E s τ w) {V : List (Nat × Nat)} (hvn : ∀ x, nvN V x ≤ 200) (hEK : EK s τ w V 4) {k : Nat} (hk4 : k < 4) (q : an (ovB τ w V k) k = true → Q (.inl (some (.int (nI k)))) G) (kx : an (ovB τ w V k) k = false → ∀ L : mx_L, L 0 = some (.ref (rA s 7 0)) → L 1 = some (.int (nI k)) → mx_W (gt_P b0 mi E) mX3_firstKindOverAnother 82 L [] G Q) : ∀ (d : Nat) (t : Nat) (L : mx_L), k - t < d → t ≤ k → (∀ a, a < t → ovB τ w V k a = false) → L 0 = some (.ref (rA s 7 0)) → L 1 = some (.int (nI k)) → L 2 = some (.int (nI t)) → mx_W (gt_P b0 mi E) mX3_firstKindOverAnother 9 L [] G Q := by
  intro d
  induction d with
  | zero => intro t L hd; exact absurd hd (Nat.not_lt_zero _)
  | succ d ih =>
    intro t L hd ht hb h0 h1 h2
    have hV0 := hV.1
    refine w_iload_n dX3_firstKindOverAnother_9 h2 ?_
    refine w_iload_n dX3_firstKindOverAnother_10 h1 ?_
    refine r_icmp_gen (t := 82) dX3_firstKindOverAnother_11 rfl (by omega) (by omega) (fun h11 => ?_) (fun h11 => ?_)
    ·
      exact kx (an_false.mpr (fun a ha => hb a (by omega))) _ h0 h1
    ·
      have htk : t < k := by omega
      have b1 := bgN_le hV (w := w) hvn hk4
      have b2 := bgN_le hV (w := w) hvn (k := t) (by omega)
      have e1 := enN_le hV (w := w) hvn hk4
      have e2 := enN_le hV (w := w) hvn (k := t) (by omega)
      have m1 : 1311480 * k ≤ 1311480 * 3 := Nat.mul_le_mul_left _ (by omega)
      have m2 : 1311480 * t ≤ 1311480 * 3 := Nat.mul_le_mul_left _ (by omega)
      refine w_aload_n dX3_firstKindOverAnother_14 h0 ?_
      refine r_getr  dX3_firstKindOverAnother_15 ft_3_18 R rfl (hS _ _ rfl) rfl (lb rfl) (cT_s hT 7 2 rfl) ?_
      refine w_iload_n dX3_firstKindOverAnother_18 h1 ?_
      refine r_zald  dX3_firstKindOverAnother_19 R rfl (hS _ _ rfl) rfl rfl (by omega) (lb rfl) (hEK k (by omega)).2.2 ?_
      refine w_if_eq (t := 36) dX3_firstKindOverAnother_20 rfl (fun h20 => ?_) (fun h20 => ?_)
      ·
        refine w_iconst (v := 0) dX3_firstKindOverAnother_36 (by decide) ?_
        refine w_istore_n dX3_firstKindOverAnother_37 (lb rfl) ?_
        refine w_iload_n dX3_firstKindOverAnother_38 rfl ?_
        refine w_if_eq (t := 76) dX3_firstKindOverAnother_39 rfl (fun _ => ?_) (fun h => absurd (by decide) h)
        refine w_iinc dX3_firstKindOverAnother_76 h2 (nI_1 _) (lb rfl) ?_
        refine w_goto (t := 9) dX3_firstKindOverAnother_79 rfl ?_
        have hF : ovB τ w V k t = false := by unfold ovB; rw [b32_eq h20]; rfl
        exact ih (t + 1) _ (by omega) (by omega) (fun a ha => by
          by_cases e : a = t
          · rw [e]; exact hF
          · exact hb a (by omega)) h0 h1 rfl
      ·
        refine w_aload_n dX3_firstKindOverAnother_23 h0 ?_
        refine r_getr  dX3_firstKindOverAnother_24 ft_3_18 R rfl (hS _ _ rfl) rfl (lb rfl) (cT_s hT 7 2 rfl) ?_
        refine w_iload_n dX3_firstKindOverAnother_27 h2 ?_
        refine r_zald  dX3_firstKindOverAnother_28 R rfl (hS _ _ rfl) rfl rfl (by omega) (lb rfl) (hEK t (by omega)).2.2 ?_
        refine w_if_eq (t := 36) dX3_firstKindOverAnother_29 rfl (fun h29 => ?_) (fun h29 => ?_)
        ·
          refine w_iconst (v := 0) dX3_firstKindOverAnother_36 (by decide) ?_
          refine w_istore_n dX3_firstKindOverAnother_37 (lb rfl) ?_
          refine w_iload_n dX3_firstKindOverAnother_38 rfl ?_
          refine w_if_eq (t := 76) dX3_firstKindOverAnother_39 rfl (fun _ => ?_) (fun h => absurd (by decide) h)
          refine w_iinc dX3_firstKindOverAnother_76 h2 (nI_1 _) (lb rfl) ?_
          refine w_goto (t := 9) dX3_firstKindOverAnother_79 rfl ?_
          have hF : ovB τ w V k t = false := by unfold ovB; rw [b32_eq h29]; simp
          exact ih (t + 1) _ (by omega) (by omega) (fun a ha => by
            by_cases e : a = t
            · rw [e]; exact hF
            · exact hb a (by omega)) h0 h1 rfl
        ·
          refine w_iconst (v := 1) dX3_firstKindOverAnother_32 (by decide) ?_
          refine w_goto (t := 37) dX3_firstKindOverAnother_33 rfl ?_
          refine w_istore_n dX3_firstKindOverAnother_37 (lb rfl) ?_
          refine w_iload_n dX3_firstKindOverAnother_38 rfl ?_
          refine w_if_eq (t := 76) dX3_firstKindOverAnother_39 rfl (fun h => absurd h (by decide)) (fun _ => ?_)
          refine w_aload_n dX3_firstKindOverAnother_42 h0 ?_
          refine r_getr  dX3_firstKindOverAnother_43 ft_3_9 R rfl (hS _ _ rfl) rfl (lb rfl) (cT_s hT 7 0 rfl) ?_
          refine w_iload_n dX3_firstKindOverAnother_46 h1 ?_
          refine r_lald  dX3_firstKindOverAnother_47 R rfl (hS _ _ rfl) rfl rfl hk4 (lb rfl) (hEK k hk4).1 ?_
          refine w_aload_n dX3_firstKindOverAnother_48 h0 ?_
          refine r_getr  dX3_firstKindOverAnother_49 ft_3_15 R rfl (hS _ _ rfl) rfl (lb rfl) (cT_s hT 7 1 rfl) ?_
          refine w_iload_n dX3_firstKindOverAnother_52 h2 ?_
          refine r_lald  dX3_firstKindOverAnother_53 R rfl (hS _ _ rfl) rfl rfl (by omega) (lb rfl) (hEK t (by omega)).2.1 ?_
          refine r_lc_ge (t := 76) dX3_firstKindOverAnother_54 dX3_firstKindOverAnother_55 rfl (fun h54 => ?_) (fun h54 => ?_)
          ·
            refine w_iinc dX3_firstKindOverAnother_76 h2 (nI_1 _) (lb rfl) ?_
            refine w_goto (t := 9) dX3_firstKindOverAnother_79 rfl ?_
            have hF : ovB τ w V k t = false := by unfold ovB; rw [lN_toInt (by omega), lN_toInt (by omega)] at h54; rw [show decide (bgN τ w V k < enN τ w V t) = false from decide_eq_false (by omega)]; simp
            exact ih (t + 1) _ (by omega) (by omega) (fun a ha => by
              by_cases e : a = t
              · rw [e]; exact hF
              · exact hb a (by omega)) h0 h1 rfl
          ·
            refine w_aload_n dX3_firstKindOverAnother_58 h0 ?_
            refine r_getr  dX3_firstKindOverAnother_59 ft_3_9 R rfl (hS _ _ rfl) rfl (lb rfl) (cT_s hT 7 0 rfl) ?_
            refine w_iload_n dX3_firstKindOverAnother_62 h2 ?_
            refine r_lald  dX3_firstKindOverAnother_63 R rfl (hS _ _ rfl) rfl rfl (by omega) (lb rfl) (hEK t (by omega)).1 ?_
            refine w_aload_n dX3_firstKindOverAnother_64 h0 ?_
            refine r_getr  dX3_firstKindOverAnother_65 ft_3_15 R rfl (hS _ _ rfl) rfl (lb rfl) (cT_s hT 7 1 rfl) ?_
            refine w_iload_n dX3_firstKindOverAnother_68 h1 ?_
            refine r_lald  dX3_firstKindOverAnother_69 R rfl (hS _ _ rfl) rfl rfl hk4 (lb rfl) (hEK k hk4).2.1 ?_
            refine r_lc_ge (t := 76) dX3_firstKindOverAnother_70 dX3_firstKindOverAnother_71 rfl (fun h70 => ?_) (fun h70 => ?_)
            ·
              refine w_iinc dX3_firstKindOverAnother_76 h2 (nI_1 _) (lb rfl) ?_
              refine w_goto (t := 9) dX3_firstKindOverAnother_79 rfl ?_
              have hF : ovB τ w V k t = false := by unfold ovB; rw [lN_toInt (by omega), lN_toInt (by omega)] at h70; rw [show decide (bgN τ w V t < enN τ w V k) = false from decide_eq_false (by omega)]; simp
              exact ih (t + 1) _ (by omega) (by omega) (fun a ha => by
                by_cases e : a = t
                · rw [e]; exact hF
                · exact hb a (by omega)) h0 h1 rfl
            ·
              refine w_iload_n dX3_firstKindOverAnother_74 h1 ?_
              exact w_iret dX3_firstKindOverAnother_75 rfl rfl (q (an_iff.mpr ⟨t, htk, by rw [lN_toInt (by omega), lN_toInt (by omega)] at h54 h70; unfold ovB; rw [b32_ne h20, b32_ne h29, show decide (bgN τ w V k < enN τ w V t) = true from decide_eq_true (by omega), show decide (bgN τ w V t < enN τ w V k) = true from decide_eq_true (by omega)]; rfl⟩))
theorem c3_ko_o {s : rx_S} {G : mx_H} (R : rx_R b0 O z1 z2 s G) (hS : rx_in s) {τ : tx_T} (hT : CT E s τ) (hV : TV τ) {w : Bool} (hF : FD E s τ w) {V : List (Nat × Nat)} (hvn : ∀ x, nvN V x ≤ 200) (hEK : EK s τ w V 4) (q : Q (.inl (some (.int (oI (fst1 (fun k => an (ovB τ w V k) k) 4))))) G) : ∀ (d : Nat) (t : Nat) (L : mx_L), 4 - t < d → t ≤ 4 → (1 ≤ t ∧ ∀ a, a < t → (fun k => an (ovB τ w V k) k) a = false) → L 0 = some (.ref (rA s 7 0)) → L 1 = some (.int (nI t)) → mx_W (gt_P b0 mi E) mX3_firstKindOverAnother 2 L [] G Q := by
  intro d
  induction d with
  | zero => intro t L hd; exact absurd hd (Nat.not_lt_zero _)
  | succ d ih =>
    intro t L hd ht hb h0 h1
    have hV0 := hV.1
    refine w_iload_n dX3_firstKindOverAnother_2 h1 ?_
    refine w_iconst (v := nI 4) dX3_firstKindOverAnother_3 (by decide) ?_
    refine r_icmp_gen (t := 88) dX3_firstKindOverAnother_4 rfl (by omega) (by omega) (fun h4 => ?_) (fun h4 => ?_)
    ·
      refine w_iconst (v := (-1)) dX3_firstKindOverAnother_88 (by decide) ?_
      refine w_iret dX3_firstKindOverAnother_89 rfl rfl ?_
      obtain rfl : t = 4 := by omega
      rw [show fst1 (fun k => an (ovB τ w V k) k) 4 = none from fst1_none.mpr hb.2] at q; exact q
    ·
      refine w_iconst (v := nI 0) dX3_firstKindOverAnother_7 (by decide) ?_
      refine w_istore_n dX3_firstKindOverAnother_8 (lb rfl) ?_
      exact c3_ko_i R hS hT hV hF hvn hEK (k := t) (by omega) (fun hF5 => by rw [show fst1 (fun k => an (ovB τ w V k) k) 4 = some t from fst1_some.mpr ⟨by omega, hF5, hb.2⟩] at q; exact q) (fun hF5 L2 h02 h12 => by
        refine w_iinc dX3_firstKindOverAnother_82 h12 (nI_1 _) (lb rfl) ?_
        refine w_goto (t := 2) dX3_firstKindOverAnother_85 rfl ?_
        exact ih (t + 1) _ (by omega) (by omega) ⟨by omega, fun a ha => by
          by_cases e : a = t
          · rw [e]; exact hF5
          · exact hb.2 a (by omega)⟩ h02 rfl) _ 0 _ (Nat.lt_succ_self _) (Nat.zero_le _) (fun a ha => absurd ha (Nat.not_lt_zero _)) h0 h1 rfl
theorem c3_over (R : rx_R b0 O z1 z2 s G) (hS : rx_in s) {τ : tx_T} (hT : CT E s τ) (hV : TV τ) {w : Bool} (hF : FD E s τ w) {V : List (Nat × Nat)} (hvn : ∀ x, nvN V x ≤ 200) (hEK : EK s τ w V 4) (q : Q (.inl (some (.int (oI (fst1 (fun k => an (ovB τ w V k) k) 4))))) G) : mx_W (gt_P b0 mi E) mX3_firstKindOverAnother 0 (mx_en 0 [.ref (rA s 7 0)]) [] G Q := by
  refine w_iconst (v := nI 1) dX3_firstKindOverAnother_0 (by decide) ?_
  refine w_istore_n dX3_firstKindOverAnother_1 (lb rfl) ?_
  exact c3_ko_o R hS hT hV hF hvn hEK q _ 1 _ (Nat.lt_succ_self _) (by omega) ⟨by omega, fun a ha => (show an (ovB τ w V a) a = false from (by rw [show a = 0 by omega]; rfl))⟩ rfl rfl
theorem c2_rnF (R : rx_R b0 O z1 z2 s G) (hS : rx_in s) {τ : tx_T} (hT : CT E s τ) (hV : TV τ) (hN : NC s τ) (q : Q (.inl (some (.int (oI (fst1 (F2B τ) (tN τ 4)))))) G) : mx_W (gt_P b0 mi E) mX2_firstRootNowhere 0 (mx_en 0 [.ref (rA s 4 0), .ref (rA s 3 0)]) [] G Q := c2_rn R hS hT hV hN q
theorem c9_before (R : rx_R b0 O z1 z2 s G) (hS : rx_in s) {τ : tx_T} (hT : CT E s τ) (hV : TV τ) {w : Bool} (hF : FD E s τ w) (q : ∀ (s' : rx_S) (G' : mx_H), rx_R b0 O z1 z2 s' G' → cf wA s s' → rX s' 2 0 7 = .inl (.int (W4 τ (tN τ 3)).2) → Q (.inl (some (.int (W4 τ (tN τ 3)).1))) G') : mx_W (gt_P b0 mi E) mX9_faultBeforePlacing 0 (mx_en 0 [.ref (rA s 2 0)]) [] G Q := by
  have hV0 := hV.1
  refine w_aload_n dX9_faultBeforePlacing_0 rfl ?_
  refine w_aload_n dX9_faultBeforePlacing_1 rfl ?_
  refine r_getr  dX9_faultBeforePlacing_2 ft_8_19 R rfl (hS _ _ rfl) rfl (lb rfl) (cT_s hT 2 1 rfl) ?_
  refine w_aload_n dX9_faultBeforePlacing_5 rfl ?_
  refine r_getr  dX9_faultBeforePlacing_6 ft_8_10 R rfl (hS _ _ rfl) rfl (lb rfl) (cT_s hT 2 0 rfl) ?_
  refine r_inv1  dX9_faultBeforePlacing_9 mt_8_285 R rfl (hS _ _ rfl) rfl (lb rfl) (lb rfl) (lb rfl) (lb rfl) rfl (c2_rnF R hS hT hV hF.1.1 ⟨_, rfl, ?_⟩)
  refine r_puti  dX9_faultBeforePlacing_12 ft_8_44 R rfl (hS _ _ rfl) rfl (lb rfl) (fun h => by cases h) rfl rfl (fun G1 R1 => ?_)
  refine w_aload_n dX9_faultBeforePlacing_15 rfl ?_
  refine r_geti  dX9_faultBeforePlacing_16 ft_8_44 R1 rfl (hS _ _ rfl) rfl (lb rfl) sX_s ?_
  refine w_iconst (v := (-1)) dX9_faultBeforePlacing_19 (by decide) ?_
  refine w_icmp_eq (t := 25) dX9_faultBeforePlacing_20 rfl (fun h20 => ?_) (fun h20 => ?_)
  ·
    have e2 : fst1 (F2B τ) (tN τ 4) = none := (oI_none (fun j hj => by have := fst_lt hj; omega)).mp h20
    refine w_aload_n dX9_faultBeforePlacing_25 rfl ?_
    refine w_aload_n dX9_faultBeforePlacing_26 rfl ?_
    refine r_getr  dX9_faultBeforePlacing_27 ft_8_26 R1 rfl (hS _ _ rfl) rfl (lb rfl) (cT_s hT 2 2 rfl) ?_
    refine w_aload_n dX9_faultBeforePlacing_30 rfl ?_
    refine r_getr  dX9_faultBeforePlacing_31 ft_8_10 R1 rfl (hS _ _ rfl) rfl (lb rfl) (cT_s hT 2 0 rfl) ?_
    refine r_getr  dX9_faultBeforePlacing_34 ft_8_145 R1 rfl (hS _ _ rfl) rfl (lb rfl) (cT_s hT 3 2 rfl) ?_
    refine r_inv1  dX9_faultBeforePlacing_37 mt_8_288 R1 rfl (hS _ _ rfl) rfl (lb rfl) (lb rfl) (lb rfl) (lb rfl) rfl (c1_nw (s := (sX s 2 0 7 (.inl (.int (oI (fst1 (F2B τ) (tN τ 4))))))) R1 hS (CT_X hT hS) hV hF.1.1 hF.1.2.2.1 (kR_cl hV).2 ⟨_, rfl, ?_⟩)
    refine r_puti  dX9_faultBeforePlacing_40 ft_8_44 R1 rfl (hS _ _ rfl) rfl (lb rfl) (fun h => by cases h) rfl rfl (fun G2 R2 => ?_)
    refine w_aload_n dX9_faultBeforePlacing_43 rfl ?_
    refine r_geti  dX9_faultBeforePlacing_44 ft_8_44 R2 rfl (hS _ _ rfl) rfl (lb rfl) sX_s ?_
    refine w_iconst (v := (-1)) dX9_faultBeforePlacing_47 (by decide) ?_
    refine w_icmp_eq (t := 53) dX9_faultBeforePlacing_48 rfl (fun h48 => ?_) (fun h48 => ?_)
    ·
      have e3 : fst1 (f3B τ) (tN τ 3) = none := (oI_none (fun j hj => by have := fst_lt hj; omega)).mp h48
      refine w_aload_n dX9_faultBeforePlacing_53 rfl ?_
      refine w_aload_n dX9_faultBeforePlacing_54 rfl ?_
      refine r_getr  dX9_faultBeforePlacing_55 ft_8_26 R2 rfl (hS _ _ rfl) rfl (lb rfl) (cT_s hT 2 2 rfl) ?_
      refine w_aload_n dX9_faultBeforePlacing_58 rfl ?_
      refine r_getr  dX9_faultBeforePlacing_59 ft_8_10 R2 rfl (hS _ _ rfl) rfl (lb rfl) (cT_s hT 2 0 rfl) ?_
      refine r_getr  dX9_faultBeforePlacing_62 ft_8_145 R2 rfl (hS _ _ rfl) rfl (lb rfl) (cT_s hT 3 2 rfl) ?_
      refine r_inv1  dX9_faultBeforePlacing_65 mt_8_292 R2 rfl (hS _ _ rfl) rfl (lb rfl) (lb rfl) (lb rfl) (lb rfl) rfl (c1_il (s := (sX (sX s 2 0 7 (.inl (.int (oI (fst1 (F2B τ) (tN τ 4)))))) 2 0 7 (.inl (.int (oI (fst1 (f3B τ) (tN τ 3))))))) R2 hS (CT_X (CT_X hT hS) hS) hV hF.1.1 hF.1.2.2.1 (kR_cl hV).2 ⟨_, rfl, ?_⟩)
      refine r_puti  dX9_faultBeforePlacing_68 ft_8_44 R2 rfl (hS _ _ rfl) rfl (lb rfl) (fun h => by cases h) rfl rfl (fun G3 R3 => ?_)
      refine w_aload_n dX9_faultBeforePlacing_71 rfl ?_
      refine r_geti  dX9_faultBeforePlacing_72 ft_8_44 R3 rfl (hS _ _ rfl) rfl (lb rfl) sX_s ?_
      refine w_iconst (v := (-1)) dX9_faultBeforePlacing_75 (by decide) ?_
      refine w_icmp_eq (t := 83) dX9_faultBeforePlacing_76 rfl (fun h76 => ?_) (fun h76 => ?_)
      ·
        refine w_iconst (v := 0) dX9_faultBeforePlacing_83 (by decide) ?_
        refine w_iret dX9_faultBeforePlacing_84 rfl rfl ?_
        have e4 : fst1 (f4B τ) (tN τ 3) = none := (oI_none (fun j hj => by have := fst_lt hj; omega)).mp h76
        have eW : W4 τ (tN τ 3) = (0, -1) := by rw [W4_eq, e2, e3, e4]
        rw [eW] at q
        exact q _ _ R3 (cf.rf wA s).X.X.X (sX_s.trans (by rw [e4]; rfl))
      ·
        refine w_iconst (v := 4) dX9_faultBeforePlacing_79 (by decide) ?_
        refine w_goto (t := 84) dX9_faultBeforePlacing_80 rfl ?_
        refine w_iret dX9_faultBeforePlacing_84 rfl rfl ?_
        cases e4 : fst1 (f4B τ) (tN τ 3) with
        | none => rw [e4] at h76; exact absurd rfl h76
        | some r =>
          have eW : W4 τ (tN τ 3) = (4, nI r) := by rw [W4_eq, e2, e3, e4]
          rw [eW] at q
          refine q _ _ R3 (cf.rf wA s).X.X.X (sX_s.trans (by rw [e4]; rfl))
    ·
      refine w_iconst (v := 3) dX9_faultBeforePlacing_51 (by decide) ?_
      refine w_iret dX9_faultBeforePlacing_52 rfl rfl ?_
      cases e3 : fst1 (f3B τ) (tN τ 3) with
      | none => rw [e3] at h48; exact absurd rfl h48
      | some r =>
        have eW : W4 τ (tN τ 3) = (3, nI r) := by rw [W4_eq, e2, e3]
        rw [eW] at q
        refine q _ _ R2 (cf.rf wA s).X.X (sX_s.trans (by rw [e3]; rfl))
  ·
    refine w_iconst (v := 2) dX9_faultBeforePlacing_23 (by decide) ?_
    refine w_iret dX9_faultBeforePlacing_24 rfl rfl ?_
    cases e2 : fst1 (F2B τ) (tN τ 4) with
    | none => rw [e2] at h20; exact absurd rfl h20
    | some r =>
      have eW : W4 τ (tN τ 3) = (2, nI r) := by rw [W4_eq, e2]
      rw [eW] at q
      refine q _ _ R1 (cf.rf wA s).X (sX_s.trans (by rw [e2]; rfl))
theorem c9_after (R : rx_R b0 O z1 z2 s G) (hS : rx_in s) {τ : tx_T} (hT : CT E s τ) (hV : TV τ) {w : Bool} (hF : FD E s τ w) (hE : WE b0 O E) (hO : AO τ) (hW : W4 τ (tN τ 3) = (0, -1)) {S : vS} {tm : Nat} (hvi : VI τ w S) (hv : VC s τ S) (hLO : LO s τ w S.1 tm) (q : ∀ (s' : rx_S) (G' : mx_H), rx_R b0 O z1 z2 s' G' → cf wA s s' → rX s' 2 0 7 = .inl (.int (W6 τ w S (tN τ 3)).2) → Q (.inl (some (.int (W6 τ w S (tN τ 3)).1))) G') : mx_W (gt_P b0 mi E) mX9_faultOfPlaces 0 (mx_en 0 [.ref (rA s 2 0)]) [] G Q := by
  have hV0 := hV.1
  refine w_aload_n dX9_faultOfPlaces_0 rfl ?_
  refine w_aload_n dX9_faultOfPlaces_1 rfl ?_
  refine r_getr  dX9_faultOfPlaces_2 ft_8_40 R rfl (hS _ _ rfl) rfl (lb rfl) (cT_s hT 2 4 rfl) ?_
  refine r_inv0  dX9_faultOfPlaces_5 mt_8_295 R rfl (hS _ _ rfl) rfl (lb rfl) (lb rfl) (lb rfl) (lb rfl) rfl (c3_over R hS hT hV hF (VI_nv hvi hV) hLO.2.1 ⟨_, rfl, ?_⟩)
  refine r_puti  dX9_faultOfPlaces_8 ft_8_44 R rfl (hS _ _ rfl) rfl (lb rfl) (fun h => by cases h) rfl rfl (fun G1 R1 => ?_)
  refine w_aload_n dX9_faultOfPlaces_11 rfl ?_
  refine r_geti  dX9_faultOfPlaces_12 ft_8_44 R1 rfl (hS _ _ rfl) rfl (lb rfl) sX_s ?_
  refine w_iconst (v := (-1)) dX9_faultOfPlaces_15 (by decide) ?_
  refine w_icmp_eq (t := 21) dX9_faultOfPlaces_16 rfl (fun h16 => ?_) (fun h16 => ?_)
  ·
    have e2 : fst1 (fun k => an (ovB τ w S.1 k) k) 4 = none := (oI_none (fun j hj => by have := fst_lt hj; omega)).mp h16
    refine w_aload_n dX9_faultOfPlaces_21 rfl ?_
    refine w_aload_n dX9_faultOfPlaces_22 rfl ?_
    refine r_getr  dX9_faultOfPlaces_23 ft_8_40 R1 rfl (hS _ _ rfl) rfl (lb rfl) (cT_s hT 2 4 rfl) ?_
    refine w_aload_n dX9_faultOfPlaces_26 rfl ?_
    refine r_getr  dX9_faultOfPlaces_27 ft_8_10 R1 rfl (hS _ _ rfl) rfl (lb rfl) (cT_s hT 2 0 rfl) ?_
    refine r_getr  dX9_faultOfPlaces_30 ft_8_145 R1 rfl (hS _ _ rfl) rfl (lb rfl) (cT_s hT 3 2 rfl) ?_
    refine r_inv1  dX9_faultOfPlaces_33 mt_8_298 R1 rfl (hS _ _ rfl) rfl (lb rfl) (lb rfl) (lb rfl) (lb rfl) rfl (c3_misfit (s := (sX s 2 0 7 (.inl (.int (oI (fst1 (fun k => an (ovB τ w S.1 k) k) 4)))))) R1 hS (CT_X hT hS) hV (FD_b hF (cf.rf wB s).X) hE hO hvi (VC_b hv (cf.rf wB s).X) (LO_b hLO (cf.rf wB s).X).1 (LO_b hLO (cf.rf wB s).X).2.2.1 ⟨_, rfl, ?_⟩)
    refine r_puti  dX9_faultOfPlaces_36 ft_8_44 R1 rfl (hS _ _ rfl) rfl (lb rfl) (fun h => by cases h) rfl rfl (fun G2 R2 => ?_)
    refine w_aload_n dX9_faultOfPlaces_39 rfl ?_
    refine r_geti  dX9_faultOfPlaces_40 ft_8_44 R2 rfl (hS _ _ rfl) rfl (lb rfl) sX_s ?_
    refine w_iconst (v := (-1)) dX9_faultOfPlaces_43 (by decide) ?_
    refine w_icmp_eq (t := 52) dX9_faultOfPlaces_44 rfl (fun h44 => ?_) (fun h44 => ?_)
    ·
      refine w_iconst (v := 0) dX9_faultOfPlaces_52 (by decide) ?_
      refine w_iret dX9_faultOfPlaces_53 rfl rfl ?_
      have e3 : fst1 (f6B τ w S) (tN τ 3) = none := (oI_none (fun j hj => by have := fst_lt hj; omega)).mp h44
      have eW : W6 τ w S (tN τ 3) = (0, -1) := by rw [W6_eq τ w S hW, e2, e3]
      rw [eW] at q
      exact q _ _ R2 (cf.rf wA s).X.X (sX_s.trans (by rw [e3]; rfl))
    ·
      refine w_bipush (v := 6) dX9_faultOfPlaces_47 (by decide) ?_
      refine w_goto (t := 53) dX9_faultOfPlaces_49 rfl ?_
      refine w_iret dX9_faultOfPlaces_53 rfl rfl ?_
      cases e3 : fst1 (f6B τ w S) (tN τ 3) with
      | none => rw [e3] at h44; exact absurd rfl h44
      | some r =>
        have eW : W6 τ w S (tN τ 3) = (6, nI r) := by rw [W6_eq τ w S hW, e2, e3]
        rw [eW] at q
        exact q _ _ R2 (cf.rf wA s).X.X (sX_s.trans (by rw [e3]; rfl))
  ·
    refine w_iconst (v := 5) dX9_faultOfPlaces_19 (by decide) ?_
    refine w_iret dX9_faultOfPlaces_20 rfl rfl ?_
    cases e2 : fst1 (fun k => an (ovB τ w S.1 k) k) 4 with
    | none => rw [e2] at h16; exact absurd rfl h16
    | some r =>
      have eW : W6 τ w S (tN τ 3) = (5, nI r) := by rw [W6_eq τ w S hW, e2]
      rw [eW] at q
      exact q _ _ R1 (cf.rf wA s).X (sX_s.trans (by rw [e2]; rfl))
end
