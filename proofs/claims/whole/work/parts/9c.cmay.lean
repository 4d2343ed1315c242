/-! ===== The class folds: what may, kin, folding ===== -/
def MF (s : rx_S) (x : Nat) (P : Prop) : Prop := ∃ b : Bool, rX s 20 x 14 = .inl (.int (b32 b)) ∧ (b = true ↔ P)
theorem MF.c {s : rx_S} {x : Nat} {P P' : Prop} (h : MF s x P) (e : P ↔ P') : MF s x P' := by
  obtain ⟨b, h1, h2⟩ := h
  exact ⟨b, h1, h2.trans e⟩
theorem MF.f {s s' : rx_S} {x : Nat} {P : Prop} (h : MF s x P) (e : rX s' 20 x 14 = rX s 20 x 14) : MF s' x P := by
  obtain ⟨b, h1, h2⟩ := h
  exact ⟨b, e.trans h1, h2⟩
theorem b32_1 (b : Bool) : b32 b = 0 ↔ b = false := by cases b <;> simp [b32]
section
variable {b0 mi z1 z2 : Nat} {E : Nat → Nat} {O : Nat → Option mx_C} {s : rx_S} {G : mx_H} {Q : mx_O → mx_H → Prop}
theorem c0_mf1 {s0 : rx_S} {τ : tx_T} (hT0 : CT E s0 τ) (hS0 : rx_in s0) (hV : TV τ) (hE : WE b0 O E) (hD0 : KD E s0 τ)  : ∀ (d : Nat) (t : Nat) (L : mx_L) (s : rx_S) (G : mx_H), tN τ 1 - t < d → rx_R b0 O z1 z2 s G → t ≤ tN τ 1 → cf wG s0 s → (∀ x, x < t → MF s x (m0B τ true x = true)) → L 0 = some (.ref (rA s 6 0)) → L 1 = some (.ref (rA s 8 0)) → L 2 = some (.int (nI t)) → (∀ (L : mx_L) (s : rx_S) (G : mx_H), rx_R b0 O z1 z2 s G → cf wG s0 s → (∀ x, x < tN τ 1 → MF s x (m0B τ true x = true)) → L 0 = some (.ref (rA s 6 0)) → L 1 = some (.ref (rA s 8 0)) → mx_W (gt_P b0 mi E) mX0_findWhatMayFold 83 L [] G Q) → mx_W (gt_P b0 mi E) mX0_findWhatMayFold 2 L [] G Q := by
  intro d
  induction d with
  | zero => intro t L s G hd; exact absurd hd (Nat.not_lt_zero _)
  | succ d ih =>
    intro t L s G hd R ht hf hm h0 h1 h2 kx
    have hV0 := hV.1
    have hT := CT_cf hT0 hS0 hf
    have hS := hf.inn hS0
    have hD := KD_cf hD0 hf
    have hN := hD.1
    have hvR := (kR_cl hV).2
    have hlen := kV_len hvR
    refine w_iload_n dX0_findWhatMayFold_2 h2 ?_
    refine w_aload_n dX0_findWhatMayFold_3 h1 ?_
    refine r_inv0  dX0_findWhatMayFold_4 mt_0_15 R rfl (hS _ _ rfl) rfl (lb rfl) (lb rfl) (lb rfl) (lb rfl) rfl (c_lsize R rfl (hS _ _ rfl) (cT_l0 hT).2.1 ⟨_, rfl, ?_⟩)
    refine r_icmp_gen (t := 83) dX0_findWhatMayFold_7 rfl (by omega) (by omega) (fun h7 => ?_) (fun h7 => ?_)
    ·
      obtain rfl : t = tN τ 1 := by omega
      exact kx _ _ _ R hf hm h0 h1
    ·
      have htn : t < tN τ 1 := by omega
      have hus := cT_Su hT htn
      have hkr := (hV.2.1 t htn).2.1
      refine w_aload_n dX0_findWhatMayFold_10 h1 ?_
      refine w_iload_n dX0_findWhatMayFold_11 h2 ?_
      refine r_inv1  dX0_findWhatMayFold_12 mt_0_21 R rfl (hS _ _ rfl) rfl (lb rfl) (lb rfl) (lb rfl) (lb rfl) rfl (c_lget R rfl (hS _ _ rfl) (cT_l0 hT) htn ⟨_, rfl, ?_⟩)
      refine r_cast dX0_findWhatMayFold_15 qt_0_25 R rfl hus rfl (by decide) ?_
      refine w_astore_n dX0_findWhatMayFold_18 (lb rfl) ?_
      refine w_aload_n dX0_findWhatMayFold_19 rfl ?_
      refine r_geti  dX0_findWhatMayFold_20 ft_0_45 R rfl (cT_Su hT htn) rfl (lb rfl) (cT_S hT htn 2 rfl) ?_
      refine r_if_eqi (t := 34) dX0_findWhatMayFold_23 rfl (fun h23 => ?_) (fun h23 => ?_)
      ·
        refine w_iconst (v := 1) dX0_findWhatMayFold_34 (by decide) ?_
        refine w_goto (t := 39) dX0_findWhatMayFold_35 rfl ?_
        refine w_istore dX0_findWhatMayFold_39 (lb rfl) ?_
        refine w_aload_n dX0_findWhatMayFold_41 rfl ?_
        refine w_aload_n dX0_findWhatMayFold_42 rfl ?_
        refine r_inv0  dX0_findWhatMayFold_43 mt_0_48 R rfl (cT_Su hT htn) rfl (lb rfl) (lb rfl) (lb rfl) (lb rfl) rfl (c5_isKept R (cT_Su hT htn) (hD.2.2.1 t htn) (fun e43 => ⟨_, rfl, ?_⟩) (fun e43 => ⟨_, rfl, ?_⟩))
        ·
          refine w_if_eq (t := 73) dX0_findWhatMayFold_46 rfl (fun h => absurd h (by decide)) (fun _ => ?_)
          refine w_iload dX0_findWhatMayFold_49 rfl ?_
          refine w_if_eq (t := 73) dX0_findWhatMayFold_51 rfl (fun h => absurd h (by decide)) (fun _ => ?_)
          refine w_aload_n dX0_findWhatMayFold_54 rfl ?_
          refine r_geti  dX0_findWhatMayFold_55 ft_0_52 R rfl (cT_Su hT htn) rfl (lb rfl) (cT_S hT htn 8 rfl) ?_
          refine r_if_neP (t := 73) dX0_findWhatMayFold_58 rfl (fun h58 => ?_) (fun h58 => ?_)
          ·
            refine w_iconst (v := 0) dX0_findWhatMayFold_73 (by decide) ?_
            refine r_puti  dX0_findWhatMayFold_74 ft_0_59 R rfl hus rfl (lb rfl) (fun h => by cases h) rfl rfl (fun G1 R1 => ?_)
            refine w_iinc dX0_findWhatMayFold_77 h2 (nI_1 _) (lb rfl) ?_
            refine w_goto (t := 2) dX0_findWhatMayFold_80 rfl ?_
            have hk2 : (tT τ 4 t).toInt < 2 := by omega
            exact ih (t + 1) _ _ _ (by omega) R1 (by omega) hf.X (fun x hx => by
              by_cases e : x = t
              · subst e
                refine ⟨false, sX_s, ?_⟩
                have hm0 : m0B τ true x = false := by unfold m0B; simp [h58]
                rw [hm0]
              · exact (hm x (by omega)).f (sX_p (by omega))) h0 h1 rfl kx
          ·
            refine w_aload_n dX0_findWhatMayFold_61 rfl ?_
            refine r_geti  dX0_findWhatMayFold_62 ft_0_56 R rfl (cT_Su hT htn) rfl (lb rfl) (cT_S hT htn 9 rfl) ?_
            refine w_iconst (v := (-1)) dX0_findWhatMayFold_65 (by decide) ?_
            refine r_icmp_neP (t := 73) dX0_findWhatMayFold_66 rfl (fun h66 => ?_) (fun h66 => ?_)
            ·
              refine w_iconst (v := 0) dX0_findWhatMayFold_73 (by decide) ?_
              refine r_puti  dX0_findWhatMayFold_74 ft_0_59 R rfl hus rfl (lb rfl) (fun h => by cases h) rfl rfl (fun G2 R2 => ?_)
              refine w_iinc dX0_findWhatMayFold_77 h2 (nI_1 _) (lb rfl) ?_
              refine w_goto (t := 2) dX0_findWhatMayFold_80 rfl ?_
              have hk2 : (tT τ 4 t).toInt < 2 := by omega
              exact ih (t + 1) _ _ _ (by omega) R2 (by omega) hf.X (fun x hx => by
                by_cases e : x = t
                · subst e
                  refine ⟨false, sX_s, ?_⟩
                  have hm0 : m0B τ true x = false := by unfold m0B; simp [h66]
                  rw [hm0]
                · exact (hm x (by omega)).f (sX_p (by omega))) h0 h1 rfl kx
            ·
              refine w_iconst (v := 1) dX0_findWhatMayFold_69 (by decide) ?_
              refine w_goto (t := 74) dX0_findWhatMayFold_70 rfl ?_
              refine r_puti  dX0_findWhatMayFold_74 ft_0_59 R rfl hus rfl (lb rfl) (fun h => by cases h) rfl rfl (fun G3 R3 => ?_)
              refine w_iinc dX0_findWhatMayFold_77 h2 (nI_1 _) (lb rfl) ?_
              refine w_goto (t := 2) dX0_findWhatMayFold_80 rfl ?_
              have hk2 : (tT τ 4 t).toInt < 2 := by omega
              exact ih (t + 1) _ _ _ (by omega) R3 (by omega) hf.X (fun x hx => by
                by_cases e : x = t
                · subst e
                  refine ⟨true, sX_s, ?_⟩
                  have hm0 : m0B τ true x = true := by unfold m0B; rw [show kin (kR τ) x = true from (by cases ek : kin (kR τ) x with | true => rfl | false => exact absurd ((krk_kin (by omega) _).mpr ek) e43)]; simp [htn, hk2, h58, h66]
                  rw [hm0]
                · exact (hm x (by omega)).f (sX_p (by omega))) h0 h1 rfl kx
        ·
          refine w_if_eq (t := 73) dX0_findWhatMayFold_46 rfl (fun _ => ?_) (fun h => absurd (by decide) h)
          refine w_iconst (v := 0) dX0_findWhatMayFold_73 (by decide) ?_
          refine r_puti  dX0_findWhatMayFold_74 ft_0_59 R rfl hus rfl (lb rfl) (fun h => by cases h) rfl rfl (fun G4 R4 => ?_)
          refine w_iinc dX0_findWhatMayFold_77 h2 (nI_1 _) (lb rfl) ?_
          refine w_goto (t := 2) dX0_findWhatMayFold_80 rfl ?_
          have hk2 : (tT τ 4 t).toInt < 2 := by omega
          exact ih (t + 1) _ _ _ (by omega) R4 (by omega) hf.X (fun x hx => by
            by_cases e : x = t
            · subst e
              refine ⟨false, sX_s, ?_⟩
              have hm0 : m0B τ true x = false := by unfold m0B; rw [((krk_kin (by omega) _).mp (Classical.not_not.mp e43))]; simp
              rw [hm0]
            · exact (hm x (by omega)).f (sX_p (by omega))) h0 h1 rfl kx
      ·
        refine w_aload_n dX0_findWhatMayFold_26 rfl ?_
        refine r_geti  dX0_findWhatMayFold_27 ft_0_45 R rfl (cT_Su hT htn) rfl (lb rfl) (cT_S hT htn 2 rfl) ?_
        refine w_iconst (v := 1) dX0_findWhatMayFold_30 (by decide) ?_
        refine r_icmp_neP (t := 38) dX0_findWhatMayFold_31 rfl (fun h31 => ?_) (fun h31 => ?_)
        ·
          refine w_iconst (v := 0) dX0_findWhatMayFold_38 (by decide) ?_
          refine w_istore dX0_findWhatMayFold_39 (lb rfl) ?_
          refine w_aload_n dX0_findWhatMayFold_41 rfl ?_
          refine w_aload_n dX0_findWhatMayFold_42 rfl ?_
          refine r_inv0  dX0_findWhatMayFold_43 mt_0_48 R rfl (cT_Su hT htn) rfl (lb rfl) (lb rfl) (lb rfl) (lb rfl) rfl (c5_isKept R (cT_Su hT htn) (hD.2.2.1 t htn) (fun e43 => ⟨_, rfl, ?_⟩) (fun e43 => ⟨_, rfl, ?_⟩))
          ·
            refine w_if_eq (t := 73) dX0_findWhatMayFold_46 rfl (fun h => absurd h (by decide)) (fun _ => ?_)
            refine w_iload dX0_findWhatMayFold_49 rfl ?_
            refine w_if_eq (t := 73) dX0_findWhatMayFold_51 rfl (fun _ => ?_) (fun h => absurd (by decide) h)
            refine w_iconst (v := 0) dX0_findWhatMayFold_73 (by decide) ?_
            refine r_puti  dX0_findWhatMayFold_74 ft_0_59 R rfl hus rfl (lb rfl) (fun h => by cases h) rfl rfl (fun G5 R5 => ?_)
            refine w_iinc dX0_findWhatMayFold_77 h2 (nI_1 _) (lb rfl) ?_
            refine w_goto (t := 2) dX0_findWhatMayFold_80 rfl ?_
            have hk2 : ¬ (tT τ 4 t).toInt < 2 := fun e => by
              have : ¬ (tT τ 4 t).toInt = 1 := fun q => h31 (Int32.toInt_inj.mp q)
              omega
            exact ih (t + 1) _ _ _ (by omega) R5 (by omega) hf.X (fun x hx => by
              by_cases e : x = t
              · subst e
                refine ⟨false, sX_s, ?_⟩
                have hm0 : m0B τ true x = false := by unfold m0B; simp [hk2]
                rw [hm0]
              · exact (hm x (by omega)).f (sX_p (by omega))) h0 h1 rfl kx
          ·
            refine w_if_eq (t := 73) dX0_findWhatMayFold_46 rfl (fun _ => ?_) (fun h => absurd (by decide) h)
            refine w_iconst (v := 0) dX0_findWhatMayFold_73 (by decide) ?_
            refine r_puti  dX0_findWhatMayFold_74 ft_0_59 R rfl hus rfl (lb rfl) (fun h => by cases h) rfl rfl (fun G6 R6 => ?_)
            refine w_iinc dX0_findWhatMayFold_77 h2 (nI_1 _) (lb rfl) ?_
            refine w_goto (t := 2) dX0_findWhatMayFold_80 rfl ?_
            have hk2 : ¬ (tT τ 4 t).toInt < 2 := fun e => by
              have : ¬ (tT τ 4 t).toInt = 1 := fun q => h31 (Int32.toInt_inj.mp q)
              omega
            exact ih (t + 1) _ _ _ (by omega) R6 (by omega) hf.X (fun x hx => by
              by_cases e : x = t
              · subst e
                refine ⟨false, sX_s, ?_⟩
                have hm0 : m0B τ true x = false := by unfold m0B; rw [((krk_kin (by omega) _).mp (Classical.not_not.mp e43))]; simp
                rw [hm0]
              · exact (hm x (by omega)).f (sX_p (by omega))) h0 h1 rfl kx
        ·
          refine w_iconst (v := 1) dX0_findWhatMayFold_34 (by decide) ?_
          refine w_goto (t := 39) dX0_findWhatMayFold_35 rfl ?_
          refine w_istore dX0_findWhatMayFold_39 (lb rfl) ?_
          refine w_aload_n dX0_findWhatMayFold_41 rfl ?_
          refine w_aload_n dX0_findWhatMayFold_42 rfl ?_
          refine r_inv0  dX0_findWhatMayFold_43 mt_0_48 R rfl (cT_Su hT htn) rfl (lb rfl) (lb rfl) (lb rfl) (lb rfl) rfl (c5_isKept R (cT_Su hT htn) (hD.2.2.1 t htn) (fun e43 => ⟨_, rfl, ?_⟩) (fun e43 => ⟨_, rfl, ?_⟩))
          ·
            refine w_if_eq (t := 73) dX0_findWhatMayFold_46 rfl (fun h => absurd h (by decide)) (fun _ => ?_)
            refine w_iload dX0_findWhatMayFold_49 rfl ?_
            refine w_if_eq (t := 73) dX0_findWhatMayFold_51 rfl (fun h => absurd h (by decide)) (fun _ => ?_)
            refine w_aload_n dX0_findWhatMayFold_54 rfl ?_
            refine r_geti  dX0_findWhatMayFold_55 ft_0_52 R rfl (cT_Su hT htn) rfl (lb rfl) (cT_S hT htn 8 rfl) ?_
            refine r_if_neP (t := 73) dX0_findWhatMayFold_58 rfl (fun h58 => ?_) (fun h58 => ?_)
            ·
              refine w_iconst (v := 0) dX0_findWhatMayFold_73 (by decide) ?_
              refine r_puti  dX0_findWhatMayFold_74 ft_0_59 R rfl hus rfl (lb rfl) (fun h => by cases h) rfl rfl (fun G7 R7 => ?_)
              refine w_iinc dX0_findWhatMayFold_77 h2 (nI_1 _) (lb rfl) ?_
              refine w_goto (t := 2) dX0_findWhatMayFold_80 rfl ?_
              have hk2 : (tT τ 4 t).toInt < 2 := by rw [h31]; decide
              exact ih (t + 1) _ _ _ (by omega) R7 (by omega) hf.X (fun x hx => by
                by_cases e : x = t
                · subst e
                  refine ⟨false, sX_s, ?_⟩
                  have hm0 : m0B τ true x = false := by unfold m0B; simp [h58]
                  rw [hm0]
                · exact (hm x (by omega)).f (sX_p (by omega))) h0 h1 rfl kx
            ·
              refine w_aload_n dX0_findWhatMayFold_61 rfl ?_
              refine r_geti  dX0_findWhatMayFold_62 ft_0_56 R rfl (cT_Su hT htn) rfl (lb rfl) (cT_S hT htn 9 rfl) ?_
              refine w_iconst (v := (-1)) dX0_findWhatMayFold_65 (by decide) ?_
              refine r_icmp_neP (t := 73) dX0_findWhatMayFold_66 rfl (fun h66 => ?_) (fun h66 => ?_)
              ·
                refine w_iconst (v := 0) dX0_findWhatMayFold_73 (by decide) ?_
                refine r_puti  dX0_findWhatMayFold_74 ft_0_59 R rfl hus rfl (lb rfl) (fun h => by cases h) rfl rfl (fun G8 R8 => ?_)
                refine w_iinc dX0_findWhatMayFold_77 h2 (nI_1 _) (lb rfl) ?_
                refine w_goto (t := 2) dX0_findWhatMayFold_80 rfl ?_
                have hk2 : (tT τ 4 t).toInt < 2 := by rw [h31]; decide
                exact ih (t + 1) _ _ _ (by omega) R8 (by omega) hf.X (fun x hx => by
                  by_cases e : x = t
                  · subst e
                    refine ⟨false, sX_s, ?_⟩
                    have hm0 : m0B τ true x = false := by unfold m0B; simp [h66]
                    rw [hm0]
                  · exact (hm x (by omega)).f (sX_p (by omega))) h0 h1 rfl kx
              ·
                refine w_iconst (v := 1) dX0_findWhatMayFold_69 (by decide) ?_
                refine w_goto (t := 74) dX0_findWhatMayFold_70 rfl ?_
                refine r_puti  dX0_findWhatMayFold_74 ft_0_59 R rfl hus rfl (lb rfl) (fun h => by cases h) rfl rfl (fun G9 R9 => ?_)
                refine w_iinc dX0_findWhatMayFold_77 h2 (nI_1 _) (lb rfl) ?_
                refine w_goto (t := 2) dX0_findWhatMayFold_80 rfl ?_
                have hk2 : (tT τ 4 t).toInt < 2 := by rw [h31]; decide
                exact ih (t + 1) _ _ _ (by omega) R9 (by omega) hf.X (fun x hx => by
                  by_cases e : x = t
                  · subst e
                    refine ⟨true, sX_s, ?_⟩
                    have hm0 : m0B τ true x = true := by unfold m0B; rw [show kin (kR τ) x = true from (by cases ek : kin (kR τ) x with | true => rfl | false => exact absurd ((krk_kin (by omega) _).mpr ek) e43)]; simp [htn, hk2, h58, h66]
                    rw [hm0]
                  · exact (hm x (by omega)).f (sX_p (by omega))) h0 h1 rfl kx
          ·
            refine w_if_eq (t := 73) dX0_findWhatMayFold_46 rfl (fun _ => ?_) (fun h => absurd (by decide) h)
            refine w_iconst (v := 0) dX0_findWhatMayFold_73 (by decide) ?_
            refine r_puti  dX0_findWhatMayFold_74 ft_0_59 R rfl hus rfl (lb rfl) (fun h => by cases h) rfl rfl (fun G10 R10 => ?_)
            refine w_iinc dX0_findWhatMayFold_77 h2 (nI_1 _) (lb rfl) ?_
            refine w_goto (t := 2) dX0_findWhatMayFold_80 rfl ?_
            have hk2 : (tT τ 4 t).toInt < 2 := by rw [h31]; decide
            exact ih (t + 1) _ _ _ (by omega) R10 (by omega) hf.X (fun x hx => by
              by_cases e : x = t
              · subst e
                refine ⟨false, sX_s, ?_⟩
                have hm0 : m0B τ true x = false := by unfold m0B; rw [((krk_kin (by omega) _).mp (Classical.not_not.mp e43))]; simp
                rw [hm0]
              · exact (hm x (by omega)).f (sX_p (by omega))) h0 h1 rfl kx
theorem c0_fb_l {s0 : rx_S} {τ : tx_T} (hT0 : CT E s0 τ) (hS0 : rx_in s0) (hV : TV τ) (hE : WE b0 O E) (hD0 : KD E s0 τ) {a : Nat} (ha : a < tN τ 1) {P : Nat → Prop}  : ∀ (d : Nat) (t : Nat) (L : mx_L) (s : rx_S) (G : mx_H), rlN τ a - t < d → rx_R b0 O z1 z2 s G → t ≤ rlN τ a → cf wG s0 s → (∀ x, x < tN τ 1 → MF s x (P x ∧ ∀ j, j < t → ¬ FBp τ x a j)) → L 1 = some (.ref (rA s 20 a)) → L 2 = some (.int (nI t)) → (∀ (s' : rx_S) (G' : mx_H), rx_R b0 O z1 z2 s' G' → cf wG s0 s' → (∀ x, x < tN τ 1 → MF s' x (P x ∧ ∀ j, j < rlN τ a → ¬ FBp τ x a j)) → Q (.inl none) G') → mx_W (gt_P b0 mi E) mX0_forbidWhatItTakesPlacesOf 2 L [] G Q := by
  intro d
  induction d with
  | zero => intro t L s G hd; exact absurd hd (Nat.not_lt_zero _)
  | succ d ih =>
    intro t L s G hd R ht hf hm h1 h2 kx
    have hV0 := hV.1
    have hT := CT_cf hT0 hS0 hf
    have hS := hf.inn hS0
    have hD := KD_cf hD0 hf
    have hN := hD.1
    have hvR := (kR_cl hV).2
    have hlen := kV_len hvR
    have hra : rlN τ a ≤ 200 := Nat.le_trans (cnt_le _ _) hV0.2.2.2.1
    refine w_iload_n dX0_forbidWhatItTakesPlacesOf_2 h2 ?_
    refine w_aload_n dX0_forbidWhatItTakesPlacesOf_3 h1 ?_
    refine r_getr  dX0_forbidWhatItTakesPlacesOf_4 ft_0_66 R rfl (cT_Su hT ha) rfl (lb rfl) (cT_S hT ha 6 rfl) ?_
    refine r_inv0  dX0_forbidWhatItTakesPlacesOf_7 mt_0_15 R rfl (cT_Lu hT ha) rfl (lb rfl) (lb rfl) (lb rfl) (lb rfl) rfl (c_lsize R rfl (cT_Lu hT ha) (cT_l hT ha).2.1 ⟨_, rfl, ?_⟩)
    refine r_icmp_gen (t := 62) dX0_forbidWhatItTakesPlacesOf_10 rfl (by omega) (by omega) (fun h10 => ?_) (fun h10 => ?_)
    ·
      refine w_ret dX0_forbidWhatItTakesPlacesOf_62 rfl ?_
      obtain rfl : t = rlN τ a := by omega
      exact kx _ _ R hf hm
    ·
      have htn : t < rlN τ a := by omega
      obtain ⟨k, ek⟩ : ∃ k, rlG τ a t = k := ⟨_, rfl⟩
      have hk : k < tN τ 3 := by rw [← ek]; exact (rlG_lt htn).2.1
      have rk := hV.2.2.2.1 k hk
      have cyk := clI rk.2.2.2.1.1
      have ctk := clI rk.2.2.1.1
      have hyk : cl (tT τ 24 k) < tN τ 2 := by omega
      have nk := hN.2.2 _ hyk
      refine w_aload_n dX0_forbidWhatItTakesPlacesOf_13 h1 ?_
      refine r_getr  dX0_forbidWhatItTakesPlacesOf_14 ft_0_66 R rfl (cT_Su hT ha) rfl (lb rfl) (cT_S hT ha 6 rfl) ?_
      refine w_iload_n dX0_forbidWhatItTakesPlacesOf_17 h2 ?_
      refine r_inv1  dX0_forbidWhatItTakesPlacesOf_18 mt_0_21 R rfl (cT_Lu hT ha) rfl (lb rfl) (lb rfl) (lb rfl) (lb rfl) rfl (c_lget R rfl (cT_Lu hT ha) (cT_l hT ha) htn ⟨_, rfl, ?_⟩)
      show mx_W _ _ _ _ (.ref (rA s 25 (rlG τ a t)) :: _) _ _
      rw [ek]
      refine r_cast dX0_forbidWhatItTakesPlacesOf_21 qt_0_70 R rfl (cT_Ru hT hk) rfl (by decide) ?_
      refine w_astore_n dX0_forbidWhatItTakesPlacesOf_24 (lb rfl) ?_
      refine w_aload_n dX0_forbidWhatItTakesPlacesOf_25 rfl ?_
      refine r_geti  dX0_forbidWhatItTakesPlacesOf_26 ft_0_72 R rfl (cT_Ru hT hk) rfl (lb rfl) (cT_R hT hk 2 (lb rfl)) ?_
      refine w_gets dX0_forbidWhatItTakesPlacesOf_29 st_0_76 ?_
      refine r_acmp_eq (t := 56) dX0_forbidWhatItTakesPlacesOf_32 rfl (fun h32 => ?_) (fun h32 => ?_)
      ·
        refine w_iinc dX0_forbidWhatItTakesPlacesOf_56 h2 (nI_1 _) (lb rfl) ?_
        refine w_goto (t := 2) dX0_forbidWhatItTakesPlacesOf_59 rfl ?_
        exact ih (t + 1) _ _ _ (by omega) R (by omega) hf (fun x hx => by
          refine (hm x hx).c ⟨fun h => ⟨h.1, fun j hj => ?_⟩, fun h => ⟨h.1, fun j hj => h.2 j (by omega)⟩⟩
          by_cases e : j = t
          · subst e; exact fun q => q.2 (by rw [ek]; exact i32e (by rw [← ctk, hE.2.2 _ _ (by omega) (by omega) h32]; rfl))
          · exact h.2 j (by omega)) h1 rfl kx
      ·
        have h3 : ¬ tT τ 23 k = 3 := fun e => h32 (by rw [show cl (tT τ 23 k) = 3 by rw [e]; rfl])
        refine w_aload_n dX0_forbidWhatItTakesPlacesOf_35 rfl ?_
        refine r_getr  dX0_forbidWhatItTakesPlacesOf_36 ft_0_81 R rfl (cT_Ru hT hk) rfl (lb rfl) (cT_R hT hk 3 (lb rfl)) ?_
        cases et : tgS τ (cl (tT τ 24 k)) with
        | none =>
          refine r_geti  dX0_forbidWhatItTakesPlacesOf_39 ft_0_85 R rfl (cT_Yu hT hyk) rfl (lb rfl) (nk.1.trans (congrArg oV et)) ?_
          refine r_nullT (t := 56) dX0_forbidWhatItTakesPlacesOf_42 rfl ?_
          refine w_iinc dX0_forbidWhatItTakesPlacesOf_56 h2 (nI_1 _) (lb rfl) ?_
          refine w_goto (t := 2) dX0_forbidWhatItTakesPlacesOf_59 rfl ?_
          exact ih (t + 1) _ _ _ (by omega) R (by omega) hf (fun x hx => by
            refine (hm x hx).c ⟨fun h => ⟨h.1, fun j hj => ?_⟩, fun h => ⟨h.1, fun j hj => h.2 j (by omega)⟩⟩
            by_cases e : j = t
            · subst e; exact fun q => by have := q.1; rw [ek, et] at this; cases this
            · exact h.2 j (by omega)) h1 rfl kx
        | some u =>
          have hu9 := (tgS_lt hV hyk et).2.2
          refine r_getr  dX0_forbidWhatItTakesPlacesOf_39 ft_0_85 R rfl (cT_Yu hT hyk) rfl (lb rfl) (nk.1.trans (congrArg oV et)) ?_
          refine r_nullF (t := 56) dX0_forbidWhatItTakesPlacesOf_42 rfl ?_
          refine w_aload_n dX0_forbidWhatItTakesPlacesOf_45 rfl ?_
          refine r_getr  dX0_forbidWhatItTakesPlacesOf_46 ft_0_81 R rfl (cT_Ru hT hk) rfl (lb rfl) (cT_R hT hk 3 (lb rfl)) ?_
          refine r_getr  dX0_forbidWhatItTakesPlacesOf_49 ft_0_85 R rfl (cT_Yu hT hyk) rfl (lb rfl) (nk.1.trans (congrArg oV et)) ?_
          refine w_iconst (v := 0) dX0_forbidWhatItTakesPlacesOf_52 (by decide) ?_
          refine r_puti  dX0_forbidWhatItTakesPlacesOf_53 ft_0_59 R rfl (cT_Su hT hu9) rfl (lb rfl) (fun h => by cases h) rfl rfl (fun G1 R1 => ?_)
          refine w_iinc dX0_forbidWhatItTakesPlacesOf_56 h2 (nI_1 _) (lb rfl) ?_
          refine w_goto (t := 2) dX0_forbidWhatItTakesPlacesOf_59 rfl ?_
          exact ih (t + 1) _ _ _ (by omega) R1 (by omega) hf.X (fun x hx => by
            by_cases e2 : x = u
            · subst e2
              refine ⟨false, sX_s, ?_⟩
              constructor
              · intro e; cases e
              · intro h; exact absurd ⟨by rw [ek]; exact et, by rw [ek]; exact h3⟩ (h.2 t (by omega))
            · refine MF.f ?_ (sX_p (by omega))
              refine (hm x hx).c ⟨fun h => ⟨h.1, fun j hj => ?_⟩, fun h => ⟨h.1, fun j hj => h.2 j (by omega)⟩⟩
              by_cases e : j = t
              · subst e; exact fun q => by have := q.1; rw [ek, et] at this; cases this; exact e2 rfl
              · exact h.2 j (by omega)) h1 rfl kx
theorem c0_forbid {s0 : rx_S} {τ : tx_T} (hT0 : CT E s0 τ) (hS0 : rx_in s0) (hV : TV τ) (hE : WE b0 O E) (hD0 : KD E s0 τ) (R : rx_R b0 O z1 z2 s G) (hf : cf wG s0 s) {a : Nat} (ha : a < tN τ 1) {P : Nat → Prop} (hm : ∀ x, x < tN τ 1 → MF s x (P x)) (q : ∀ (s' : rx_S) (G' : mx_H), rx_R b0 O z1 z2 s' G' → cf wG s0 s' → (∀ x, x < tN τ 1 → MF s' x (P x ∧ ∀ j, j < rlN τ a → ¬ FBp τ x a j)) → Q (.inl none) G') : mx_W (gt_P b0 mi E) mX0_forbidWhatItTakesPlacesOf 0 (mx_en 0 [.ref (rA s 6 0), .ref (rA s 20 a)]) [] G Q := by
  refine w_iconst (v := nI 0) dX0_forbidWhatItTakesPlacesOf_0 (by decide) ?_
  refine w_istore_n dX0_forbidWhatItTakesPlacesOf_1 (lb rfl) ?_
  exact c0_fb_l hT0 hS0 hV hE hD0 ha _ 0 _ s _ (Nat.lt_succ_self _) R (Nat.zero_le _) hf (fun x hx => (hm x hx).c ⟨fun h => ⟨h, fun j hj => absurd hj (Nat.not_lt_zero _)⟩, fun h => h.1⟩) rfl rfl q
theorem c0_mf2 {s0 : rx_S} {τ : tx_T} (hT0 : CT E s0 τ) (hS0 : rx_in s0) (hV : TV τ) (hE : WE b0 O E) (hD0 : KD E s0 τ)  : ∀ (d : Nat) (t : Nat) (L : mx_L) (s : rx_S) (G : mx_H), tN τ 1 - t < d → rx_R b0 O z1 z2 s G → t ≤ tN τ 1 → cf wG s0 s → (∀ x, x < tN τ 1 → MF s x (m0B τ true x = true ∧ ∀ a j, a < t → kin (kR τ) a = true → j < rlN τ a → ¬ FBp τ x a j)) → L 0 = some (.ref (rA s 6 0)) → L 1 = some (.ref (rA s 8 0)) → L 2 = some (.int (nI t)) → (∀ (s' : rx_S) (G' : mx_H), rx_R b0 O z1 z2 s' G' → cf wG s0 s' → (∀ x, x < tN τ 1 → MF s' x (mayB τ true x = true)) → Q (.inl none) G') → mx_W (gt_P b0 mi E) mX0_findWhatMayFold 85 L [] G Q := by
  intro d
  induction d with
  | zero => intro t L s G hd; exact absurd hd (Nat.not_lt_zero _)
  | succ d ih =>
    intro t L s G hd R ht hf hm h0 h1 h2 kx
    have hV0 := hV.1
    have hT := CT_cf hT0 hS0 hf
    have hS := hf.inn hS0
    have hD := KD_cf hD0 hf
    have hN := hD.1
    have hvR := (kR_cl hV).2
    have hlen := kV_len hvR
    refine w_iload_n dX0_findWhatMayFold_85 h2 ?_
    refine w_aload_n dX0_findWhatMayFold_86 h1 ?_
    refine r_inv0  dX0_findWhatMayFold_87 mt_0_15 R rfl (hS _ _ rfl) rfl (lb rfl) (lb rfl) (lb rfl) (lb rfl) rfl (c_lsize R rfl (hS _ _ rfl) (cT_l0 hT).2.1 ⟨_, rfl, ?_⟩)
    refine r_icmp_gen (t := 125) dX0_findWhatMayFold_90 rfl (by omega) (by omega) (fun h90 => ?_) (fun h90 => ?_)
    ·
      refine w_ret dX0_findWhatMayFold_125 rfl ?_
      obtain rfl : t = tN τ 1 := by omega
      exact kx _ _ R hf (fun x hx => (hm x hx).c (may_iff hV).symm)
    ·
      have htn : t < tN τ 1 := by omega
      have hus := cT_Su hT htn
      refine w_aload_n dX0_findWhatMayFold_93 h1 ?_
      refine w_iload_n dX0_findWhatMayFold_94 h2 ?_
      refine r_inv1  dX0_findWhatMayFold_95 mt_0_21 R rfl (hS _ _ rfl) rfl (lb rfl) (lb rfl) (lb rfl) (lb rfl) rfl (c_lget R rfl (hS _ _ rfl) (cT_l0 hT) htn ⟨_, rfl, ?_⟩)
      refine r_cast dX0_findWhatMayFold_98 qt_0_25 R rfl hus rfl (by decide) ?_
      refine r_inv0  dX0_findWhatMayFold_101 mt_0_48 R rfl (cT_Su hT htn) rfl (lb rfl) (lb rfl) (lb rfl) (lb rfl) rfl (c5_isKept R (cT_Su hT htn) (hD.2.2.1 t htn) (fun e101 => ⟨_, rfl, ?_⟩) (fun e101 => ⟨_, rfl, ?_⟩))
      ·
        refine w_if_eq (t := 119) dX0_findWhatMayFold_104 rfl (fun h => absurd h (by decide)) (fun _ => ?_)
        refine w_aload_n dX0_findWhatMayFold_107 h0 ?_
        refine w_aload_n dX0_findWhatMayFold_108 h1 ?_
        refine w_iload_n dX0_findWhatMayFold_109 h2 ?_
        refine r_inv1  dX0_findWhatMayFold_110 mt_0_21 R rfl (hS _ _ rfl) rfl (lb rfl) (lb rfl) (lb rfl) (lb rfl) rfl (c_lget R rfl (hS _ _ rfl) (cT_l0 hT) htn ⟨_, rfl, ?_⟩)
        refine r_cast dX0_findWhatMayFold_113 qt_0_25 R rfl hus rfl (by decide) ?_
        refine r_inv1  dX0_findWhatMayFold_116 mt_0_62 R rfl (hS _ _ rfl) rfl (lb rfl) (lb rfl) (lb rfl) (lb rfl) rfl (c0_forbid hT0 hS0 hV hE hD0 R hf htn hm (fun s2 G2 R2 f2 m2 => ⟨_, rfl, ?_⟩))
        refine w_iinc dX0_findWhatMayFold_119 h2 (nI_1 _) (lb rfl) ?_
        refine w_goto (t := 85) dX0_findWhatMayFold_122 rfl ?_
        exact ih (t + 1) _ _ _ (by omega) R2 (by omega) f2 (fun x hx => (m2 x hx).c ⟨fun h => ⟨h.1.1, fun a j ha hk hj => by
          by_cases e : a = t
          · subst e; exact h.2 j hj
          · exact h.1.2 a j (by omega) hk hj⟩, fun h => ⟨⟨h.1, fun a j ha hk hj => h.2 a j (by omega) hk hj⟩, fun j hj => h.2 t j (by omega) (by cases ek : kin (kR τ) t with | true => rfl | false => exact absurd ((krk_kin (by omega) _).mpr ek) e101) hj⟩⟩) (by rw [f2.1, ← hf.1]; exact h0) (by rw [f2.1, ← hf.1]; exact h1) rfl kx
      ·
        refine w_if_eq (t := 119) dX0_findWhatMayFold_104 rfl (fun _ => ?_) (fun h => absurd (by decide) h)
        refine w_iinc dX0_findWhatMayFold_119 h2 (nI_1 _) (lb rfl) ?_
        refine w_goto (t := 85) dX0_findWhatMayFold_122 rfl ?_
        exact ih (t + 1) _ _ _ (by omega) R (by omega) hf (fun x hx => (hm x hx).c ⟨fun h => ⟨h.1, fun a j ha hk hj => by
          by_cases e : a = t
          · rw [e, ((krk_kin (by omega) _).mp (Classical.not_not.mp e101))] at hk; cases hk
          · exact h.2 a j (by omega) hk hj⟩, fun h => ⟨h.1, fun a j ha hk hj => h.2 a j (by omega) hk hj⟩⟩) h0 h1 rfl kx
theorem c0_mayFold {s0 : rx_S} {τ : tx_T} (hT0 : CT E s0 τ) (hS0 : rx_in s0) (hV : TV τ) (hE : WE b0 O E) (hD0 : KD E s0 τ) (R : rx_R b0 O z1 z2 s G) (hf : cf wG s0 s) (q : ∀ (s' : rx_S) (G' : mx_H), rx_R b0 O z1 z2 s' G' → cf wG s0 s' → (∀ x, x < tN τ 1 → MF s' x (mayB τ true x = true)) → Q (.inl none) G') : mx_W (gt_P b0 mi E) mX0_findWhatMayFold 0 (mx_en 0 [.ref (rA s 6 0), .ref (rA s 8 0)]) [] G Q := by
  refine w_iconst (v := nI 0) dX0_findWhatMayFold_0 (by decide) ?_
  refine w_istore_n dX0_findWhatMayFold_1 (lb rfl) ?_
  refine c0_mf1 hT0 hS0 hV hE hD0 _ 0 _ s _ (Nat.lt_succ_self _) R (Nat.zero_le _) hf (fun x hx => absurd hx (Nat.not_lt_zero _)) rfl rfl rfl (fun L2 s2 G2 R2 f2 m2 h0 h1 => ?_)
  refine w_iconst (v := nI 0) dX0_findWhatMayFold_83 (by decide) ?_
  refine w_istore_n dX0_findWhatMayFold_84 (lb rfl) ?_
  exact c0_mf2 hT0 hS0 hV hE hD0 _ 0 _ s2 _ (Nat.lt_succ_self _) R2 (Nat.zero_le _) f2 (fun x hx => (m2 x hx).c ⟨fun h => ⟨h, fun a j ha => absurd ha (Nat.not_lt_zero _)⟩, fun h => h.1⟩) h0 h1 rfl q
end
