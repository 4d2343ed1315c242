def chg (K K' : Nat → Nat) (n : Nat) : Prop := ∃ x, x < n ∧ K' x ≠ K x
section
variable {b0 mi z1 z2 : Nat} {E : Nat → Nat} {O : Nat → Option mx_C} {s : rx_S} {G : mx_H} {Q : mx_O → mx_H → Prop}
theorem c0_tk (R : rx_R b0 O z1 z2 s G) (hS : rx_in s) {τ : tx_T} (hT : CT E s τ) (hV : TV τ) (hN : NC s τ) {K : Nat → Nat} (hk : ∀ x, x < tN τ 1 → rX s 20 x 15 = .inr (20, K x)) (hKl : ∀ x, x < tN τ 1 → K x < tN τ 1) {a b : Nat} (ha : a < tN τ 1) (hb2 : b < tN τ 1) (q1 : (TK τ K a b) → Q (.inl (some (.int 1))) G) (q0 : ¬ (TK τ K a b) → Q (.inl (some (.int 0))) G) : mx_W (gt_P b0 mi E) mX0_targetsAreKin 0 (mx_en 0 [.ref (rA s 6 0), .ref (rA s 20 a), .ref (rA s 20 b)]) [] G Q := by
  refine w_iconst (v := nI 0) dX0_targetsAreKin_0 (by decide) ?_
  refine w_istore_n dX0_targetsAreKin_1 (lb rfl) ?_
  exact c0_tk_l R hS hT hV hN hk hKl ha hb2 q1 q0 _ 0 _ (Nat.lt_succ_self _) (Nat.zero_le _) (fun i hi => absurd hi (Nat.not_lt_zero _)) rfl rfl rfl
theorem c0_fk_l {s : rx_S} {G : mx_H} (R : rx_R b0 O z1 z2 s G) (hS : rx_in s) {τ : tx_T} (hT : CT E s τ) (hV : TV τ) (hN : NC s τ) {K K' : Nat → Nat} (hk : ∀ x, x < tN τ 1 → rX s 20 x 15 = .inr (20, K x)) (hKl : ∀ x, x < tN τ 1 → K x < tN τ 1) {i : Nat} (hin : i < tN τ 1) (hk' : ∀ x, x < i → rX s 20 x 16 = .inr (20, K' x)) (hKl' : ∀ x, x < i → K' x < tN τ 1) (q : ∀ r, ((r = i ∧ ∀ j, j < i → K' j = j → ¬ (PP τ K) j i) ∨ (r < i ∧ K' r = r ∧ (PP τ K) r i ∧ ∀ j, j < r → K' j = j → ¬ (PP τ K) j i)) → Q (.inl (some (.ref (rA s 20 r)))) G) : ∀ (d : Nat) (t : Nat) (L : mx_L), i - t < d → t ≤ i → (∀ j, j < t → K' j = j → ¬ (PP τ K) j i) → L 0 = some (.ref (rA s 6 0)) → L 1 = some (.ref (rA s 8 0)) → L 2 = some (.int (nI i)) → L 3 = some (.ref (rA s 20 i)) → L 4 = some (.int (nI t)) → mx_W (gt_P b0 mi E) mX0_firstOfTheSameKin 3 L [] G Q := by
  intro d
  induction d with
  | zero => intro t L hd; exact absurd hd (Nat.not_lt_zero _)
  | succ d ih =>
    intro t L hd ht hb h0 h1 h2 h3 h4
    have hV0 := hV.1
    refine w_iload dX0_firstOfTheSameKin_3 h4 ?_
    refine w_iload_n dX0_firstOfTheSameKin_5 h2 ?_
    refine r_icmp_gen (t := 70) dX0_firstOfTheSameKin_6 rfl (by omega) (by omega) (fun h6 => ?_) (fun h6 => ?_)
    ·
      refine w_aload_n dX0_firstOfTheSameKin_70 h3 ?_
      exact w_aret (x := some _) dX0_firstOfTheSameKin_71 rfl (by first | exact Or.inl ⟨_, rfl⟩ | exact Or.inr ⟨_, rfl⟩) (q i (Or.inl ⟨rfl, fun j hj => hb j (by omega)⟩))
    ·
      refine w_iload dX0_firstOfTheSameKin_9 h4 ?_
      refine w_aload_n dX0_firstOfTheSameKin_11 h1 ?_
      refine r_inv0  dX0_firstOfTheSameKin_12 mt_0_15 R rfl (hS _ _ rfl) rfl (lb rfl) (lb rfl) (lb rfl) (lb rfl) rfl (c_lsize R rfl (hS _ _ rfl) (cT_l0 hT).2.1 ⟨_, rfl, ?_⟩)
      refine r_icmp_gen (t := 70) dX0_firstOfTheSameKin_15 rfl (by omega) (by omega) (fun h => by omega) (fun h15 => ?_)
      have hjn : t < tN τ 1 := by omega
      have hti : t < i := by omega
      have hut := cT_Su hT hjn
      have hui := cT_Su hT hin
      have hk9 := hKl' t hti
      refine w_aload_n dX0_firstOfTheSameKin_18 h1 ?_
      refine w_iload dX0_firstOfTheSameKin_19 h4 ?_
      refine r_inv1  dX0_firstOfTheSameKin_21 mt_0_21 R rfl (hS _ _ rfl) rfl (lb rfl) (lb rfl) (lb rfl) (lb rfl) rfl (c_lget R rfl (hS _ _ rfl) (cT_l0 hT) hjn ⟨_, rfl, ?_⟩)
      refine r_cast dX0_firstOfTheSameKin_24 qt_0_25 R rfl hut rfl (by decide) ?_
      refine w_astore dX0_firstOfTheSameKin_27 (lb rfl) ?_
      refine w_aload dX0_firstOfTheSameKin_29 rfl ?_
      refine r_getr  dX0_firstOfTheSameKin_31 ft_0_122 R rfl hut rfl (lb rfl) (hk' t hti) ?_
      refine w_aload dX0_firstOfTheSameKin_34 rfl ?_
      refine r_acmp_ne (t := 64) dX0_firstOfTheSameKin_36 rfl (fun h36 => ?_) (fun h36 => ?_)
      ·
        refine w_iinc dX0_firstOfTheSameKin_64 h4 (nI_1 _) (lb rfl) ?_
        refine w_goto (t := 3) dX0_firstOfTheSameKin_67 rfl ?_
        exact ih (t + 1) _ (by omega) (by omega) (fun i2 hi2 => by
          by_cases e : i2 = t
          · subst e
            exact fun e => absurd ((rx_inj R (cT_Su hT hk9) (cT_Su hT hjn)).mpr ⟨rfl, e⟩) h36
          · exact hb i2 (by omega)) h0 h1 h2 h3 rfl
      ·
        refine w_aload dX0_firstOfTheSameKin_39 rfl ?_
        refine r_getr  dX0_firstOfTheSameKin_41 ft_0_90 R rfl hut rfl (lb rfl) (hk t hjn) ?_
        refine w_aload_n dX0_firstOfTheSameKin_44 h3 ?_
        refine r_getr  dX0_firstOfTheSameKin_45 ft_0_90 R rfl hui rfl (lb rfl) (hk i hin) ?_
        refine r_acmp_ne (t := 64) dX0_firstOfTheSameKin_48 rfl (fun h48 => ?_) (fun h48 => ?_)
        ·
          refine w_iinc dX0_firstOfTheSameKin_64 h4 (nI_1 _) (lb rfl) ?_
          refine w_goto (t := 3) dX0_firstOfTheSameKin_67 rfl ?_
          exact ih (t + 1) _ (by omega) (by omega) (fun i2 hi2 => by
            by_cases e : i2 = t
            · subst e
              exact fun _ hp => h48 (by rw [hp.1])
            · exact hb i2 (by omega)) h0 h1 h2 h3 rfl
        ·
          refine w_aload_n dX0_firstOfTheSameKin_51 h0 ?_
          refine w_aload dX0_firstOfTheSameKin_52 rfl ?_
          refine w_aload_n dX0_firstOfTheSameKin_54 h3 ?_
          refine r_inv2  dX0_firstOfTheSameKin_55 mt_0_125 R rfl (hS _ _ rfl) rfl (lb rfl) (lb rfl) (lb rfl) (lb rfl) rfl (c0_tk R hS hT hV hN hk hKl hjn hin (fun e55 => ⟨_, rfl, ?_⟩) (fun e55 => ⟨_, rfl, ?_⟩))
          ·
            refine w_if_eq (t := 64) dX0_firstOfTheSameKin_58 rfl (fun h => absurd h (by decide)) (fun _ => ?_)
            refine w_aload dX0_firstOfTheSameKin_61 rfl ?_
            exact w_aret (x := some _) dX0_firstOfTheSameKin_63 rfl (by first | exact Or.inl ⟨_, rfl⟩ | exact Or.inr ⟨_, rfl⟩) (q t (Or.inr ⟨hti, ((rx_inj R (cT_Su hT hk9) hut).mp h36).2, ⟨((rx_inj R (cT_Su hT (hKl t hjn)) (cT_Su hT (hKl i hin))).mp h48).2, e55⟩, hb⟩))
          ·
            refine w_if_eq (t := 64) dX0_firstOfTheSameKin_58 rfl (fun _ => ?_) (fun h => absurd (by decide) h)
            refine w_iinc dX0_firstOfTheSameKin_64 h4 (nI_1 _) (lb rfl) ?_
            refine w_goto (t := 3) dX0_firstOfTheSameKin_67 rfl ?_
            exact ih (t + 1) _ (by omega) (by omega) (fun i2 hi2 => by
              by_cases e : i2 = t
              · subst e
                exact fun _ hp => e55 hp.2
              · exact hb i2 (by omega)) h0 h1 h2 h3 rfl
theorem c0_fk (R : rx_R b0 O z1 z2 s G) (hS : rx_in s) {τ : tx_T} (hT : CT E s τ) (hV : TV τ) (hN : NC s τ) {K K' : Nat → Nat} (hk : ∀ x, x < tN τ 1 → rX s 20 x 15 = .inr (20, K x)) (hKl : ∀ x, x < tN τ 1 → K x < tN τ 1) {i : Nat} (hin : i < tN τ 1) (hk' : ∀ x, x < i → rX s 20 x 16 = .inr (20, K' x)) (hKl' : ∀ x, x < i → K' x < tN τ 1) (q : ∀ r, ((r = i ∧ ∀ j, j < i → K' j = j → ¬ (PP τ K) j i) ∨ (r < i ∧ K' r = r ∧ (PP τ K) r i ∧ ∀ j, j < r → K' j = j → ¬ (PP τ K) j i)) → Q (.inl (some (.ref (rA s 20 r)))) G)  : mx_W (gt_P b0 mi E) mX0_firstOfTheSameKin 0 (mx_en 0 [.ref (rA s 6 0), .ref (rA s 8 0), .int (nI i), .ref (rA s 20 i)]) [] G Q := by
  refine w_iconst (v := nI 0) dX0_firstOfTheSameKin_0 (by decide) ?_
  refine w_istore dX0_firstOfTheSameKin_1 (lb rfl) ?_
  exact c0_fk_l R hS hT hV hN hk hKl hin hk' hKl' q _ 0 _ (Nat.lt_succ_self _) (Nat.zero_le _) (fun i hi => absurd hi (Nat.not_lt_zero _)) rfl rfl rfl rfl rfl
theorem c0_pk1 {s0 : rx_S} {τ : tx_T} (hT0 : CT E s0 τ) (hS0 : rx_in s0) (hV : TV τ) (hE : WE b0 O E) (hD0 : KD E s0 τ) {K : Nat → Nat} (hKl : ∀ x, x < tN τ 1 → K x < tN τ 1)  : ∀ (d : Nat) (i : Nat) (K' : Nat → Nat) (p : Bool) (L : mx_L) (s : rx_S) (G : mx_H), tN τ 1 - i < d → rx_R b0 O z1 z2 s G → i ≤ tN τ 1 → cf wG s0 s → (∀ x, x < tN τ 1 → rX s 20 x 15 = .inr (20, K x)) → (∀ x, x < i → rX s 20 x 16 = .inr (20, K' x)) → (∀ x, x < i → KF K' (PP τ K) x) → (p = true ↔ chg K K' i) → L 0 = some (.ref (rA s 6 0)) → L 1 = some (.ref (rA s 8 0)) → L 2 = some (.int (b32 p)) → L 3 = some (.int (nI i)) → (∀ (K' : Nat → Nat) (p : Bool) (L : mx_L) (s : rx_S) (G : mx_H), rx_R b0 O z1 z2 s G → cf wG s0 s → (∀ x, x < tN τ 1 → rX s 20 x 15 = .inr (20, K x)) → (∀ x, x < tN τ 1 → rX s 20 x 16 = .inr (20, K' x)) → (∀ x, x < tN τ 1 → KF K' (PP τ K) x) → (p = true ↔ chg K K' (tN τ 1)) → L 1 = some (.ref (rA s 8 0)) → L 2 = some (.int (b32 p)) → mx_W (gt_P b0 mi E) mX0_partKin 64 L [] G Q) → mx_W (gt_P b0 mi E) mX0_partKin 4 L [] G Q := by
  intro d
  induction d with
  | zero => intro i K' p L s G hd; exact absurd hd (Nat.not_lt_zero _)
  | succ d ih =>
    intro i K' p L s G hd R hi hf hk hk' hkf hp h0 h1 h2 h3 kx
    have hV0 := hV.1
    have hT := CT_cf hT0 hS0 hf
    have hS := hf.inn hS0
    have hD := KD_cf hD0 hf
    have hN := hD.1
    have hvR := (kR_cl hV).2
    have hlen := kV_len hvR
    refine w_iload_n dX0_partKin_4 h3 ?_
    refine w_aload_n dX0_partKin_5 h1 ?_
    refine r_inv0  dX0_partKin_6 mt_0_15 R rfl (hS _ _ rfl) rfl (lb rfl) (lb rfl) (lb rfl) (lb rfl) rfl (c_lsize R rfl (hS _ _ rfl) (cT_l0 hT).2.1 ⟨_, rfl, ?_⟩)
    refine r_icmp_gen (t := 64) dX0_partKin_9 rfl (by omega) (by omega) (fun h9 => ?_) (fun h9 => ?_)
    ·
      obtain rfl : i = tN τ 1 := by omega
      exact kx K' p _ _ _ R hf hk hk' hkf hp h1 h2
    ·
      have hin : i < tN τ 1 := by omega
      have hui := cT_Su hT hin
      have hKl' : ∀ x, x < i → K' x < tN τ 1 := fun x hx => by have := (KF_le (hkf x hx)).1; omega
      refine w_aload_n dX0_partKin_12 h1 ?_
      refine w_iload_n dX0_partKin_13 h3 ?_
      refine r_inv1  dX0_partKin_14 mt_0_21 R rfl (hS _ _ rfl) rfl (lb rfl) (lb rfl) (lb rfl) (lb rfl) rfl (c_lget R rfl (hS _ _ rfl) (cT_l0 hT) hin ⟨_, rfl, ?_⟩)
      refine r_cast dX0_partKin_17 qt_0_25 R rfl hui rfl (by decide) ?_
      refine w_astore dX0_partKin_20 (lb rfl) ?_
      refine w_aload dX0_partKin_22 rfl ?_
      refine w_aload_n dX0_partKin_24 h0 ?_
      refine w_aload_n dX0_partKin_25 h1 ?_
      refine w_iload_n dX0_partKin_26 h3 ?_
      refine w_aload dX0_partKin_27 rfl ?_
      refine r_inv3  dX0_partKin_29 mt_0_118 R rfl (hS _ _ rfl) rfl (lb rfl) (lb rfl) (lb rfl) (lb rfl) rfl (c0_fk R hS hT hV hN hk hKl hin hk' hKl' (fun r kr => ⟨_, rfl, ?_⟩))
      have hr9 : r < tN τ 1 := by omega
      have hur := cT_Su hT hr9
      refine r_putr  dX0_partKin_32 ft_0_122 R rfl hui rfl (lb rfl) (fun h => by cases h) rfl rfl rfl hur (fun G1 R1 => ?_)
      refine w_iload_n dX0_partKin_35 h2 ?_
      refine r_if_neP (t := 52) dX0_partKin_36 rfl (fun h36 => ?_) (fun h36 => ?_)
      ·
        refine w_iconst (v := 1) dX0_partKin_52 (by decide) ?_
        refine w_goto (t := 57) dX0_partKin_53 rfl ?_
        refine w_istore_n dX0_partKin_57 (lb rfl) ?_
        refine w_iinc dX0_partKin_58 h3 (nI_1 _) (lb rfl) ?_
        refine w_goto (t := 4) dX0_partKin_61 rfl ?_
        obtain ⟨K2, eI, eK⟩ : ∃ K2 : Nat → Nat, K2 i = r ∧ ∀ y, y < i → K2 y = K' y := ⟨fun x => if x = i then r else K' x, if_pos rfl, fun y hy => if_neg (by omega)⟩
        refine ih (i + 1) K2 true _ _ _ (by omega) R1 (by omega) hf.X (fun x hx => (sX_p (by omega)).trans (hk x hx)) (fun x hx => ?_) (fun x hx => ?_) ⟨fun _ => by obtain ⟨x, hx, e⟩ := hp.mp (b32_ne h36); exact ⟨x, by omega, by rw [eK x hx]; exact e⟩, fun _ => rfl⟩ h0 h1 rfl rfl kx
        · by_cases e : x = i
          · rw [e, eI]; exact sX_s
          · rw [eK x (by omega)]; exact (sX_p (by omega)).trans (hk' x (by omega))
        · by_cases e : x = i
          · subst e
            rcases kr with ⟨a1, a2⟩ | ⟨a1, a2, a3, a4⟩
            · exact Or.inl ⟨eI.trans a1, fun j hj hk => a2 j hj (by rw [← eK j hj]; exact hk)⟩
            · refine Or.inr ⟨by rw [eI]; exact a1, by rw [eI, eK r a1]; exact a2, by rw [eI]; exact a3, fun j hj hk => ?_⟩
              rw [eI] at hj
              exact a4 j hj (by rw [← eK j (by omega)]; exact hk)
          · exact KF_congr (hkf x (by omega)) (fun y hy => eK y (by omega))
      ·
        refine w_aload dX0_partKin_39 rfl ?_
        refine r_getr  dX0_partKin_41 ft_0_122 R1 rfl hui rfl (lb rfl) sX_s ?_
        refine w_aload dX0_partKin_44 rfl ?_
        refine r_getr  dX0_partKin_46 ft_0_90 R1 rfl hui rfl (lb rfl) ((sX_p (by omega)).trans (hk i hin)) ?_
        refine r_acmp_eq (t := 56) dX0_partKin_49 rfl (fun h49 => ?_) (fun h49 => ?_)
        ·
          refine w_iconst (v := 0) dX0_partKin_56 (by decide) ?_
          refine w_istore_n dX0_partKin_57 (lb rfl) ?_
          refine w_iinc dX0_partKin_58 h3 (nI_1 _) (lb rfl) ?_
          refine w_goto (t := 4) dX0_partKin_61 rfl ?_
          obtain ⟨K2, eI, eK⟩ : ∃ K2 : Nat → Nat, K2 i = r ∧ ∀ y, y < i → K2 y = K' y := ⟨fun x => if x = i then r else K' x, if_pos rfl, fun y hy => if_neg (by omega)⟩
          refine ih (i + 1) K2 false _ _ _ (by omega) R1 (by omega) hf.X (fun x hx => (sX_p (by omega)).trans (hk x hx)) (fun x hx => ?_) (fun x hx => ?_) ⟨fun e => (by cases e), fun ⟨x, hx, e⟩ => ?_⟩ h0 h1 rfl rfl kx
          · by_cases e : x = i
            · rw [e, eI]; exact sX_s
            · rw [eK x (by omega)]; exact (sX_p (by omega)).trans (hk' x (by omega))
          · by_cases e : x = i
            · subst e
              rcases kr with ⟨a1, a2⟩ | ⟨a1, a2, a3, a4⟩
              · exact Or.inl ⟨eI.trans a1, fun j hj hk => a2 j hj (by rw [← eK j hj]; exact hk)⟩
              · refine Or.inr ⟨by rw [eI]; exact a1, by rw [eI, eK r a1]; exact a2, by rw [eI]; exact a3, fun j hj hk => ?_⟩
                rw [eI] at hj
                exact a4 j hj (by rw [← eK j (by omega)]; exact hk)
            · exact KF_congr (hkf x (by omega)) (fun y hy => eK y (by omega))
          · exfalso
            by_cases e2 : x = i
            · rw [e2, eI] at e
              exact e ((rx_inj R hur (cT_Su hT (hKl i hin))).mp h49).2
            · have hpt := hp.mpr ⟨x, by omega, by rw [← eK x (by omega)]; exact e⟩
              rw [b32_eq h36] at hpt; cases hpt
        ·
          refine w_iconst (v := 1) dX0_partKin_52 (by decide) ?_
          refine w_goto (t := 57) dX0_partKin_53 rfl ?_
          refine w_istore_n dX0_partKin_57 (lb rfl) ?_
          refine w_iinc dX0_partKin_58 h3 (nI_1 _) (lb rfl) ?_
          refine w_goto (t := 4) dX0_partKin_61 rfl ?_
          obtain ⟨K2, eI, eK⟩ : ∃ K2 : Nat → Nat, K2 i = r ∧ ∀ y, y < i → K2 y = K' y := ⟨fun x => if x = i then r else K' x, if_pos rfl, fun y hy => if_neg (by omega)⟩
          refine ih (i + 1) K2 true _ _ _ (by omega) R1 (by omega) hf.X (fun x hx => (sX_p (by omega)).trans (hk x hx)) (fun x hx => ?_) (fun x hx => ?_) ⟨fun _ => ⟨i, by omega, by rw [eI]; exact fun e => h49 (by rw [e])⟩, fun _ => rfl⟩ h0 h1 rfl rfl kx
          · by_cases e : x = i
            · rw [e, eI]; exact sX_s
            · rw [eK x (by omega)]; exact (sX_p (by omega)).trans (hk' x (by omega))
          · by_cases e : x = i
            · subst e
              rcases kr with ⟨a1, a2⟩ | ⟨a1, a2, a3, a4⟩
              · exact Or.inl ⟨eI.trans a1, fun j hj hk => a2 j hj (by rw [← eK j hj]; exact hk)⟩
              · refine Or.inr ⟨by rw [eI]; exact a1, by rw [eI, eK r a1]; exact a2, by rw [eI]; exact a3, fun j hj hk => ?_⟩
                rw [eI] at hj
                exact a4 j hj (by rw [← eK j (by omega)]; exact hk)
            · exact KF_congr (hkf x (by omega)) (fun y hy => eK y (by omega))
theorem c0_pk2 {s0 : rx_S} {τ : tx_T} (hT0 : CT E s0 τ) (hS0 : rx_in s0) (hV : TV τ) (hE : WE b0 O E) (hD0 : KD E s0 τ) {K' : Nat → Nat} (hKl' : ∀ x, x < tN τ 1 → K' x < tN τ 1) {v : Int32} (hv9 : narrow .boolean (.int v) = .int v)  : ∀ (d : Nat) (i : Nat) (L : mx_L) (s : rx_S) (G : mx_H), tN τ 1 - i < d → rx_R b0 O z1 z2 s G → i ≤ tN τ 1 → cf wG s0 s → (∀ x, x < tN τ 1 → rX s 20 x 16 = .inr (20, K' x)) → (∀ x, x < i → rX s 20 x 15 = .inr (20, K' x)) → L 1 = some (.ref (rA s 8 0)) → L 2 = some (.int v) → L 3 = some (.int (nI i)) → (∀ (s' : rx_S) (G' : mx_H), rx_R b0 O z1 z2 s' G' → cf wG s0 s' → (∀ x, x < tN τ 1 → rX s' 20 x 15 = .inr (20, K' x)) → Q (.inl (some (.int v))) G') → mx_W (gt_P b0 mi E) mX0_partKin 66 L [] G Q := by
  intro d
  induction d with
  | zero => intro i L s G hd; exact absurd hd (Nat.not_lt_zero _)
  | succ d ih =>
    intro i L s G hd R hi hf hk' hk h1 h2 h3 kx
    have hV0 := hV.1
    have hT := CT_cf hT0 hS0 hf
    have hS := hf.inn hS0
    have hD := KD_cf hD0 hf
    have hN := hD.1
    have hvR := (kR_cl hV).2
    have hlen := kV_len hvR
    refine w_iload_n dX0_partKin_66 h3 ?_
    refine w_aload_n dX0_partKin_67 h1 ?_
    refine r_inv0  dX0_partKin_68 mt_0_15 R rfl (hS _ _ rfl) rfl (lb rfl) (lb rfl) (lb rfl) (lb rfl) rfl (c_lsize R rfl (hS _ _ rfl) (cT_l0 hT).2.1 ⟨_, rfl, ?_⟩)
    refine r_icmp_gen (t := 102) dX0_partKin_71 rfl (by omega) (by omega) (fun h71 => ?_) (fun h71 => ?_)
    ·
      refine w_iload_n dX0_partKin_102 h2 ?_
      refine w_iret dX0_partKin_103 rfl hv9 ?_
      obtain rfl : i = tN τ 1 := by omega
      exact kx _ _ R hf hk
    ·
      have hin : i < tN τ 1 := by omega
      have hui := cT_Su hT hin
      refine w_aload_n dX0_partKin_74 h1 ?_
      refine w_iload_n dX0_partKin_75 h3 ?_
      refine r_inv1  dX0_partKin_76 mt_0_21 R rfl (hS _ _ rfl) rfl (lb rfl) (lb rfl) (lb rfl) (lb rfl) rfl (c_lget R rfl (hS _ _ rfl) (cT_l0 hT) hin ⟨_, rfl, ?_⟩)
      refine r_cast dX0_partKin_79 qt_0_25 R rfl hui rfl (by decide) ?_
      refine w_aload_n dX0_partKin_82 h1 ?_
      refine w_iload_n dX0_partKin_83 h3 ?_
      refine r_inv1  dX0_partKin_84 mt_0_21 R rfl (hS _ _ rfl) rfl (lb rfl) (lb rfl) (lb rfl) (lb rfl) rfl (c_lget R rfl (hS _ _ rfl) (cT_l0 hT) hin ⟨_, rfl, ?_⟩)
      refine r_cast dX0_partKin_87 qt_0_25 R rfl hui rfl (by decide) ?_
      refine r_getr  dX0_partKin_90 ft_0_122 R rfl hui rfl (lb rfl) (hk' i hin) ?_
      refine r_putr  dX0_partKin_93 ft_0_90 R rfl hui rfl (lb rfl) (fun h => by cases h) rfl rfl rfl (cT_Su hT (hKl' i hin)) (fun G1 R1 => ?_)
      refine w_iinc dX0_partKin_96 h3 (nI_1 _) (lb rfl) ?_
      refine w_goto (t := 66) dX0_partKin_99 rfl ?_
      exact ih (i + 1) _ _ _ (by omega) R1 (by omega) hf.X (fun x hx => (sX_p (by omega)).trans (hk' x hx)) (fun x hx => by
        by_cases e : x = i
        · rw [e]; exact sX_s
        · exact (sX_p (by omega)).trans (hk x (by omega))) h1 h2 rfl kx
theorem c0_part {s0 : rx_S} {τ : tx_T} (hT0 : CT E s0 τ) (hS0 : rx_in s0) (hV : TV τ) (hE : WE b0 O E) (hD0 : KD E s0 τ) (R : rx_R b0 O z1 z2 s G) (hf : cf wG s0 s) {K : Nat → Nat} (hKl : ∀ x, x < tN τ 1 → K x < tN τ 1) (hk : (∀ x, x < tN τ 1 → rX s 20 x 15 = .inr (20, K x))) (q : ∀ (K' : Nat → Nat) (p : Bool) (s' : rx_S) (G' : mx_H), rx_R b0 O z1 z2 s' G' → cf wG s0 s' → (∀ x, x < tN τ 1 → rX s' 20 x 15 = .inr (20, K' x)) → (∀ x, x < tN τ 1 → KF K' (PP τ K) x) → (p = true ↔ chg K K' (tN τ 1)) → Q (.inl (some (.int (b32 p)))) G') : mx_W (gt_P b0 mi E) mX0_partKin 0 (mx_en 0 [.ref (rA s 6 0), .ref (rA s 8 0)]) [] G Q := by
  refine w_iconst (v := 0) dX0_partKin_0 (by decide) ?_
  refine w_istore_n dX0_partKin_1 (lb rfl) ?_
  refine w_iconst (v := nI 0) dX0_partKin_2 (by decide) ?_
  refine w_istore_n dX0_partKin_3 (lb rfl) ?_
  refine c0_pk1 hT0 hS0 hV hE hD0 hKl _ 0 (fun x => x) false _ s _ (Nat.lt_succ_self _) R (Nat.zero_le _) hf hk (fun x hx => absurd hx (Nat.not_lt_zero _)) (fun x hx => absurd hx (Nat.not_lt_zero _)) ⟨fun e => (by cases e), fun ⟨x, hx, _⟩ => absurd hx (Nat.not_lt_zero _)⟩ rfl rfl rfl rfl (fun K' p L2 s2 G2 R2 f2 k2 k2' kf2 hp2 h1 h2 => ?_)
  refine w_iconst (v := nI 0) dX0_partKin_64 (by decide) ?_
  refine w_istore_n dX0_partKin_65 (lb rfl) ?_
  exact c0_pk2 hT0 hS0 hV hE hD0 (fun x hx => by have := (KF_le (kf2 x hx)).1; omega) (by cases p <;> rfl) _ 0 _ s2 _ (Nat.lt_succ_self _) R2 (Nat.zero_le _) f2 k2' (fun x hx => absurd hx (Nat.not_lt_zero _)) h1 h2 rfl (fun s3 G3 R3 f3 k3 => q K' p _ _ R3 f3 k3 kf2 hp2)
theorem c0_fo_l {s0 : rx_S} {τ : tx_T} (hT0 : CT E s0 τ) (hS0 : rx_in s0) (hV : TV τ) (hE : WE b0 O E) (hD0 : KD E s0 τ) {K : Nat → Nat} (hKl : ∀ x, x < tN τ 1 → K x < tN τ 1)  : ∀ (d : Nat) (i : Nat) (L : mx_L) (s : rx_S) (G : mx_H), tN τ 1 - i < d → rx_R b0 O z1 z2 s G → i ≤ tN τ 1 → cf wF s0 s → (∀ x, x < tN τ 1 → rX s 20 x 15 = .inr (20, K x)) → (∀ x, x < i → rX s 20 x 17 = oV (if K x = x then none else some (K x))) → (∀ x, i ≤ x → x < tN τ 1 → rX s 20 x 17 = .inl .null) → rX s 6 0 0 = .inl (.int (nI (cnt (fun x => !Nat.beq (K x) x) i))) → L 0 = some (.ref (rA s 6 0)) → L 1 = some (.ref (rA s 8 0)) → L 2 = some (.int (nI i)) → (∀ (s' : rx_S) (G' : mx_H), rx_R b0 O z1 z2 s' G' → cf wF s0 s' → (∀ x, x < tN τ 1 → rX s' 20 x 17 = oV (if K x = x then none else some (K x))) → rX s' 6 0 0 = .inl (.int (nI (cnt (fun x => !Nat.beq (K x) x) (tN τ 1)))) → Q (.inl none) G') → mx_W (gt_P b0 mi E) mX0_foldKin 2 L [] G Q := by
  intro d
  induction d with
  | zero => intro i L s G hd; exact absurd hd (Nat.not_lt_zero _)
  | succ d ih =>
    intro i L s G hd R hi hf hk hz hz2 hc h0 h1 h2 kx
    have hV0 := hV.1
    have hT := CT_cf hT0 hS0 hf
    have hS := hf.inn hS0
    have hD := KD_cf hD0 hf
    have hN := hD.1
    have hvR := (kR_cl hV).2
    have hlen := kV_len hvR
    refine w_iload_n dX0_foldKin_2 h2 ?_
    refine w_aload_n dX0_foldKin_3 h1 ?_
    refine r_inv0  dX0_foldKin_4 mt_0_15 R rfl (hS _ _ rfl) rfl (lb rfl) (lb rfl) (lb rfl) (lb rfl) rfl (c_lsize R rfl (hS _ _ rfl) (cT_l0 hT).2.1 ⟨_, rfl, ?_⟩)
    refine r_icmp_gen (t := 51) dX0_foldKin_7 rfl (by omega) (by omega) (fun h7 => ?_) (fun h7 => ?_)
    ·
      refine w_ret dX0_foldKin_51 rfl ?_
      obtain rfl : i = tN τ 1 := by omega
      exact kx _ _ R hf hz hc
    ·
      have hin : i < tN τ 1 := by omega
      have hui := cT_Su hT hin
      refine w_aload_n dX0_foldKin_10 h1 ?_
      refine w_iload_n dX0_foldKin_11 h2 ?_
      refine r_inv1  dX0_foldKin_12 mt_0_21 R rfl (hS _ _ rfl) rfl (lb rfl) (lb rfl) (lb rfl) (lb rfl) rfl (c_lget R rfl (hS _ _ rfl) (cT_l0 hT) hin ⟨_, rfl, ?_⟩)
      refine r_cast dX0_foldKin_15 qt_0_25 R rfl hui rfl (by decide) ?_
      refine w_astore_n dX0_foldKin_18 (lb rfl) ?_
      refine w_aload_n dX0_foldKin_19 rfl ?_
      refine r_getr  dX0_foldKin_20 ft_0_90 R rfl hui rfl (lb rfl) (hk i hin) ?_
      refine w_aload_n dX0_foldKin_23 rfl ?_
      refine r_acmp_eq (t := 45) dX0_foldKin_24 rfl (fun h24 => ?_) (fun h24 => ?_)
      ·
        refine w_iinc dX0_foldKin_45 h2 (nI_1 _) (lb rfl) ?_
        refine w_goto (t := 2) dX0_foldKin_48 rfl ?_
        have hKi : K i = i := ((rx_inj R (cT_Su hT (hKl i hin)) hui).mp h24).2
        exact ih (i + 1) _ _ _ (by omega) R (by omega) hf hk (fun x hx => by
          by_cases e : x = i
          · rw [e, if_pos hKi]; exact hz2 i (Nat.le_refl _) hin
          · exact hz x (by omega)) (fun x hx => hz2 x (by omega)) (by rw [hc, cnt, show Nat.beq (K i) i = true by rw [hKi]; simp]; rfl) h0 h1 rfl kx
      ·
        refine w_aload_n dX0_foldKin_27 rfl ?_
        refine w_aload_n dX0_foldKin_28 rfl ?_
        refine r_getr  dX0_foldKin_29 ft_0_90 R rfl hui rfl (lb rfl) (hk i hin) ?_
        refine r_putr  dX0_foldKin_32 ft_0_27 R rfl hui rfl (lb rfl) (fun h => by cases h) rfl rfl rfl (cT_Su hT (hKl i hin)) (fun G1 R1 => ?_)
        refine w_aload_n dX0_foldKin_35 h0 ?_
        refine w_dup dX0_foldKin_36 rfl ?_
        refine r_geti  dX0_foldKin_37 ft_0_9 R1 rfl (hS _ _ rfl) rfl (lb rfl) ((sX_p (by omega)).trans hc) ?_
        refine w_iconst (v := 1) dX0_foldKin_40 (by decide) ?_
        refine w_iadd dX0_foldKin_41 ?_
        rw [nI_1]
        refine r_puti  dX0_foldKin_42 ft_0_9 R1 rfl (hS _ _ rfl) rfl (lb rfl) (fun h => by cases h) rfl rfl (fun G2 R2 => ?_)
        refine w_iinc dX0_foldKin_45 h2 (nI_1 _) (lb rfl) ?_
        refine w_goto (t := 2) dX0_foldKin_48 rfl ?_
        have hKi : ¬ K i = i := fun e => h24 (by rw [e])
        exact ih (i + 1) _ _ _ (by omega) R2 (by omega) hf.X.X (fun x hx => (sX_p (by omega)).trans ((sX_p (by omega)).trans (hk x hx))) (fun x hx => by
          by_cases e : x = i
          · rw [e, if_neg hKi]; exact (sX_p (by omega)).trans sX_s
          · exact (sX_p (by omega)).trans ((sX_p (by omega)).trans (hz x (by omega)))) (fun x hx hx2 => (sX_p (by omega)).trans ((sX_p (by omega)).trans (hz2 x (by omega) hx2))) (sX_s.trans (by
          rw [cnt]
          have : Nat.beq (K i) i = false := by
            cases e : Nat.beq (K i) i
            · rfl
            · exact absurd (Nat.eq_of_beq_eq_true e) hKi
          rw [this]; rfl)) h0 h1 rfl kx
theorem c0_foldKin {s0 : rx_S} {τ : tx_T} (hT0 : CT E s0 τ) (hS0 : rx_in s0) (hV : TV τ) (hE : WE b0 O E) (hD0 : KD E s0 τ) (R : rx_R b0 O z1 z2 s G) (hf : cf wF s0 s) {K : Nat → Nat} (hKl : ∀ x, x < tN τ 1 → K x < tN τ 1) (hk : (∀ x, x < tN τ 1 → rX s 20 x 15 = .inr (20, K x))) (hz2 : ∀ x, x < tN τ 1 → rX s 20 x 17 = .inl .null) (hc : rX s 6 0 0 = .inl (.int 0)) (q : ∀ (s' : rx_S) (G' : mx_H), rx_R b0 O z1 z2 s' G' → cf wF s0 s' → (∀ x, x < tN τ 1 → rX s' 20 x 17 = oV (if K x = x then none else some (K x))) → rX s' 6 0 0 = .inl (.int (nI (cnt (fun x => !Nat.beq (K x) x) (tN τ 1)))) → Q (.inl none) G') : mx_W (gt_P b0 mi E) mX0_foldKin 0 (mx_en 0 [.ref (rA s 6 0), .ref (rA s 8 0)]) [] G Q := by
  refine w_iconst (v := nI 0) dX0_foldKin_0 (by decide) ?_
  refine w_istore_n dX0_foldKin_1 (lb rfl) ?_
  exact c0_fo_l hT0 hS0 hV hE hD0 hKl _ 0 _ s _ (Nat.lt_succ_self _) R (Nat.zero_le _) hf hk (fun x hx => absurd hx (Nat.not_lt_zero _)) (fun x _ hx => hz2 x hx) hc rfl rfl rfl q
end
