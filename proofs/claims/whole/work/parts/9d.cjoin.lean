section
variable {b0 mi z1 z2 : Nat} {E : Nat → Nat} {O : Nat → Option mx_C} {s : rx_S} {G : mx_H} {Q : mx_O → mx_H → Prop}
theorem c0_jk_i {s0 : rx_S} {τ : tx_T} (hT0 : CT E s0 τ) (hS0 : rx_in s0) (hV : TV τ) (hE : WE b0 O E) (hD0 : KD E s0 τ) {i : Nat} (hin : i < tN τ 1) {K : Nat → Nat} (hK : ∀ x, x < i → K x ≤ x)  : ∀ (d : Nat) (j : Nat) (L : mx_L) (s : rx_S) (G : mx_H), i - j < d → rx_R b0 O z1 z2 s G → j ≤ i → cf wG s0 s → (∀ x, x < tN τ 1 → MF s x (mayB τ true x = true)) → (∀ x, x < i → rX s 20 x 15 = .inr (20, K x)) → rX s 20 i 15 = .inr (20, i) → (∀ j', j' < j → K j' = j' → ¬ PJ τ true j' i) → L 0 = some (.ref (rA s 6 0)) → L 1 = some (.ref (rA s 8 0)) → L 2 = some (.int (nI i)) → L 3 = some (.ref (rA s 20 i)) → L 4 = some (.int (nI j)) → (∀ (r : Nat) (L : mx_L) (s : rx_S) (G : mx_H), rx_R b0 O z1 z2 s G → cf wG s0 s → (∀ x, x < tN τ 1 → MF s x (mayB τ true x = true)) → (∀ x, x < i → rX s 20 x 15 = .inr (20, K x)) → rX s 20 i 15 = .inr (20, r) → ((r = i ∧ ∀ j, j < i → K j = j → ¬ (PJ τ true) j i) ∨ (r < i ∧ K r = r ∧ (PJ τ true) r i ∧ ∀ j, j < r → K j = j → ¬ (PJ τ true) j i)) → L 0 = some (.ref (rA s 6 0)) → L 1 = some (.ref (rA s 8 0)) → L 2 = some (.int (nI i)) → mx_W (gt_P b0 mi E) mX0_joinKin 99 L [] G Q) → mx_W (gt_P b0 mi E) mX0_joinKin 27 L [] G Q := by
  intro d
  induction d with
  | zero => intro j L s G hd; exact absurd hd (Nat.not_lt_zero _)
  | succ d ih =>
    intro j L s G hd R hj hf hm hk hs hno h0 h1 h2 h3 h4 kx
    have hV0 := hV.1
    have hT := CT_cf hT0 hS0 hf
    have hS := hf.inn hS0
    have hD := KD_cf hD0 hf
    have hN := hD.1
    have hvR := (kR_cl hV).2
    have hlen := kV_len hvR
    refine w_iload dX0_joinKin_27 h4 ?_
    refine w_iload_n dX0_joinKin_29 h2 ?_
    refine r_icmp_gen (t := 99) dX0_joinKin_30 rfl (by omega) (by omega) (fun h30 => ?_) (fun h30 => ?_)
    ·
      obtain rfl : j = i := by omega
      exact kx j _ _ _ R hf hm hk hs (Or.inl ⟨rfl, hno⟩) h0 h1 h2
    ·
      obtain ⟨b, hb14, hbi⟩ := hm i hin
      have hui := cT_Su hT hin
      refine w_aload_n dX0_joinKin_33 h3 ?_
      refine r_getr  dX0_joinKin_34 ft_0_90 R rfl hui rfl (lb rfl) hs ?_
      refine w_aload_n dX0_joinKin_37 h3 ?_
      refine r_acmp_ne (t := 99) dX0_joinKin_38 rfl (fun h => absurd rfl h) (fun h38 => ?_)
      refine w_aload_n dX0_joinKin_41 h3 ?_
      refine r_geti  dX0_joinKin_42 ft_0_59 R rfl hui rfl (lb rfl) hb14 ?_
      refine w_if_eq (t := 99) dX0_joinKin_45 rfl (fun h45 => ?_) (fun h45 => ?_)
      ·
        exact kx i _ _ _ R hf hm hk hs (Or.inl ⟨rfl, fun a ha _ hp => by have := hbi.mpr hp.2.1; rw [(b32_1 b).mp h45] at this; cases this⟩) h0 h1 h2
      ·
        have hjn : j < tN τ 1 := by omega
        have hji : j < i := by omega
        have hujj := cT_Su hT hjn
        have hKl : K j < tN τ 1 := by have := hK j hji; omega
        obtain ⟨b2, hb14b, hb2⟩ := hm j hjn
        refine w_aload_n dX0_joinKin_48 h1 ?_
        refine w_iload dX0_joinKin_49 h4 ?_
        refine r_inv1  dX0_joinKin_51 mt_0_21 R rfl (hS _ _ rfl) rfl (lb rfl) (lb rfl) (lb rfl) (lb rfl) rfl (c_lget R rfl (hS _ _ rfl) (cT_l0 hT) hjn ⟨_, rfl, ?_⟩)
        refine r_cast dX0_joinKin_54 qt_0_25 R rfl hujj rfl (by decide) ?_
        refine w_astore dX0_joinKin_57 (lb rfl) ?_
        refine w_aload dX0_joinKin_59 rfl ?_
        refine r_getr  dX0_joinKin_61 ft_0_90 R rfl hujj rfl (lb rfl) (hk j hji) ?_
        refine w_aload dX0_joinKin_64 rfl ?_
        refine r_acmp_ne (t := 93) dX0_joinKin_66 rfl (fun h66 => ?_) (fun h66 => ?_)
        ·
          refine w_iinc dX0_joinKin_93 h4 (nI_1 _) (lb rfl) ?_
          refine w_goto (t := 27) dX0_joinKin_96 rfl ?_
          exact ih (j + 1) _ _ _ (by omega) R (by omega) hf hm hk hs (fun a ha => by
            by_cases e : a = j
            · subst e; exact fun hp => absurd ((rx_inj R (cT_Su hT hKl) (cT_Su hT hjn)).mpr ⟨rfl, hp⟩) h66
            · exact hno a (by omega)) h0 h1 h2 h3 rfl kx
        ·
          refine w_aload dX0_joinKin_69 rfl ?_
          refine r_geti  dX0_joinKin_71 ft_0_59 R rfl hujj rfl (lb rfl) hb14b ?_
          refine w_if_eq (t := 93) dX0_joinKin_74 rfl (fun h74 => ?_) (fun h74 => ?_)
          ·
            refine w_iinc dX0_joinKin_93 h4 (nI_1 _) (lb rfl) ?_
            refine w_goto (t := 27) dX0_joinKin_96 rfl ?_
            exact ih (j + 1) _ _ _ (by omega) R (by omega) hf hm hk hs (fun a ha => by
              by_cases e : a = j
              · subst e; exact fun _ hp => by have := hb2.mpr hp.1; rw [(b32_1 b2).mp h74] at this; cases this
              · exact hno a (by omega)) h0 h1 h2 h3 rfl kx
          ·
            have hKj : K j = j := ((rx_inj R (cT_Su hT hKl) hujj).mp h66).2
            refine w_aload_n dX0_joinKin_77 h0 ?_
            refine w_aload dX0_joinKin_78 rfl ?_
            refine w_aload_n dX0_joinKin_80 h3 ?_
            refine r_inv2  dX0_joinKin_81 mt_0_93 R rfl (hS _ _ rfl) rfl (lb rfl) (lb rfl) (lb rfl) (lb rfl) rfl (c0_looks R hS hT hV hE hN hjn hin (fun e81 => ⟨_, rfl, ?_⟩) (fun e81 => ⟨_, rfl, ?_⟩))
            ·
              refine w_if_eq (t := 93) dX0_joinKin_84 rfl (fun h => absurd h (by decide)) (fun _ => ?_)
              refine w_aload_n dX0_joinKin_87 h3 ?_
              refine w_aload dX0_joinKin_88 rfl ?_
              refine r_putr  dX0_joinKin_90 ft_0_90 R rfl hui rfl (lb rfl) (fun h => by cases h) rfl rfl rfl hujj (fun G1 R1 => ?_)
              refine w_iinc dX0_joinKin_93 h4 (nI_1 _) (lb rfl) ?_
              refine w_goto (t := 27) dX0_joinKin_96 rfl ?_
              refine w_iload dX0_joinKin_27 rfl ?_
              refine w_iload_n dX0_joinKin_29 h2 ?_
              refine r_icmp_gen (t := 99) dX0_joinKin_30 rfl (by omega) (by omega) (fun h30 => ?_) (fun h30 => ?_)
              ·
                refine kx j _ _ _ R1 hf.X (fun x hx => (hm x hx).f (sX_p (by omega))) (fun x hx => (sX_p (by omega)).trans (hk x hx)) sX_s (Or.inr ⟨by omega, hKj, ⟨hb2.mp (by cases b2 with | true => rfl | false => exact absurd rfl h74), hbi.mp (by cases b with | true => rfl | false => exact absurd rfl h45), e81⟩, hno⟩) h0 h1 h2
              ·
                refine w_aload_n dX0_joinKin_33 h3 ?_
                refine r_getr  dX0_joinKin_34 ft_0_90 R1 rfl hui rfl (lb rfl) sX_s ?_
                refine w_aload_n dX0_joinKin_37 h3 ?_
                refine r_acmp_ne (t := 99) dX0_joinKin_38 rfl (fun h38 => ?_) (fun h => absurd ((rx_inj R hujj hui).mp h).2 (by omega))
                refine kx j _ _ _ R1 hf.X (fun x hx => (hm x hx).f (sX_p (by omega))) (fun x hx => (sX_p (by omega)).trans (hk x hx)) sX_s (Or.inr ⟨by omega, hKj, ⟨hb2.mp (by cases b2 with | true => rfl | false => exact absurd rfl h74), hbi.mp (by cases b with | true => rfl | false => exact absurd rfl h45), e81⟩, hno⟩) h0 h1 h2
            ·
              refine w_if_eq (t := 93) dX0_joinKin_84 rfl (fun _ => ?_) (fun h => absurd (by decide) h)
              refine w_iinc dX0_joinKin_93 h4 (nI_1 _) (lb rfl) ?_
              refine w_goto (t := 27) dX0_joinKin_96 rfl ?_
              exact ih (j + 1) _ _ _ (by omega) R (by omega) hf hm hk hs (fun a ha => by
                by_cases e : a = j
                · subst e; exact fun _ hp => e81 hp.2.2
                · exact hno a (by omega)) h0 h1 h2 h3 rfl kx
theorem c0_jk_o {s0 : rx_S} {τ : tx_T} (hT0 : CT E s0 τ) (hS0 : rx_in s0) (hV : TV τ) (hE : WE b0 O E) (hD0 : KD E s0 τ)  : ∀ (d : Nat) (i : Nat) (K : Nat → Nat) (L : mx_L) (s : rx_S) (G : mx_H), tN τ 1 - i < d → rx_R b0 O z1 z2 s G → i ≤ tN τ 1 → cf wG s0 s → (∀ x, x < tN τ 1 → MF s x (mayB τ true x = true)) → (∀ x, x < i → rX s 20 x 15 = .inr (20, K x)) → (∀ x, x < i → KF K (PJ τ true) x) → L 0 = some (.ref (rA s 6 0)) → L 1 = some (.ref (rA s 8 0)) → L 2 = some (.int (nI i)) → (∀ (K : Nat → Nat) (s' : rx_S) (G' : mx_H), rx_R b0 O z1 z2 s' G' → cf wG s0 s' → (∀ x, x < tN τ 1 → rX s' 20 x 15 = .inr (20, K x)) → (∀ x, x < tN τ 1 → KF K (PJ τ true) x) → Q (.inl none) G') → mx_W (gt_P b0 mi E) mX0_joinKin 2 L [] G Q := by
  intro d
  induction d with
  | zero => intro i K L s G hd; exact absurd hd (Nat.not_lt_zero _)
  | succ d ih =>
    intro i K L s G hd R hi hf hm hk hkf h0 h1 h2 kx
    have hV0 := hV.1
    have hT := CT_cf hT0 hS0 hf
    have hS := hf.inn hS0
    have hD := KD_cf hD0 hf
    have hN := hD.1
    have hvR := (kR_cl hV).2
    have hlen := kV_len hvR
    refine w_iload_n dX0_joinKin_2 h2 ?_
    refine w_aload_n dX0_joinKin_3 h1 ?_
    refine r_inv0  dX0_joinKin_4 mt_0_15 R rfl (hS _ _ rfl) rfl (lb rfl) (lb rfl) (lb rfl) (lb rfl) rfl (c_lsize R rfl (hS _ _ rfl) (cT_l0 hT).2.1 ⟨_, rfl, ?_⟩)
    refine r_icmp_gen (t := 105) dX0_joinKin_7 rfl (by omega) (by omega) (fun h7 => ?_) (fun h7 => ?_)
    ·
      refine w_ret dX0_joinKin_105 rfl ?_
      obtain rfl : i = tN τ 1 := by omega
      exact kx K _ _ R hf hk hkf
    ·
      have hin : i < tN τ 1 := by omega
      have hui := cT_Su hT hin
      refine w_aload_n dX0_joinKin_10 h1 ?_
      refine w_iload_n dX0_joinKin_11 h2 ?_
      refine r_inv1  dX0_joinKin_12 mt_0_21 R rfl (hS _ _ rfl) rfl (lb rfl) (lb rfl) (lb rfl) (lb rfl) rfl (c_lget R rfl (hS _ _ rfl) (cT_l0 hT) hin ⟨_, rfl, ?_⟩)
      refine r_cast dX0_joinKin_15 qt_0_25 R rfl hui rfl (by decide) ?_
      refine w_astore_n dX0_joinKin_18 (lb rfl) ?_
      refine w_aload_n dX0_joinKin_19 rfl ?_
      refine w_aload_n dX0_joinKin_20 rfl ?_
      refine r_putr  dX0_joinKin_21 ft_0_90 R rfl hui rfl (lb rfl) (fun h => by cases h) rfl rfl rfl hui (fun G1 R1 => ?_)
      refine w_iconst (v := nI 0) dX0_joinKin_24 (by decide) ?_
      refine w_istore dX0_joinKin_25 (lb rfl) ?_
      refine c0_jk_i hT0 hS0 hV hE hD0 hin (K := K) (fun x hx => (KF_le (hkf x hx)).1) _ 0 _ (sX s 20 i 15 (.inr (20, i))) _ (Nat.lt_succ_self _) R1 (Nat.zero_le _) hf.X (fun x hx => (hm x hx).f (sX_p (by omega))) (fun x hx => (sX_p (by omega)).trans (hk x hx)) sX_s (fun a ha => absurd ha (Nat.not_lt_zero _)) h0 h1 h2 rfl rfl (fun r L2 s2 G2 R2 f2 m2 k2 r2 kr h0b h1b h2b => ?_)
      refine w_iinc dX0_joinKin_99 h2b (nI_1 _) (lb rfl) ?_
      refine w_goto (t := 2) dX0_joinKin_102 rfl ?_
      have eK : ∀ y, y < i → (fun x => if x = i then r else K x) y = K y := fun y hy => if_neg (by omega)
      have eI : (fun x => if x = i then r else K x) i = r := if_pos rfl
      refine ih (i + 1) (fun x => if x = i then r else K x) _ _ _ (by omega) R2 (by omega) f2 m2 (fun x hx => ?_) (fun x hx => ?_) h0b h1b rfl kx
      · by_cases e : x = i
        · rw [e, r2]; simp only [if_pos]
        · rw [k2 x (by omega)]; simp only [if_neg e]
      · by_cases e : x = i
        · subst e
          rcases kr with ⟨a1, a2⟩ | ⟨a1, a2, a3, a4⟩
          · exact Or.inl ⟨eI.trans a1, fun j hj hk => a2 j hj (by rw [← eK j hj]; exact hk)⟩
          · refine Or.inr ⟨by rw [eI]; exact a1, by rw [eI, eK r a1]; exact a2, by rw [eI]; exact a3, fun j hj hk => ?_⟩
            rw [eI] at hj
            exact a4 j hj (by rw [← eK j (by omega)]; exact hk)
        · exact KF_congr (hkf x (by omega)) (fun y hy => eK y (by omega))
theorem c0_join {s0 : rx_S} {τ : tx_T} (hT0 : CT E s0 τ) (hS0 : rx_in s0) (hV : TV τ) (hE : WE b0 O E) (hD0 : KD E s0 τ) (R : rx_R b0 O z1 z2 s G) (hf : cf wG s0 s) (hm : (∀ x, x < tN τ 1 → MF s x (mayB τ true x = true))) (q : ∀ (K : Nat → Nat) (s' : rx_S) (G' : mx_H), rx_R b0 O z1 z2 s' G' → cf wG s0 s' → (∀ x, x < tN τ 1 → rX s' 20 x 15 = .inr (20, K x)) → (∀ x, x < tN τ 1 → KF K (PJ τ true) x) → Q (.inl none) G') : mx_W (gt_P b0 mi E) mX0_joinKin 0 (mx_en 0 [.ref (rA s 6 0), .ref (rA s 8 0)]) [] G Q := by
  refine w_iconst (v := nI 0) dX0_joinKin_0 (by decide) ?_
  refine w_istore_n dX0_joinKin_1 (lb rfl) ?_
  exact c0_jk_o hT0 hS0 hV hE hD0 _ 0 (fun x => x) _ s _ (Nat.lt_succ_self _) R (Nat.zero_le _) hf hm (fun x hx => absurd hx (Nat.not_lt_zero _)) (fun x hx => absurd hx (Nat.not_lt_zero _)) rfl rfl rfl q
theorem c0_tk_l {s : rx_S} {G : mx_H} (R : rx_R b0 O z1 z2 s G) (hS : rx_in s) {τ : tx_T} (hT : CT E s τ) (hV : TV τ) (hN : NC s τ) {K : Nat → Nat} (hk : ∀ x, x < tN τ 1 → rX s 20 x 15 = .inr (20, K x)) (hKl : ∀ x, x < tN τ 1 → K x < tN τ 1) {a b : Nat} (ha : a < tN τ 1) (hb2 : b < tN τ 1) (q1 : (TK τ K a b) → Q (.inl (some (.int 1))) G) (q0 : ¬ (TK τ K a b) → Q (.inl (some (.int 0))) G) : ∀ (d : Nat) (t : Nat) (L : mx_L), rlN τ a - t < d → t ≤ rlN τ a → (∀ i, i < t → i < rlN τ a → i < rlN τ b → ∀ t t', tgS τ (cl (tT τ 24 (rlG τ a i))) = some t → tgS τ (cl (tT τ 24 (rlG τ b i))) = some t' → K t = K t') → L 1 = some (.ref (rA s 20 a)) → L 2 = some (.ref (rA s 20 b)) → L 3 = some (.int (nI t)) → mx_W (gt_P b0 mi E) mX0_targetsAreKin 2 L [] G Q := by
  intro d
  induction d with
  | zero => intro t L hd; exact absurd hd (Nat.not_lt_zero _)
  | succ d ih =>
    intro t L hd ht hb h1 h2 h3
    have hV0 := hV.1
    have hra : rlN τ a ≤ 200 := Nat.le_trans (cnt_le _ _) hV0.2.2.2.1
    have hrb : rlN τ b ≤ 200 := Nat.le_trans (cnt_le _ _) hV0.2.2.2.1
    refine w_iload_n dX0_targetsAreKin_2 h3 ?_
    refine w_aload_n dX0_targetsAreKin_3 h1 ?_
    refine r_getr  dX0_targetsAreKin_4 ft_0_66 R rfl (cT_Su hT ha) rfl (lb rfl) (cT_S hT ha 6 rfl) ?_
    refine r_inv0  dX0_targetsAreKin_7 mt_0_15 R rfl (cT_Lu hT ha) rfl (lb rfl) (lb rfl) (lb rfl) (lb rfl) rfl (c_lsize R rfl (cT_Lu hT ha) (cT_l hT ha).2.1 ⟨_, rfl, ?_⟩)
    refine r_icmp_gen (t := 93) dX0_targetsAreKin_10 rfl (by omega) (by omega) (fun h10 => ?_) (fun h10 => ?_)
    ·
      refine w_iconst (v := 1) dX0_targetsAreKin_93 (by decide) ?_
      exact w_iret dX0_targetsAreKin_94 rfl rfl (q1 (fun i h1 h2 => hb i (by omega) h1 h2))
    ·
      refine w_iload_n dX0_targetsAreKin_13 h3 ?_
      refine w_aload_n dX0_targetsAreKin_14 h2 ?_
      refine r_getr  dX0_targetsAreKin_15 ft_0_66 R rfl (cT_Su hT hb2) rfl (lb rfl) (cT_S hT hb2 6 rfl) ?_
      refine r_inv0  dX0_targetsAreKin_18 mt_0_15 R rfl (cT_Lu hT hb2) rfl (lb rfl) (lb rfl) (lb rfl) (lb rfl) rfl (c_lsize R rfl (cT_Lu hT hb2) (cT_l hT hb2).2.1 ⟨_, rfl, ?_⟩)
      refine r_icmp_gen (t := 93) dX0_targetsAreKin_21 rfl (by omega) (by omega) (fun h21 => ?_) (fun h21 => ?_)
      ·
        refine w_iconst (v := 1) dX0_targetsAreKin_93 (by decide) ?_
        exact w_iret dX0_targetsAreKin_94 rfl rfl (q1 (fun i h1 h2 => hb i (by omega) h1 h2))
      ·
        have htn : t < rlN τ a := by omega
        have htb : t < rlN τ b := by omega
        obtain ⟨k, ek⟩ : ∃ k, rlG τ a t = k := ⟨_, rfl⟩
        obtain ⟨l, el⟩ : ∃ l, rlG τ b t = l := ⟨_, rfl⟩
        have hk3 : k < tN τ 3 := by rw [← ek]; exact (rlG_lt htn).2.1
        have hl3 : l < tN τ 3 := by rw [← el]; exact (rlG_lt htb).2.1
        have cyk := clI (hV.2.2.2.1 k hk3).2.2.2.1.1
        have cyl := clI (hV.2.2.2.1 l hl3).2.2.2.1.1
        have hyk : cl (tT τ 24 k) < tN τ 2 := by have := (hV.2.2.2.1 k hk3).2.2.2.1.2; omega
        have hyl : cl (tT τ 24 l) < tN τ 2 := by have := (hV.2.2.2.1 l hl3).2.2.2.1.2; omega
        have nk := hN.2.2 _ hyk
        have nl := hN.2.2 _ hyl
        refine w_aload_n dX0_targetsAreKin_24 h1 ?_
        refine r_getr  dX0_targetsAreKin_25 ft_0_66 R rfl (cT_Su hT ha) rfl (lb rfl) (cT_S hT ha 6 rfl) ?_
        refine w_iload_n dX0_targetsAreKin_28 h3 ?_
        refine r_inv1  dX0_targetsAreKin_29 mt_0_21 R rfl (cT_Lu hT ha) rfl (lb rfl) (lb rfl) (lb rfl) (lb rfl) rfl (c_lget R rfl (cT_Lu hT ha) (cT_l hT ha) htn ⟨_, rfl, ?_⟩)
        show mx_W _ _ _ _ (.ref (rA s 25 (rlG τ a t)) :: _) _ _
        rw [ek]
        refine r_cast dX0_targetsAreKin_32 qt_0_70 R rfl (cT_Ru hT hk3) rfl (by decide) ?_
        refine r_getr  dX0_targetsAreKin_35 ft_0_81 R rfl (cT_Ru hT hk3) rfl (lb rfl) (cT_R hT hk3 3 (lb rfl)) ?_
        cases ea : tgS τ (cl (tT τ 24 k)) with
        | none =>
          refine r_geti  dX0_targetsAreKin_38 ft_0_85 R rfl (cT_Yu hT hyk) rfl (lb rfl) (nk.1.trans (congrArg oV ea)) ?_
          refine w_astoreN dX0_targetsAreKin_41 (lb rfl) ?_
          refine w_aload_n dX0_targetsAreKin_43 h2 ?_
          refine r_getr  dX0_targetsAreKin_44 ft_0_66 R rfl (cT_Su hT hb2) rfl (lb rfl) (cT_S hT hb2 6 rfl) ?_
          refine w_iload_n dX0_targetsAreKin_47 h3 ?_
          refine r_inv1  dX0_targetsAreKin_48 mt_0_21 R rfl (cT_Lu hT hb2) rfl (lb rfl) (lb rfl) (lb rfl) (lb rfl) rfl (c_lget R rfl (cT_Lu hT hb2) (cT_l hT hb2) htb ⟨_, rfl, ?_⟩)
          show mx_W _ _ _ _ (.ref (rA s 25 (rlG τ b t)) :: _) _ _
          rw [el]
          refine r_cast dX0_targetsAreKin_51 qt_0_70 R rfl (cT_Ru hT hl3) rfl (by decide) ?_
          refine r_getr  dX0_targetsAreKin_54 ft_0_81 R rfl (cT_Ru hT hl3) rfl (lb rfl) (cT_R hT hl3 3 (lb rfl)) ?_
          cases eb : tgS τ (cl (tT τ 24 l)) with
          | none =>
            refine r_geti  dX0_targetsAreKin_57 ft_0_85 R rfl (cT_Yu hT hyl) rfl (lb rfl) (nl.1.trans (congrArg oV eb)) ?_
            refine w_astoreN dX0_targetsAreKin_60 (lb rfl) ?_
            refine w_aloadN dX0_targetsAreKin_62 rfl ?_
            refine r_nullT (t := 87) dX0_targetsAreKin_64 rfl ?_
            refine w_iinc dX0_targetsAreKin_87 h3 (nI_1 _) (lb rfl) ?_
            refine w_goto (t := 2) dX0_targetsAreKin_90 rfl ?_
            exact ih (t + 1) _ (by omega) (by omega) (fun i hi => by
              by_cases e : i = t
              · subst e
                intro _ _ t1 t2 e1 e2
                rw [ek, ea] at e1; cases e1
              · exact hb i (by omega)) h1 h2 rfl
          | some v =>
            refine r_getr  dX0_targetsAreKin_57 ft_0_85 R rfl (cT_Yu hT hyl) rfl (lb rfl) (nl.1.trans (congrArg oV eb)) ?_
            refine w_astore dX0_targetsAreKin_60 (lb rfl) ?_
            refine w_aloadN dX0_targetsAreKin_62 rfl ?_
            refine r_nullT (t := 87) dX0_targetsAreKin_64 rfl ?_
            refine w_iinc dX0_targetsAreKin_87 h3 (nI_1 _) (lb rfl) ?_
            refine w_goto (t := 2) dX0_targetsAreKin_90 rfl ?_
            exact ih (t + 1) _ (by omega) (by omega) (fun i hi => by
              by_cases e : i = t
              · subst e
                intro _ _ t1 t2 e1 e2
                rw [ek, ea] at e1; cases e1
              · exact hb i (by omega)) h1 h2 rfl
        | some u =>
          have hu9 := (tgS_lt hV hyk ea).2.2
          refine r_getr  dX0_targetsAreKin_38 ft_0_85 R rfl (cT_Yu hT hyk) rfl (lb rfl) (nk.1.trans (congrArg oV ea)) ?_
          refine w_astore dX0_targetsAreKin_41 (lb rfl) ?_
          refine w_aload_n dX0_targetsAreKin_43 h2 ?_
          refine r_getr  dX0_targetsAreKin_44 ft_0_66 R rfl (cT_Su hT hb2) rfl (lb rfl) (cT_S hT hb2 6 rfl) ?_
          refine w_iload_n dX0_targetsAreKin_47 h3 ?_
          refine r_inv1  dX0_targetsAreKin_48 mt_0_21 R rfl (cT_Lu hT hb2) rfl (lb rfl) (lb rfl) (lb rfl) (lb rfl) rfl (c_lget R rfl (cT_Lu hT hb2) (cT_l hT hb2) htb ⟨_, rfl, ?_⟩)
          show mx_W _ _ _ _ (.ref (rA s 25 (rlG τ b t)) :: _) _ _
          rw [el]
          refine r_cast dX0_targetsAreKin_51 qt_0_70 R rfl (cT_Ru hT hl3) rfl (by decide) ?_
          refine r_getr  dX0_targetsAreKin_54 ft_0_81 R rfl (cT_Ru hT hl3) rfl (lb rfl) (cT_R hT hl3 3 (lb rfl)) ?_
          cases eb : tgS τ (cl (tT τ 24 l)) with
          | none =>
            refine r_geti  dX0_targetsAreKin_57 ft_0_85 R rfl (cT_Yu hT hyl) rfl (lb rfl) (nl.1.trans (congrArg oV eb)) ?_
            refine w_astoreN dX0_targetsAreKin_60 (lb rfl) ?_
            refine w_aload dX0_targetsAreKin_62 rfl ?_
            refine r_nullF (t := 87) dX0_targetsAreKin_64 rfl ?_
            refine w_aloadN dX0_targetsAreKin_67 rfl ?_
            refine r_nullT (t := 87) dX0_targetsAreKin_69 rfl ?_
            refine w_iinc dX0_targetsAreKin_87 h3 (nI_1 _) (lb rfl) ?_
            refine w_goto (t := 2) dX0_targetsAreKin_90 rfl ?_
            exact ih (t + 1) _ (by omega) (by omega) (fun i hi => by
              by_cases e : i = t
              · subst e
                intro _ _ t1 t2 e1 e2
                rw [el, eb] at e2; cases e2
              · exact hb i (by omega)) h1 h2 rfl
          | some v =>
            have hv9 := (tgS_lt hV hyl eb).2.2
            refine r_getr  dX0_targetsAreKin_57 ft_0_85 R rfl (cT_Yu hT hyl) rfl (lb rfl) (nl.1.trans (congrArg oV eb)) ?_
            refine w_astore dX0_targetsAreKin_60 (lb rfl) ?_
            refine w_aload dX0_targetsAreKin_62 rfl ?_
            refine r_nullF (t := 87) dX0_targetsAreKin_64 rfl ?_
            refine w_aload dX0_targetsAreKin_67 rfl ?_
            refine r_nullF (t := 87) dX0_targetsAreKin_69 rfl ?_
            refine w_aload dX0_targetsAreKin_72 rfl ?_
            refine r_getr  dX0_targetsAreKin_74 ft_0_90 R rfl (cT_Su hT hu9) rfl (lb rfl) (hk u hu9) ?_
            refine w_aload dX0_targetsAreKin_77 rfl ?_
            refine r_getr  dX0_targetsAreKin_79 ft_0_90 R rfl (cT_Su hT hv9) rfl (lb rfl) (hk v hv9) ?_
            refine r_acmp_eq (t := 87) dX0_targetsAreKin_82 rfl (fun h82 => ?_) (fun h82 => ?_)
            ·
              refine w_iinc dX0_targetsAreKin_87 h3 (nI_1 _) (lb rfl) ?_
              refine w_goto (t := 2) dX0_targetsAreKin_90 rfl ?_
              have hKK : K u = K v := ((rx_inj R (cT_Su hT (hKl u hu9)) (cT_Su hT (hKl v hv9))).mp h82).2
              exact ih (t + 1) _ (by omega) (by omega) (fun i hi => by
                by_cases e : i = t
                · subst e
                  intro _ _ t1 t2 e1 e2
                  rw [ek, ea] at e1; rw [el, eb] at e2; cases e1; cases e2; exact hKK
                · exact hb i (by omega)) h1 h2 rfl
            ·
              refine w_iconst (v := 0) dX0_targetsAreKin_85 (by decide) ?_
              exact w_iret dX0_targetsAreKin_86 rfl rfl (q0 (fun h => h82 (by rw [h t htn htb u v (by rw [ek]; exact ea) (by rw [el]; exact eb)])))
end
