noncomputable def nxN (τ : tx_T) (w : Bool) (V : List (Nat × Nat)) : Nat → Nat
  | 0 => 4096
  | k + 1 => enN τ w V k
theorem bgN_nx (τ : tx_T) (w : Bool) (V : List (Nat × Nat)) (k : Nat) : bgN τ w V k = if 0 ≤ (tT τ 28 k).toInt then cl (tT τ 28 k) else nxN τ w V k := by cases k <;> rfl
section
variable {b0 mi z1 z2 : Nat} {E : Nat → Nat} {O : Nat → Option mx_C} {s : rx_S} {G : mx_H} {Q : mx_O → mx_H → Prop}
theorem c3_lo_l {s0 : rx_S} {τ : tx_T} (hT0 : CT E s0 τ) (hS0 : rx_in s0) (hV : TV τ) (hE : WE b0 O E) {w : Bool} (hF0 : FD E s0 τ w) {S : vS} (hvi : VI τ w S) {tm : Int32}  : ∀ (d : Nat) (k : Nat) (L : mx_L) (s : rx_S) (G : mx_H), 4 - k < d → rx_R b0 O z1 z2 s G → k ≤ 4 → cf wP s0 s → VC s τ S → (∀ x, x < tN τ 1 → plB τ w x = true → (tT τ 4 x).toInt < k → rX s 20 x 18 = .inl (.long (lN (plN τ w S.1 x)))) → EK s τ w S.1 k → rX s 7 0 5 = .inl (.int tm) → L 0 = some (.ref (rA s 7 0)) → L 1 = some (.ref (rA s 3 0)) → L 2 = some (.long (lN (nxN τ w S.1 k))) → L 4 = some (.int (nI k)) → (∀ (L : mx_L) (s : rx_S) (G : mx_H), rx_R b0 O z1 z2 s G → cf wP s0 s → VC s τ S → PC s τ w S.1 → EK s τ w S.1 4 → rX s 7 0 5 = .inl (.int tm) → L 0 = some (.ref (rA s 7 0)) → L 1 = some (.ref (rA s 3 0)) → mx_W (gt_P b0 mi E) mX3_layOut 85 L [] G Q) → mx_W (gt_P b0 mi E) mX3_layOut 17 L [] G Q := by
  intro d
  induction d with
  | zero => intro k L s G hd; exact absurd hd (Nat.not_lt_zero _)
  | succ d ih =>
    intro k L s G hd R hk hf hv hP hK h5 h0 h1 h2 h4 kx
    have hV0 := hV.1
    have hT := CT_cf hT0 hS0 hf
    have hS := hf.inn hS0
    have hF := FD_cf hF0 hf
    refine w_iload dX3_layOut_17 h4 ?_
    refine w_iconst (v := nI 4) dX3_layOut_19 (by decide) ?_
    refine r_icmp_gen (t := 85) dX3_layOut_20 rfl (by omega) (by omega) (fun h20 => ?_) (fun h20 => ?_)
    ·
      obtain rfl : k = 4 := by omega
      exact kx _ _ _ R hf hv (fun x hx hp => hP x hx hp (by have := (hV.2.1 x hx).2.1; omega)) hK h5 h0 h1
    ·
      have hk4 : k < 4 := by omega
      have rb := hV.2.2.2.2.2 k hk4
      have h28 : rI s 10 1 k = tT τ 28 k := hT.2.2.2.2.2.2.2.2.1 k hk4
      refine w_aload_n dX3_layOut_23 h1 ?_
      refine r_getr  dX3_layOut_24 ft_3_138 R rfl (hS _ _ rfl) rfl (lb rfl) (cT_s hT 3 4 rfl) ?_
      refine w_iload dX3_layOut_27 h4 ?_
      refine r_iald  dX3_layOut_29 R rfl (hS _ _ rfl) rfl rfl hk4 (lb rfl) h28 ?_
      refine w_iconst (v := (-1)) dX3_layOut_30 (by decide) ?_
      refine w_icmp_eq (t := 43) dX3_layOut_31 rfl (fun h31 => ?_) (fun h31 => ?_)
      ·
        have eb : bgN τ w S.1 k = nxN τ w S.1 k := by rw [bgN_nx, if_neg (by rw [h31]; decide)]
        refine w_aload_n dX3_layOut_43 h0 ?_
        refine r_getr  dX3_layOut_44 ft_3_9 R rfl (hS _ _ rfl) rfl (lb rfl) (cT_s hT 7 0 rfl) ?_
        refine w_iload dX3_layOut_47 h4 ?_
        refine w_lload_n dX3_layOut_49 (h2.trans (congrArg (fun q => some (Value.long (lN q))) eb.symm)) ?_
        refine r_last  dX3_layOut_50 R rfl (hS _ _ rfl) rfl rfl hk4 (lb rfl) (fun G1 R1 => ?_)
        refine w_aload_n dX3_layOut_51 h0 ?_
        refine r_getr  dX3_layOut_52 ft_3_18 R1 rfl (hS _ _ rfl) rfl (lb rfl) (cT_s hT 7 2 rfl) ?_
        refine w_iload dX3_layOut_55 h4 ?_
        refine w_iconst (v := 0) dX3_layOut_57 (by decide) ?_
        refine r_zast  dX3_layOut_58 R1 rfl (hS _ _ rfl) rfl rfl hk4 (lb rfl) (show vp_nar .boolean 0 = 0 from rfl) (fun G2 R2 => ?_)
        refine w_aload_n dX3_layOut_59 h0 ?_
        refine w_iload dX3_layOut_60 h4 ?_
        refine w_lload_n dX3_layOut_62 (h2.trans (congrArg (fun q => some (Value.long (lN q))) eb.symm)) ?_
        refine w_aload_n dX3_layOut_63 h1 ?_
        refine r_getr  dX3_layOut_64 ft_3_42 R2 rfl (hS _ _ rfl) rfl (lb rfl) (cT_s hT 3 0 rfl) ?_
        refine r_inv3  dX3_layOut_67 mt_3_142 R2 rfl (hS _ _ rfl) rfl (lb rfl) (lb rfl) (lb rfl) (lb rfl) rfl (c3_layKind (s := (sI (sL s 10 4 k (lN (bgN τ w S.1 k))) 10 6 k 0)) hT0 hS0 hV hE hF0 hvi hk4 R2 hf.L.I hv (sI_at.trans (if_pos rfl)) (fun s3 G3 R3 f3 v3 q3 p3 g3 => ⟨_, rfl, ?_⟩))
        have e3 : rA s3 = rA s := f3.1.trans hf.1.symm
        have hT3 := CT_cf hT0 hS0 f3
        have hS3 := f3.inn hS0
        have h0a : L 0 = some (.ref (rA s3 7 0)) := by rw [e3]; exact h0
        have h1a : L 1 = some (.ref (rA s3 3 0)) := by rw [e3]; exact h1
        refine w_lstore_n dX3_layOut_70 (lb rfl) rfl ?_
        refine w_aload_n dX3_layOut_71 h0a ?_
        refine r_getr  dX3_layOut_72 ft_3_15 R3 rfl (hS3 _ _ rfl) rfl (lb rfl) (cT_s hT3 7 1 rfl) ?_
        refine w_iload dX3_layOut_75 h4 ?_
        refine w_lload_n dX3_layOut_77 rfl ?_
        refine r_last  dX3_layOut_78 R3 rfl (hS3 _ _ rfl) rfl rfl hk4 (lb rfl) (fun G3 R3 => ?_)
        refine w_iinc dX3_layOut_79 h4 (nI_1 _) (lb rfl) ?_
        refine w_goto (t := 17) dX3_layOut_82 rfl ?_
        refine ih (k + 1) _ _ _ (by omega) R3 (by omega) f3.L v3 (fun x hx hp hk1 => ?_) (fun j hj => ?_) (q3.2.2.1.trans h5) h0a h1a rfl rfl kx
        · by_cases e : tT τ 4 x = nI k
          · exact p3 x hx e hp
          · refine (q3.2.2.2 x e).trans (hP x hx hp ?_)
            have : ¬ (tT τ 4 x).toInt = k := fun q => e (i32e (by rw [q, nI_toInt (by omega)]))
            omega
        · by_cases e : j = k
          · subst e
            refine ⟨(sL_p (by omega)).trans ?_, sL_at.trans (if_pos rfl), g3⟩
            rw [q3.1 4]; exact sL_at.trans (if_pos rfl)
          · obtain ⟨a1, a2, a3⟩ := hK j (by omega)
            refine ⟨(sL_p (by omega)).trans ?_, (sL_at.trans (if_neg e)).trans ?_, (q3.2.1 j e).trans ?_⟩
            · rw [q3.1 4]; exact (sL_at.trans (if_neg e)).trans a1
            · rw [q3.1 5]; exact (sL_p (by omega)).trans a2
            · exact (sI_at.trans (if_neg e)).trans a3
      ·
        refine w_aload_n dX3_layOut_34 h1 ?_
        refine r_getr  dX3_layOut_35 ft_3_138 R rfl (hS _ _ rfl) rfl (lb rfl) (cT_s hT 3 4 rfl) ?_
        refine w_iload dX3_layOut_38 h4 ?_
        refine r_iald  dX3_layOut_40 R rfl (hS _ _ rfl) rfl rfl hk4 (lb rfl) h28 ?_
        refine w_i2l dX3_layOut_41 ?_
        refine w_lstore_n dX3_layOut_42 (lb rfl) rfl ?_
        have rb0 : 0 ≤ (tT τ 28 k).toInt := by have : ¬ (tT τ 28 k).toInt = -1 := fun q => h31 (Int32.toInt_inj.mp q); omega
        have eb : (tT τ 28 k).toInt64 = lN (bgN τ w S.1 k) := by rw [bgN_nx, if_pos rb0, ← nI_l (by have := clI rb0; omega), nIcl rb0]
        refine w_aload_n dX3_layOut_43 h0 ?_
        refine r_getr  dX3_layOut_44 ft_3_9 R rfl (hS _ _ rfl) rfl (lb rfl) (cT_s hT 7 0 rfl) ?_
        refine w_iload dX3_layOut_47 h4 ?_
        refine w_lload_n dX3_layOut_49 (show _ = some (Value.long (lN (bgN τ w S.1 k))) from congrArg (fun q => some (Value.long q)) eb) ?_
        refine r_last  dX3_layOut_50 R rfl (hS _ _ rfl) rfl rfl hk4 (lb rfl) (fun G4 R4 => ?_)
        refine w_aload_n dX3_layOut_51 h0 ?_
        refine r_getr  dX3_layOut_52 ft_3_18 R4 rfl (hS _ _ rfl) rfl (lb rfl) (cT_s hT 7 2 rfl) ?_
        refine w_iload dX3_layOut_55 h4 ?_
        refine w_iconst (v := 0) dX3_layOut_57 (by decide) ?_
        refine r_zast  dX3_layOut_58 R4 rfl (hS _ _ rfl) rfl rfl hk4 (lb rfl) (show vp_nar .boolean 0 = 0 from rfl) (fun G5 R5 => ?_)
        refine w_aload_n dX3_layOut_59 h0 ?_
        refine w_iload dX3_layOut_60 h4 ?_
        refine w_lload_n dX3_layOut_62 (show _ = some (Value.long (lN (bgN τ w S.1 k))) from congrArg (fun q => some (Value.long q)) eb) ?_
        refine w_aload_n dX3_layOut_63 h1 ?_
        refine r_getr  dX3_layOut_64 ft_3_42 R5 rfl (hS _ _ rfl) rfl (lb rfl) (cT_s hT 3 0 rfl) ?_
        refine r_inv3  dX3_layOut_67 mt_3_142 R5 rfl (hS _ _ rfl) rfl (lb rfl) (lb rfl) (lb rfl) (lb rfl) rfl (c3_layKind (s := (sI (sL s 10 4 k (lN (bgN τ w S.1 k))) 10 6 k 0)) hT0 hS0 hV hE hF0 hvi hk4 R5 hf.L.I hv (sI_at.trans (if_pos rfl)) (fun s3 G3 R3 f3 v3 q3 p3 g3 => ⟨_, rfl, ?_⟩))
        have e3 : rA s3 = rA s := f3.1.trans hf.1.symm
        have hT3 := CT_cf hT0 hS0 f3
        have hS3 := f3.inn hS0
        have h0a : L 0 = some (.ref (rA s3 7 0)) := by rw [e3]; exact h0
        have h1a : L 1 = some (.ref (rA s3 3 0)) := by rw [e3]; exact h1
        refine w_lstore_n dX3_layOut_70 (lb rfl) rfl ?_
        refine w_aload_n dX3_layOut_71 h0a ?_
        refine r_getr  dX3_layOut_72 ft_3_15 R3 rfl (hS3 _ _ rfl) rfl (lb rfl) (cT_s hT3 7 1 rfl) ?_
        refine w_iload dX3_layOut_75 h4 ?_
        refine w_lload_n dX3_layOut_77 rfl ?_
        refine r_last  dX3_layOut_78 R3 rfl (hS3 _ _ rfl) rfl rfl hk4 (lb rfl) (fun G6 R6 => ?_)
        refine w_iinc dX3_layOut_79 h4 (nI_1 _) (lb rfl) ?_
        refine w_goto (t := 17) dX3_layOut_82 rfl ?_
        refine ih (k + 1) _ _ _ (by omega) R6 (by omega) f3.L v3 (fun x hx hp hk1 => ?_) (fun j hj => ?_) (q3.2.2.1.trans h5) h0a h1a rfl rfl kx
        · by_cases e : tT τ 4 x = nI k
          · exact p3 x hx e hp
          · refine (q3.2.2.2 x e).trans (hP x hx hp ?_)
            have : ¬ (tT τ 4 x).toInt = k := fun q => e (i32e (by rw [q, nI_toInt (by omega)]))
            omega
        · by_cases e : j = k
          · subst e
            refine ⟨(sL_p (by omega)).trans ?_, sL_at.trans (if_pos rfl), g3⟩
            rw [q3.1 4]; exact sL_at.trans (if_pos rfl)
          · obtain ⟨a1, a2, a3⟩ := hK j (by omega)
            refine ⟨(sL_p (by omega)).trans ?_, (sL_at.trans (if_neg e)).trans ?_, (q3.2.1 j e).trans ?_⟩
            · rw [q3.1 4]; exact (sL_at.trans (if_neg e)).trans a1
            · rw [q3.1 5]; exact (sL_p (by omega)).trans a2
            · exact (sI_at.trans (if_neg e)).trans a3
theorem c3_widen (R : rx_R b0 O z1 z2 s G) (hS : rx_in s) {τ : tx_T} (hT : CT E s τ) (hV : TV τ) {g p q9 hh : Nat} (hg : g < 8) (hp : p < 2 ^ 31) (hq : q9 < 2 ^ 31) (hh2 : hh < 2 ^ 31) {o : Option Nat} (ho : ∀ l, o = some l → l < 2 ^ 31) (h7 : rL s 10 7 g = oL o) (h8 : rL s 10 8 g = lN hh) (q : ∀ G', rx_R b0 O z1 z2 (sL (sL s 10 7 g (oL (match o with | none => some p | some l => some (if p < l then p else l)))) 10 8 g (lN (if hh < q9 then q9 else hh))) G' → Q (.inl none) G') : mx_W (gt_P b0 mi E) mX3_widenSet 0 (mx_en 0 [.ref (rA s 7 0), .int (nI g), .long (lN p), .long (lN q9)]) [] G Q := by
  have hmx : (if lN q9 < lN hh then lN hh else lN q9) = lN (if hh < q9 then q9 else hh) := by
    by_cases e : q9 < hh
    · rw [if_pos ((lN_lt hq hh2).mpr e), if_neg (by omega)]
    · rw [if_neg (fun u => e ((lN_lt hq hh2).mp u))]
      by_cases e2 : hh < q9
      · rw [if_pos e2]
      · rw [if_neg e2, show q9 = hh by omega]
  cases o with
  | none =>
    refine w_aload_n dX3_widenSet_0 rfl ?_
    refine r_getr  dX3_widenSet_1 ft_3_22 R rfl (hS _ _ rfl) rfl (lb rfl) (cT_s hT 7 3 rfl) ?_
    refine w_iload_n dX3_widenSet_4 rfl ?_
    refine w_aload_n dX3_widenSet_5 rfl ?_
    refine r_getr  dX3_widenSet_6 ft_3_22 R rfl (hS _ _ rfl) rfl (lb rfl) (cT_s hT 7 3 rfl) ?_
    refine w_iload_n dX3_widenSet_9 rfl ?_
    refine r_lald  dX3_widenSet_10 R rfl (hS _ _ rfl) rfl rfl hg (lb rfl) h7 ?_
    refine w_ldc2 dX3_widenSet_11 ct_3_163 ?_
    refine r_lc_ne (t := 22) dX3_widenSet_14 dX3_widenSet_15 rfl (fun h => absurd (show (oL none).toInt = (-1 : Int64).toInt from rfl) h) (fun h14 => ?_)
    refine w_lload_n dX3_widenSet_18 rfl ?_
    refine w_goto (t := 32) dX3_widenSet_19 rfl ?_
    refine r_last  dX3_widenSet_32 R rfl (hS _ _ rfl) rfl rfl hg (lb rfl) (fun G1 R1 => ?_)
    refine w_aload_n dX3_widenSet_33 rfl ?_
    refine r_getr  dX3_widenSet_34 ft_3_25 R1 rfl (hS _ _ rfl) rfl (lb rfl) (cT_s hT 7 4 rfl) ?_
    refine w_iload_n dX3_widenSet_37 rfl ?_
    refine w_aload_n dX3_widenSet_38 rfl ?_
    refine r_getr  dX3_widenSet_39 ft_3_25 R1 rfl (hS _ _ rfl) rfl (lb rfl) (cT_s hT 7 4 rfl) ?_
    refine w_iload_n dX3_widenSet_42 rfl ?_
    refine r_lald  dX3_widenSet_43 R1 rfl (hS _ _ rfl) rfl rfl hg (lb rfl) ((sL_p (by omega)).trans h8) ?_
    refine w_lload dX3_widenSet_44 rfl ?_
    refine w_maxl dX3_widenSet_46 mt_3_189 (lb rfl) (lb rfl) (lb rfl) ?_
    rw [hmx]
    refine r_last  dX3_widenSet_49 R1 rfl (hS _ _ rfl) rfl rfl hg (lb rfl) (fun G2 R2 => ?_)
    exact w_ret dX3_widenSet_50 rfl (q _ R2)
  | some l =>
    have hl := ho l rfl
    have hmn : (if lN p < lN l then lN p else lN l) = oL (some (if p < l then p else l)) := by
      by_cases e : p < l
      · rw [if_pos ((lN_lt hp hl).mpr e), if_pos e]; rfl
      · rw [if_neg (fun u => e ((lN_lt hp hl).mp u)), if_neg e]; rfl
    refine w_aload_n dX3_widenSet_0 rfl ?_
    refine r_getr  dX3_widenSet_1 ft_3_22 R rfl (hS _ _ rfl) rfl (lb rfl) (cT_s hT 7 3 rfl) ?_
    refine w_iload_n dX3_widenSet_4 rfl ?_
    refine w_aload_n dX3_widenSet_5 rfl ?_
    refine r_getr  dX3_widenSet_6 ft_3_22 R rfl (hS _ _ rfl) rfl (lb rfl) (cT_s hT 7 3 rfl) ?_
    refine w_iload_n dX3_widenSet_9 rfl ?_
    refine r_lald  dX3_widenSet_10 R rfl (hS _ _ rfl) rfl rfl hg (lb rfl) h7 ?_
    refine w_ldc2 dX3_widenSet_11 ct_3_163 ?_
    refine r_lc_ne (t := 22) dX3_widenSet_14 dX3_widenSet_15 rfl (fun h14 => ?_) (fun h => by rw [oL_some hl, show (-1 : Int64).toInt = -1 from rfl] at h; omega)
    refine w_aload_n dX3_widenSet_22 rfl ?_
    refine r_getr  dX3_widenSet_23 ft_3_22 R rfl (hS _ _ rfl) rfl (lb rfl) (cT_s hT 7 3 rfl) ?_
    refine w_iload_n dX3_widenSet_26 rfl ?_
    refine r_lald  dX3_widenSet_27 R rfl (hS _ _ rfl) rfl rfl hg (lb rfl) h7 ?_
    refine w_lload_n dX3_widenSet_28 rfl ?_
    refine w_minl dX3_widenSet_29 mt_3_183 (lb rfl) (lb rfl) (lb rfl) ?_
    rw [show oL (some l) = lN l from rfl, hmn]
    refine r_last  dX3_widenSet_32 R rfl (hS _ _ rfl) rfl rfl hg (lb rfl) (fun G1 R1 => ?_)
    refine w_aload_n dX3_widenSet_33 rfl ?_
    refine r_getr  dX3_widenSet_34 ft_3_25 R1 rfl (hS _ _ rfl) rfl (lb rfl) (cT_s hT 7 4 rfl) ?_
    refine w_iload_n dX3_widenSet_37 rfl ?_
    refine w_aload_n dX3_widenSet_38 rfl ?_
    refine r_getr  dX3_widenSet_39 ft_3_25 R1 rfl (hS _ _ rfl) rfl (lb rfl) (cT_s hT 7 4 rfl) ?_
    refine w_iload_n dX3_widenSet_42 rfl ?_
    refine r_lald  dX3_widenSet_43 R1 rfl (hS _ _ rfl) rfl rfl hg (lb rfl) ((sL_p (by omega)).trans h8) ?_
    refine w_lload dX3_widenSet_44 rfl ?_
    refine w_maxl dX3_widenSet_46 mt_3_189 (lb rfl) (lb rfl) (lb rfl) ?_
    rw [hmx]
    refine r_last  dX3_widenSet_49 R1 rfl (hS _ _ rfl) rfl rfl hg (lb rfl) (fun G2 R2 => ?_)
    exact w_ret dX3_widenSet_50 rfl (q _ R2)
theorem lo_lt {τ : tx_T} (hV : TV τ) {w : Bool} {V : List (Nat × Nat)} (hv : ∀ x, nvN V x ≤ 200) {g : Int32} {n : Nat} (hn : n ≤ tN τ 1) : (∀ l, loN τ w V g n = some l → l < 2 ^ 31) ∧ hiN τ w V g n < 2 ^ 31 := by
  induction n with
  | zero => exact ⟨fun l h => (by cases h), (by show (0 : Nat) < 2 ^ 31; omega)⟩
  | succ n ih =>
    obtain ⟨i1, i2⟩ := ih (by omega)
    have hp := poN_le hV (w := w) hv (x := n) (by omega)
    have hz := (hV.2.1 n (by omega)).2.2.1
    have hc := clI hz.1
    constructor
    · intro l h
      have h' : (bif kin (kR τ) n && (tT τ 9 n == g) then (match loN τ w V g n with | none => some (poN τ w V n) | some l => some (if poN τ w V n < l then poN τ w V n else l)) else loN τ w V g n) = some l := h
      cases hb : kin (kR τ) n && (tT τ 9 n == g)
      · rw [hb] at h'; exact i1 l h'
      · rw [hb] at h'
        cases e : loN τ w V g n with
        | none => rw [e] at h'; cases h'; omega
        | some l2 =>
          rw [e] at h'
          have := i1 l2 e
          have h2 : (if poN τ w V n < l2 then poN τ w V n else l2) = l := Option.some.inj h'
          split at h2 <;> omega
    · show (bif kin (kR τ) n && (tT τ 9 n == g) then (if hiN τ w V g n < poN τ w V n + cl (tT τ 5 n) then poN τ w V n + cl (tT τ 5 n) else hiN τ w V g n) else hiN τ w V g n) < 2 ^ 31
      cases kin (kR τ) n && (tT τ 9 n == g)
      · exact i2
      · simp only [cond_true]; split <;> omega
theorem c3_fe1 {s0 : rx_S} {τ : tx_T} (hT0 : CT E s0 τ) (hS0 : rx_in s0) (hV : TV τ) (hE : WE b0 O E) {w : Bool} (hF0 : FD E s0 τ w) {S : vS} (hvi : VI τ w S) {tm : Int32}  : ∀ (d : Nat) (t : Nat) (L : mx_L) (s : rx_S) (G : mx_H), tN τ 1 - t < d → rx_R b0 O z1 z2 s G → t ≤ tN τ 1 → cf wP s0 s → VC s τ S → PC s τ w S.1 → EK s τ w S.1 4 → rX s 7 0 5 = .inl (.int tm) → (∀ g, g < 8 → rL s 10 7 g = oL (loN τ w S.1 (nI g) t) ∧ rL s 10 8 g = lN (hiN τ w S.1 (nI g) t)) → L 0 = some (.ref (rA s 7 0)) → L 1 = some (.ref (rA s 8 0)) → L 2 = some (.int (nI t)) → (∀ (L : mx_L) (s : rx_S) (G : mx_H), rx_R b0 O z1 z2 s G → cf wP s0 s → VC s τ S → PC s τ w S.1 → EK s τ w S.1 4 → rX s 7 0 5 = .inl (.int tm) → (∀ g, g < 8 → rL s 10 7 g = oL (loN τ w S.1 (nI g) (tN τ 1)) ∧ rL s 10 8 g = lN (hiN τ w S.1 (nI g) (tN τ 1))) → L 0 = some (.ref (rA s 7 0)) → mx_W (gt_P b0 mi E) mX3_findSetEdges 88 L [] G Q) → mx_W (gt_P b0 mi E) mX3_findSetEdges 20 L [] G Q := by
  intro d
  induction d with
  | zero => intro t L s G hd; exact absurd hd (Nat.not_lt_zero _)
  | succ d ih =>
    intro t L s G hd R ht hf hv hP hK h5 he h0 h1 h2 kx
    have hV0 := hV.1
    have hT := CT_cf hT0 hS0 hf
    have hS := hf.inn hS0
    have hF := FD_cf hF0 hf
    refine w_iload_n dX3_findSetEdges_20 h2 ?_
    refine w_aload_n dX3_findSetEdges_21 h1 ?_
    refine r_inv0  dX3_findSetEdges_22 mt_3_52 R rfl (hS _ _ rfl) rfl (lb rfl) (lb rfl) (lb rfl) (lb rfl) rfl (c_lsize R rfl (hS _ _ rfl) (cT_l0 hT).2.1 ⟨_, rfl, ?_⟩)
    refine r_icmp_gen (t := 88) dX3_findSetEdges_25 rfl (by omega) (by omega) (fun h25 => ?_) (fun h25 => ?_)
    ·
      obtain rfl : t = tN τ 1 := by omega
      exact kx _ _ _ R hf hv hP hK h5 he h0
    ·
      have htn : t < tN τ 1 := by omega
      have hus := cT_Su hT htn
      have r9 := (hV.2.1 t htn).2.2.2.2.2.1
      refine w_aload_n dX3_findSetEdges_28 h1 ?_
      refine w_iload_n dX3_findSetEdges_29 h2 ?_
      refine r_inv1  dX3_findSetEdges_30 mt_3_58 R rfl (hS _ _ rfl) rfl (lb rfl) (lb rfl) (lb rfl) (lb rfl) rfl (c_lget R rfl (hS _ _ rfl) (cT_l0 hT) htn ⟨_, rfl, ?_⟩)
      refine r_cast dX3_findSetEdges_33 qt_3_69 R rfl hus rfl (by decide) ?_
      refine w_astore_n dX3_findSetEdges_36 (lb rfl) ?_
      refine w_aload_n dX3_findSetEdges_37 rfl ?_
      refine r_inv0  dX3_findSetEdges_38 mt_3_171 R rfl hus rfl (lb rfl) (lb rfl) (lb rfl) (lb rfl) rfl (c5_kept R hS hT hV hF htn (fun e38 => ⟨_, rfl, ?_⟩) (fun e38 => ⟨_, rfl, ?_⟩))
      ·
        refine w_if_eq (t := 82) dX3_findSetEdges_41 rfl (fun h => absurd h (by decide)) (fun _ => ?_)
        refine w_aload_n dX3_findSetEdges_44 rfl ?_
        refine r_geti  dX3_findSetEdges_45 ft_3_174 R rfl (cT_Su hT htn) rfl (lb rfl) (cT_S hT htn 9 rfl) ?_
        refine r_if_lti (t := 82) dX3_findSetEdges_48 rfl (fun h48 => ?_) (fun h48 => ?_)
        ·
          refine w_iinc dX3_findSetEdges_82 h2 (nI_1 _) (lb rfl) ?_
          refine w_goto (t := 20) dX3_findSetEdges_85 rfl ?_
          have eb : ∀ g2, g2 < 8 → (kin (kR τ) t && (tT τ 9 t == nI g2)) = false := fun g2 hg2 => by
            have : (tT τ 9 t == nI g2) = false := by
              cases e : tT τ 9 t == nI g2
              · rfl
              · rw [beq_iff_eq.mp e, nI_toInt (by omega)] at h48; omega
            rw [this]; simp
          exact ih (t + 1) _ _ _ (by omega) R (by omega) hf hv hP hK h5 (fun g2 hg2 => by
            have e1 : loN τ w S.1 (nI g2) (t + 1) = loN τ w S.1 (nI g2) t := by show (bif kin (kR τ) t && (tT τ 9 t == nI g2) then _ else _) = _; rw [eb g2 hg2]; rfl
            have e2 : hiN τ w S.1 (nI g2) (t + 1) = hiN τ w S.1 (nI g2) t := by show (bif kin (kR τ) t && (tT τ 9 t == nI g2) then _ else _) = _; rw [eb g2 hg2]; rfl
            rw [e1, e2]; exact he g2 hg2) h0 h1 rfl kx
        ·
          obtain ⟨g, hg, hge⟩ := nI_ofI h48
          have hg8 : g < 8 := by have r92 := r9.2; rw [hge, nI_toInt hg] at r92; omega
          have hx9 : rX s 20 t 9 = .inl (.int (nI g)) := (cT_S hT htn 9 rfl).trans (congrArg (fun q => Sum.inl (Value.int q)) hge)
          have hzr := (hV.2.1 t htn).2.2.1
          have hzc := clI hzr.1
          have hx3 : rX s 20 t 3 = .inl (.int (nI (cl (tT τ 5 t)))) := (cT_S hT htn 3 rfl).trans (congrArg (fun q => Sum.inl (Value.int q)) (nIcl hzr.1).symm)
          have hpo := poN_le hV (w := w) (VI_nv hvi hV) (x := t) (by omega)
          have hlb := lo_lt hV (w := w) (VI_nv hvi hV) (g := nI g) (n := t) (by omega)
          refine w_aload_n dX3_findSetEdges_51 rfl ?_
          refine r_geti  dX3_findSetEdges_52 ft_3_174 R rfl hus rfl (lb rfl) hx9 ?_
          refine w_bipush (v := nI 8) dX3_findSetEdges_55 (by decide) ?_
          refine r_icmp_gen (t := 82) dX3_findSetEdges_57 rfl (by omega) (by omega) (fun h => by omega) (fun h57 => ?_)
          refine w_aload_n dX3_findSetEdges_60 h0 ?_
          refine w_aload_n dX3_findSetEdges_61 rfl ?_
          refine r_geti  dX3_findSetEdges_62 ft_3_174 R rfl hus rfl (lb rfl) hx9 ?_
          refine w_aload_n dX3_findSetEdges_65 rfl ?_
          refine r_inv0  dX3_findSetEdges_66 mt_3_99 R rfl hus rfl (lb rfl) (lb rfl) (lb rfl) (lb rfl) rfl (c5_poN R hS hT hV hF hP htn e38 ⟨_, rfl, ?_⟩)
          refine w_aload_n dX3_findSetEdges_69 rfl ?_
          refine r_inv0  dX3_findSetEdges_70 mt_3_99 R rfl hus rfl (lb rfl) (lb rfl) (lb rfl) (lb rfl) rfl (c5_poN R hS hT hV hF hP htn e38 ⟨_, rfl, ?_⟩)
          refine w_aload_n dX3_findSetEdges_73 rfl ?_
          refine r_geti  dX3_findSetEdges_74 ft_3_177 R rfl hus rfl (lb rfl) hx3 ?_
          refine w_i2l dX3_findSetEdges_77 ?_
          refine w_ladd dX3_findSetEdges_78 ?_
          rw [nI_l (by omega), lN_add]
          refine r_inv3  dX3_findSetEdges_79 mt_3_179 R rfl (hS _ _ rfl) rfl (lb rfl) (lb rfl) (lb rfl) (lb rfl) rfl (c3_widen (p := poN τ w S.1 t) (q9 := poN τ w S.1 t + cl (tT τ 5 t)) R hS hT hV hg8 (by omega) (by omega) hlb.2 hlb.1 (he g hg8).1 (he g hg8).2 (fun G1 R1 => ⟨_, rfl, ?_⟩))
          refine w_iinc dX3_findSetEdges_82 h2 (nI_1 _) (lb rfl) ?_
          refine w_goto (t := 20) dX3_findSetEdges_85 rfl ?_
          refine ih (t + 1) _ _ _ (by omega) R1 (by omega) hf.L.L hv hP (fun j hj => ⟨(sL_p (by omega)).trans ((sL_p (by omega)).trans (hK j hj).1), (sL_p (by omega)).trans ((sL_p (by omega)).trans (hK j hj).2.1), (hK j hj).2.2⟩) h5 (fun g2 hg2 => ?_) h0 h1 rfl kx
          by_cases e : g2 = g
          · subst e
            have eb : (kin (kR τ) t && (tT τ 9 t == nI g2)) = true := by rw [e38, hge]; simp
            have e1 : loN τ w S.1 (nI g2) (t + 1) = (match loN τ w S.1 (nI g2) t with | none => some (poN τ w S.1 t) | some l => some (if poN τ w S.1 t < l then poN τ w S.1 t else l)) := by show (bif kin (kR τ) t && (tT τ 9 t == nI g2) then _ else _) = _; rw [eb]; rfl
            have e2 : hiN τ w S.1 (nI g2) (t + 1) = if hiN τ w S.1 (nI g2) t < poN τ w S.1 t + cl (tT τ 5 t) then poN τ w S.1 t + cl (tT τ 5 t) else hiN τ w S.1 (nI g2) t := by show (bif kin (kR τ) t && (tT τ 9 t == nI g2) then _ else _) = _; rw [eb]; rfl
            rw [e1, e2]
            exact ⟨(sL_p (by omega)).trans (sL_at.trans (if_pos rfl)), sL_at.trans (if_pos rfl)⟩
          · have eb : (kin (kR τ) t && (tT τ 9 t == nI g2)) = false := by
              have : (tT τ 9 t == nI g2) = false := by
                cases e3 : tT τ 9 t == nI g2
                · rfl
                · exfalso
                  have e4 := beq_iff_eq.mp e3
                  rw [hge] at e4
                  have := congrArg cl e4
                  rw [show cl (nI g) = g from nI_clamp (by omega), show cl (nI g2) = g2 from nI_clamp (by omega)] at this
                  exact e this.symm
              rw [this]; simp
            have e1 : loN τ w S.1 (nI g2) (t + 1) = loN τ w S.1 (nI g2) t := by show (bif kin (kR τ) t && (tT τ 9 t == nI g2) then _ else _) = _; rw [eb]; rfl
            have e2 : hiN τ w S.1 (nI g2) (t + 1) = hiN τ w S.1 (nI g2) t := by show (bif kin (kR τ) t && (tT τ 9 t == nI g2) then _ else _) = _; rw [eb]; rfl
            rw [e1, e2]
            exact ⟨(sL_p (by omega)).trans ((sL_at.trans (if_neg e)).trans (he g2 hg2).1), (sL_at.trans (if_neg e)).trans ((sL_p (by omega)).trans (he g2 hg2).2)⟩
      ·
        refine w_if_eq (t := 82) dX3_findSetEdges_41 rfl (fun _ => ?_) (fun h => absurd (by decide) h)
        refine w_iinc dX3_findSetEdges_82 h2 (nI_1 _) (lb rfl) ?_
        refine w_goto (t := 20) dX3_findSetEdges_85 rfl ?_
        have eb : ∀ g2, g2 < 8 → (kin (kR τ) t && (tT τ 9 t == nI g2)) = false := fun g2 hg2 => by
          rw [e38]; rfl
        exact ih (t + 1) _ _ _ (by omega) R (by omega) hf hv hP hK h5 (fun g2 hg2 => by
          have e1 : loN τ w S.1 (nI g2) (t + 1) = loN τ w S.1 (nI g2) t := by show (bif kin (kR τ) t && (tT τ 9 t == nI g2) then _ else _) = _; rw [eb g2 hg2]; rfl
          have e2 : hiN τ w S.1 (nI g2) (t + 1) = hiN τ w S.1 (nI g2) t := by show (bif kin (kR τ) t && (tT τ 9 t == nI g2) then _ else _) = _; rw [eb g2 hg2]; rfl
          rw [e1, e2]; exact he g2 hg2) h0 h1 rfl kx
theorem c3_fe2 {s0 : rx_S} {τ : tx_T} (hT0 : CT E s0 τ) (hS0 : rx_in s0) (hV : TV τ) (hE : WE b0 O E) {w : Bool} (hF0 : FD E s0 τ w) {S : vS} (hvi : VI τ w S) {tm : Int32}  : ∀ (d : Nat) (t : Nat) (L : mx_L) (s : rx_S) (G : mx_H), 8 - t < d → rx_R b0 O z1 z2 s G → t ≤ 8 → cf wP s0 s → VC s τ S → PC s τ w S.1 → EK s τ w S.1 4 → rX s 7 0 5 = .inl (.int tm) → (∀ g, g < t → rL s 10 7 g = lN ((loN τ w S.1 (nI g) (tN τ 1)).getD 0)) → (∀ g, t ≤ g → g < 8 → rL s 10 7 g = oL (loN τ w S.1 (nI g) (tN τ 1))) → (∀ g, g < 8 → rL s 10 8 g = lN (hiN τ w S.1 (nI g) (tN τ 1))) → L 0 = some (.ref (rA s 7 0)) → L 2 = some (.int (nI t)) → (∀ (s' : rx_S) (G' : mx_H), rx_R b0 O z1 z2 s' G' → cf wP s0 s' → VC s' τ S → PC s' τ w S.1 → EK s' τ w S.1 4 → rX s' 7 0 5 = .inl (.int tm) → ES s' τ w S.1 → Q (.inl none) G') → mx_W (gt_P b0 mi E) mX3_findSetEdges 90 L [] G Q := by
  intro d
  induction d with
  | zero => intro t L s G hd; exact absurd hd (Nat.not_lt_zero _)
  | succ d ih =>
    intro t L s G hd R ht hf hv hP hK h5 he1 he2 he3 h0 h2 kx
    have hV0 := hV.1
    have hT := CT_cf hT0 hS0 hf
    have hS := hf.inn hS0
    have hF := FD_cf hF0 hf
    refine w_iload_n dX3_findSetEdges_90 h2 ?_
    refine w_bipush (v := nI 8) dX3_findSetEdges_91 (by decide) ?_
    refine r_icmp_gen (t := 131) dX3_findSetEdges_93 rfl (by omega) (by omega) (fun h93 => ?_) (fun h93 => ?_)
    ·
      refine w_ret dX3_findSetEdges_131 rfl ?_
      obtain rfl : t = 8 := by omega
      exact kx _ _ R hf hv hP hK h5 (fun g hg => ⟨he1 g hg, he3 g hg⟩)
    ·
      have ht8 : t < 8 := by omega
      have hlb := lo_lt hV (w := w) (VI_nv hvi hV) (g := nI t) (n := tN τ 1) (Nat.le_refl _)
      refine w_aload_n dX3_findSetEdges_96 h0 ?_
      refine r_getr  dX3_findSetEdges_97 ft_3_22 R rfl (hS _ _ rfl) rfl (lb rfl) (cT_s hT 7 3 rfl) ?_
      refine w_iload_n dX3_findSetEdges_100 h2 ?_
      refine w_aload_n dX3_findSetEdges_101 h0 ?_
      refine r_getr  dX3_findSetEdges_102 ft_3_22 R rfl (hS _ _ rfl) rfl (lb rfl) (cT_s hT 7 3 rfl) ?_
      refine w_iload_n dX3_findSetEdges_105 h2 ?_
      refine r_lald  dX3_findSetEdges_106 R rfl (hS _ _ rfl) rfl rfl ht8 (lb rfl) (he2 t (Nat.le_refl _) ht8) ?_
      refine w_ldc2 dX3_findSetEdges_107 ct_3_163 ?_
      refine r_lc_ne (t := 118) dX3_findSetEdges_110 dX3_findSetEdges_111 rfl (fun h110 => ?_) (fun h110 => ?_)
      ·
        refine w_aload_n dX3_findSetEdges_118 h0 ?_
        refine r_getr  dX3_findSetEdges_119 ft_3_22 R rfl (hS _ _ rfl) rfl (lb rfl) (cT_s hT 7 3 rfl) ?_
        refine w_iload_n dX3_findSetEdges_122 h2 ?_
        refine r_lald  dX3_findSetEdges_123 R rfl (hS _ _ rfl) rfl rfl ht8 (lb rfl) (he2 t (Nat.le_refl _) ht8) ?_
        refine r_last  dX3_findSetEdges_124 R rfl (hS _ _ rfl) rfl rfl ht8 (lb rfl) (fun G1 R1 => ?_)
        refine w_iinc dX3_findSetEdges_125 h2 (nI_1 _) (lb rfl) ?_
        refine w_goto (t := 90) dX3_findSetEdges_128 rfl ?_
        have eo : ∃ l, loN τ w S.1 (nI t) (tN τ 1) = some l := by
          cases e : loN τ w S.1 (nI t) (tN τ 1) with
          | none => rw [e] at h110; exact absurd rfl h110
          | some l => exact ⟨l, rfl⟩
        exact ih (t + 1) _ _ _ (by omega) R1 (by omega) hf.L hv hP (fun j hj => ⟨(sL_p (by omega)).trans (hK j hj).1, (sL_p (by omega)).trans (hK j hj).2.1, (hK j hj).2.2⟩) h5 (fun g hg => by
          by_cases e : g = t
          · rw [e]
            refine (sL_at.trans (if_pos rfl)).trans ?_
            obtain ⟨l, el⟩ := eo; rw [el]; rfl
          · exact (sL_at.trans (if_neg e)).trans (he1 g (by omega))) (fun g hg hg2 => (sL_at.trans (if_neg (by omega))).trans (he2 g (by omega) hg2)) (fun g hg => (sL_p (by omega)).trans (he3 g hg)) h0 rfl kx
      ·
        refine w_lconst (v := 0) dX3_findSetEdges_114 (by decide) ?_
        refine w_goto (t := 124) dX3_findSetEdges_115 rfl ?_
        refine r_last  dX3_findSetEdges_124 R rfl (hS _ _ rfl) rfl rfl ht8 (lb rfl) (fun G2 R2 => ?_)
        refine w_iinc dX3_findSetEdges_125 h2 (nI_1 _) (lb rfl) ?_
        refine w_goto (t := 90) dX3_findSetEdges_128 rfl ?_
        have eo : loN τ w S.1 (nI t) (tN τ 1) = none := by
          cases e : loN τ w S.1 (nI t) (tN τ 1) with
          | none => rfl
          | some l => rw [e, oL_some (hlb.1 l e), show (-1 : Int64).toInt = -1 from rfl] at h110; omega
        exact ih (t + 1) _ _ _ (by omega) R2 (by omega) hf.L hv hP (fun j hj => ⟨(sL_p (by omega)).trans (hK j hj).1, (sL_p (by omega)).trans (hK j hj).2.1, (hK j hj).2.2⟩) h5 (fun g hg => by
          by_cases e : g = t
          · rw [e]
            refine (sL_at.trans (if_pos rfl)).trans ?_
            rw [show loN τ w S.1 (nI t) (tN τ 1) = none from eo]; rfl
          · exact (sL_at.trans (if_neg e)).trans (he1 g (by omega))) (fun g hg hg2 => (sL_at.trans (if_neg (by omega))).trans (he2 g (by omega) hg2)) (fun g hg => (sL_p (by omega)).trans (he3 g hg)) h0 rfl kx
theorem c3_edges {s0 : rx_S} {τ : tx_T} (hT0 : CT E s0 τ) (hS0 : rx_in s0) (hV : TV τ) (hE : WE b0 O E) {w : Bool} (hF0 : FD E s0 τ w) {S : vS} (hvi : VI τ w S) {tm : Int32} (R : rx_R b0 O z1 z2 s G) (hf : cf wP s0 s) (hv : VC s τ S) (hP : PC s τ w S.1) (hK : EK s τ w S.1 4) (h5 : rX s 7 0 5 = .inl (.int tm)) (q : ∀ (s' : rx_S) (G' : mx_H), rx_R b0 O z1 z2 s' G' → cf wP s0 s' → VC s' τ S → PC s' τ w S.1 → EK s' τ w S.1 4 → rX s' 7 0 5 = .inl (.int tm) → ES s' τ w S.1 → Q (.inl none) G') : mx_W (gt_P b0 mi E) mX3_findSetEdges 0 (mx_en 0 [.ref (rA s 7 0), .ref (rA s 8 0)]) [] G Q := by
  have hV0 := hV.1
  have hT := CT_cf hT0 hS0 hf
  have hS := hf.inn hS0
  have hF := FD_cf hF0 hf
  refine w_aload_n dX3_findSetEdges_0 rfl ?_
  refine r_getr  dX3_findSetEdges_1 ft_3_22 R rfl (hS _ _ rfl) rfl (lb rfl) (cT_s hT 7 3 rfl) ?_
  refine w_ldc2 dX3_findSetEdges_4 ct_3_163 ?_
  refine r_stat2 dX3_findSetEdges_7 mt_3_165 (lb rfl) (lb rfl) (lb rfl) (lb rfl) rfl (c_filll R (hS _ _ rfl) rfl (by omega) (fun G1 R1 => ⟨_, rfl, ?_⟩))
  refine w_aload_n dX3_findSetEdges_10 rfl ?_
  refine r_getr  dX3_findSetEdges_11 ft_3_25 R1 rfl (hS _ _ rfl) rfl (lb rfl) (cT_s hT 7 4 rfl) ?_
  refine w_lconst (v := 0) dX3_findSetEdges_14 (by decide) ?_
  refine r_stat2 dX3_findSetEdges_15 mt_3_165 (lb rfl) (lb rfl) (lb rfl) (lb rfl) rfl (c_filll (s := sFL s 7 8 (-1)) R1 (hS _ _ rfl) rfl (by omega) (fun G2 R2 => ⟨_, rfl, ?_⟩))
  refine w_iconst (v := nI 0) dX3_findSetEdges_18 (by decide) ?_
  refine w_istore_n dX3_findSetEdges_19 (lb rfl) ?_
  have fp : ∀ i n v i2 k, i ≠ i2 → rL (sFL (sFL s 7 8 (-1)) i n v) 10 i2 k = rL (sFL s 7 8 (-1)) 10 i2 k := fun i n v i2 k h => if_neg (fun e => h e.2.1.symm)
  have fp0 : ∀ i2 k, 7 ≠ i2 → rL (sFL s 7 8 (-1)) 10 i2 k = rL s 10 i2 k := fun i2 k h => if_neg (fun e => h e.2.1.symm)
  refine c3_fe1 hT0 hS0 hV hE hF0 hvi _ 0 _ (sFL (sFL s 7 8 (-1)) 8 8 0) _ (Nat.lt_succ_self _) R2 (Nat.zero_le _) hf.FL.FL hv hP (fun j hj => ⟨(fp 8 8 0 4 j (by omega)).trans ((fp0 4 j (by omega)).trans (hK j hj).1), (fp 8 8 0 5 j (by omega)).trans ((fp0 5 j (by omega)).trans (hK j hj).2.1), (hK j hj).2.2⟩) h5 (fun g hg => ⟨(fp 8 8 0 7 g (by omega)).trans (sFL_at hg), sFL_at hg⟩) rfl rfl rfl (fun L3 s3 G3 R3 f3 v3 p3 k3 t3 e3 h0 => ?_)
  refine w_iconst (v := nI 0) dX3_findSetEdges_88 (by decide) ?_
  refine w_istore_n dX3_findSetEdges_89 (lb rfl) ?_
  exact c3_fe2 hT0 hS0 hV hE hF0 hvi _ 0 _ s3 _ (Nat.lt_succ_self _) R3 (Nat.zero_le _) f3 v3 p3 k3 t3 (fun g hg => absurd hg (Nat.not_lt_zero _)) (fun g _ hg => (e3 g hg).1) (fun g hg => (e3 g hg).2) h0 rfl q
theorem c3_layOut {s0 : rx_S} {τ : tx_T} (hT0 : CT E s0 τ) (hS0 : rx_in s0) (hV : TV τ) (hE : WE b0 O E) {w : Bool} (hF0 : FD E s0 τ w) {S : vS} (hvi : VI τ w S) {tm : Nat} (R : rx_R b0 O z1 z2 s G) (hf : cf wP s0 s) (hv : VC s τ S) (h5 : rX s 7 0 5 = .inl (.int (nI tm))) (q : ∀ (s' : rx_S) (G' : mx_H), rx_R b0 O z1 z2 s' G' → cf wP s0 s' → VC s' τ S → PC s' τ w S.1 → EK s' τ w S.1 4 → rX s' 7 0 5 = .inl (.int (nI (tm + 1))) → ES s' τ w S.1 → Q (.inl none) G') : mx_W (gt_P b0 mi E) mX3_layOut 0 (mx_en 0 [.ref (rA s 7 0), .ref (rA s 3 0)]) [] G Q := by
  have hV0 := hV.1
  have hT := CT_cf hT0 hS0 hf
  have hS := hf.inn hS0
  have hF := FD_cf hF0 hf
  refine w_aload_n dX3_layOut_0 rfl ?_
  refine w_dup dX3_layOut_1 rfl ?_
  refine r_geti  dX3_layOut_2 ft_3_28 R rfl (hS _ _ rfl) rfl (lb rfl) h5 ?_
  refine w_iconst (v := 1) dX3_layOut_5 (by decide) ?_
  refine w_iadd dX3_layOut_6 ?_
  rw [nI_1]
  refine r_puti  dX3_layOut_7 ft_3_28 R rfl (hS _ _ rfl) rfl (lb rfl) (fun h => by cases h) rfl rfl (fun G1 R1 => ?_)
  refine w_ldc2 dX3_layOut_10 ct_3_136 ?_
  refine w_lstore_n dX3_layOut_13 (lb rfl) rfl ?_
  refine w_iconst (v := nI 0) dX3_layOut_14 (by decide) ?_
  refine w_istore dX3_layOut_15 (lb rfl) ?_
  refine c3_lo_l hT0 hS0 hV hE hF0 hvi (tm := nI (tm + 1)) _ 0 _ (sX s 7 0 5 (.inl (.int (nI (tm + 1))))) _ (Nat.lt_succ_self _) R1 (Nat.zero_le _) hf.X ⟨hv.1, hv.2.1, hv.2.2⟩ (fun x hx _ hk => ?_) (fun j hj => absurd hj (Nat.not_lt_zero _)) rfl rfl rfl rfl rfl (fun L3 s3 G3 R3 f3 v3 p3 k3 t3 h0 h1 => ?_)
  · have := (hV.2.1 x hx).2.1; omega
  · have hT3 := CT_cf hT0 hS0 f3
    have hS3 := f3.inn hS0
    refine w_aload_n dX3_layOut_85 h0 ?_
    refine w_aload_n dX3_layOut_86 h1 ?_
    refine r_getr dX3_layOut_87 ft_3_42 R3 rfl (hS3 _ _ rfl) rfl (lb rfl) (cT_s hT3 3 0 rfl) ?_
    refine r_inv1 dX3_layOut_90 mt_3_146 R3 rfl (hS3 _ _ rfl) rfl (lb rfl) (lb rfl) (lb rfl) (lb rfl) rfl (c3_edges hT0 hS0 hV hE hF0 hvi R3 f3 v3 p3 k3 t3 (fun s4 G4 R4 f4 v4 p4 k4 t4 e4 => ⟨_, rfl, ?_⟩))
    exact w_ret dX3_layOut_93 rfl (q _ _ R4 f4 v4 p4 k4 t4 e4)
end
