theorem mfr.inn {s s' : rx_S} (h : mfr s s') (hS : rx_in s) : rx_in s' := fun r i e => by rw [h.2.1]; exact hS r i e
/-- only the model has changed, but not its flags -/
def fl0 (f : Nat) : Bool := Nat.beq f 0 || (Nat.beq f 29 || (Nat.beq f 30 || (Nat.beq f 31 || Nat.beq f 32)))
def mfk (s s' : rx_S) : Prop := rA s' = rA s ∧ mfr s s' ∧ ∀ f, fl0 f = true → rX s' 0 0 f = rX s 0 0 f
theorem mfk.w {s s' : rx_S} (h : mfk s s') : mfr s s' := h.2.1
theorem mfk.inn {s s' : rx_S} (h : mfk s s') (hS : rx_in s) : rx_in s' := h.2.1.inn hS
theorem mfk.rf (s : rx_S) : mfk s s := ⟨rfl, mfr.rf s, fun _ _ => rfl⟩
theorem mfk.tr {s s' s'' : rx_S} (h : mfk s s') (h2 : mfk s' s'') : mfk s s'' := ⟨h2.1.trans h.1, h.2.1.tr h2.2.1, fun f hf => (h2.2.2 f hf).trans (h.2.2 f hf)⟩
theorem mfk.I {s s' : rx_S} (h : mfk s s') {i f : Nat} {w : Int32} : mfk s (sI s' 1 i f w) := ⟨h.1, h.2.1.I, h.2.2⟩
theorem mfk.L {s s' : rx_S} (h : mfk s s') {i f : Nat} {w : Int64} : mfk s (sL s' 1 i f w) := ⟨h.1, h.2.1.L, h.2.2⟩
theorem mfk.X {s s' : rx_S} (h : mfk s s') {i f : Nat} {w : rx_V} (hf : fl0 f = false := by rfl) : mfk s (sX s' 0 i f w) := ⟨h.1, h.2.1.X, fun g hg => (u3_n _ _ (fun e => by rw [e.2.2, hf] at hg; cases hg)).trans (h.2.2 g hg)⟩
theorem b32_ne {b : Bool} (h : ¬ b32 b = 0) : b = true := by cases b <;> simp [b32] at h ⊢
theorem b32_eq {b : Bool} (h : b32 b = 0) : b = false := by cases b <;> simp [b32] at h ⊢
theorem fst1_an {f : Nat → Bool} {n : Nat} : fst1 f n = none ↔ an f n = false := by rw [fst1_none, an_false]
theorem st_0 {τ : tx_T} {n k : Nat} {v : Int32} (h : is2 τ k = true → (tT τ 16 k).toInt = n → False) (h2 : lst (secP τ n k) v) : lst (secP τ n (k + 1)) v := by
  refine lst_congr (fun j => ?_) h2
  unfold secP
  constructor
  · rintro ⟨a, b, c⟩; exact ⟨a, b, by omega⟩
  · rintro ⟨a, b, c⟩
    refine ⟨a, b, ?_⟩
    by_cases e : j = k
    · subst e
      rcases c with c | c
      · exact Or.inl c
      · exact absurd c.1 (h b)
    · omega
theorem st_1 {τ : tx_T} {n k : Nat} {v : Int32} (hk : k < tN τ 2) (hk2 : k < 200) (h : is2 τ k = true) (hn : (tT τ 16 k).toInt = n) (h2 : lst (secP τ n k) v) : (v = -1 ∨ (nI k < v ∧ v ≠ -1) → lst (secP τ n (k + 1)) (nI k)) ∧ (v ≠ -1 → v ≤ nI k → lst (secP τ n (k + 1)) v) := by
  refine lst_add hk2 (fun j => ?_) h2
  unfold secP
  constructor
  · rintro ⟨a, b, c⟩
    by_cases e : j = k
    · exact Or.inr e
    · exact Or.inl ⟨a, b, by omega⟩
  · rintro (⟨a, b, c⟩ | e)
    · exact ⟨a, b, by omega⟩
    · subst e; exact ⟨hk, h, Or.inr ⟨hn, by omega⟩⟩
theorem isD_name {τ : tx_T} {n k : Nat} (hn : n < 64) (h : isD τ (nI n) k = true) : tT τ 16 k = nI n ∧ (tT τ 16 k).toInt = n := by
  unfold isD at h
  simp only [Bool.and_eq_true, beq_iff_eq] at h
  exact ⟨h.1.1.1, by rw [h.1.1.1, nI_toInt (by omega)]⟩
theorem is2_no {τ : tx_T} {n k : Nat} (hn : n < 64) (h : isG τ (nI n) k = false ∨ fst1 (isG τ (nI n)) k = none) : is2 τ k = true → (tT τ 16 k).toInt = n → False := by
  intro h2 e
  have e2 : tT τ 16 k = nI n := i32e (by rw [e, nI_toInt (by omega)])
  unfold is2 at h2
  rw [e2, Bool.and_eq_true] at h2
  rcases h with h | h
  · rw [h] at h2; cases h2.1
  · rw [fst1_an.mp h] at h2; cases h2.2
theorem is2_yes {τ : tx_T} {n k : Nat} (hn : n < 64) (hD : isD τ (nI n) k = true) (h1 : tT τ 19 k = 1) (h2 : ¬ fst1 (isG τ (nI n)) k = none) : is2 τ k = true := by
  unfold is2
  rw [(isD_name hn hD).1]
  have : isG τ (nI n) k = true := by unfold isG; rw [hD, h1]; rfl
  rw [this]
  cases e : an (isG τ (nI n)) k
  · exact absurd (fst1_an.mpr e) h2
  · rfl
theorem fst_lt {f : Nat → Bool} {n j : Nat} (h : fst1 f n = some j) : j < n := (fst1_some.mp h).1
section
variable {b0 mi z1 z2 : Nat} {E : Nat → Nat} {O : Nat → Option mx_C} {s : rx_S} {G : mx_H} {Q : mx_O → mx_H → Prop}
theorem c10_names_t {s0 : rx_S} (hS0 : rx_in s0) {τ : tx_T} (hV : TV τ) {i : Nat} (hi : i < tN τ 1)  : ∀ (d : Nat) (t : Nat) (L : mx_L) (s : rx_S) (G : mx_H), tN τ 1 - t < d → rx_R b0 O z1 z2 s G → t ≤ tN τ 1 → mfk s0 s → MR s τ → (∀ a, a < i → rI s 1 33 a = b32 (lostB τ a)) → rI s 1 33 i = b32 (an (fun t => !(tT τ 10 i == -1) && (tT τ 10 t == tT τ 10 i) && decide ((tT τ 3 t).toInt < (tT τ 3 i).toInt)) t) → L 0 = some (.ref (rA s 0 0)) → L 1 = some (.int (nI i)) → L 2 = some (.int (nI t)) → (∀ (L : mx_L) (s : rx_S) (G : mx_H), rx_R b0 O z1 z2 s G → mfk s0 s → MR s τ → (∀ a, a < i + 1 → rI s 1 33 a = b32 (lostB τ a)) → L 0 = some (.ref (rA s 0 0)) → L 1 = some (.int (nI i)) → mx_W (gt_P b0 mi E) mX10_names 93 L [] G Q) → mx_W (gt_P b0 mi E) mX10_names 19 L [] G Q := by
  intro d
  induction d with
  | zero => intro t L s G hd; exact absurd hd (Nat.not_lt_zero _)
  | succ d ih =>
    intro t L s G hd R ht hf hT hl hc h0 h1 h2 kx
    obtain ⟨hM, ⟨c1, c2, c13, c14, c20, c26⟩, hsec, hby, hsy, hre, hro, hba⟩ := id hT
    have hV0 := hV.1
    have hS : rx_in s := hf.inn hS0
    refine w_iload_n dX10_names_19 h2 ?_
    refine w_aload_n dX10_names_20 h0 ?_
    refine r_geti  dX10_names_21 ft_9_165 R rfl (hS _ _ rfl) rfl (lb rfl) c2 ?_
    refine r_icmp_gen (t := 93) dX10_names_24 rfl (by omega) (by omega) (fun h24 => ?_) (fun h24 => ?_)
    ·
      obtain rfl : t = tN τ 1 := by omega
      refine kx _ _ _ R hf hT (fun a ha => ?_) h0 h1
      by_cases e : a = i
      · subst e; exact hc
      · exact hl a (by omega)
    ·
      refine w_aload_n dX10_names_27 h0 ?_
      refine r_getr  dX10_names_28 ft_9_85 R rfl (hS _ _ rfl) rfl (lb rfl) (hM.1 33 (lb rfl) (lb rfl)) ?_
      refine w_iload_n dX10_names_31 h1 ?_
      refine w_aload_n dX10_names_32 h0 ?_
      refine r_getr  dX10_names_33 ft_9_85 R rfl (hS _ _ rfl) rfl (lb rfl) (hM.1 33 (lb rfl) (lb rfl)) ?_
      refine w_iload_n dX10_names_36 h1 ?_
      refine r_zald  dX10_names_37 R rfl (hS _ _ rfl) rfl rfl (by omega) (lb rfl) hc ?_
      refine r_if_neP (t := 81) dX10_names_38 rfl (fun h38 => ?_) (fun h38 => ?_)
      ·
        refine w_iconst (v := 1) dX10_names_81 (by decide) ?_
        refine w_goto (t := 86) dX10_names_82 rfl ?_
        refine r_zast  dX10_names_86 R rfl (hS _ _ rfl) rfl rfl (by omega) (lb rfl) (show vp_nar .boolean 1 = 1 from rfl) (fun G1 R1 => ?_)
        refine w_iinc dX10_names_87 h2 (nI_1 _) (lb rfl) ?_
        refine w_goto (t := 19) dX10_names_90 rfl ?_
        have hn : an (fun t => !(tT τ 10 i == -1) && (tT τ 10 t == tT τ 10 i) && decide ((tT τ 3 t).toInt < (tT τ 3 i).toInt)) (t + 1) = true := by rw [an, b32_ne h38]; rfl
        exact ih (t + 1) _ _ _ (by omega) R1 (by omega) hf.I (MR_I hT (by omega)) (fun a ha => (w3_n _ _ (by omega)).trans (hl a ha)) (by rw [hn]; exact (w3_at _ _ _ _ _ _).trans (if_pos rfl)) h0 h1 rfl kx
      ·
        refine w_aload_n dX10_names_41 h0 ?_
        refine r_getr  dX10_names_42 ft_9_36 R rfl (hS _ _ rfl) rfl (lb rfl) (hM.1 10 (lb rfl) (lb rfl)) ?_
        refine w_iload_n dX10_names_45 h1 ?_
        refine r_iald  dX10_names_46 R rfl (hS _ _ rfl) rfl rfl (by omega) (lb rfl) (hsec i hi).2.2.2.2.2.2 ?_
        refine w_iconst (v := (-1)) dX10_names_47 (by decide) ?_
        refine w_icmp_eq (t := 85) dX10_names_48 rfl (fun h48 => ?_) (fun h48 => ?_)
        ·
          refine w_iconst (v := 0) dX10_names_85 (by decide) ?_
          refine r_zast  dX10_names_86 R rfl (hS _ _ rfl) rfl rfl (by omega) (lb rfl) (show vp_nar .boolean 0 = 0 from rfl) (fun G2 R2 => ?_)
          refine w_iinc dX10_names_87 h2 (nI_1 _) (lb rfl) ?_
          refine w_goto (t := 19) dX10_names_90 rfl ?_
          have hn : an (fun t => !(tT τ 10 i == -1) && (tT τ 10 t == tT τ 10 i) && decide ((tT τ 3 t).toInt < (tT τ 3 i).toInt)) (t + 1) = false := by rw [an, b32_eq h38]; simp [h48]
          exact ih (t + 1) _ _ _ (by omega) R2 (by omega) hf.I (MR_I hT (by omega)) (fun a ha => (w3_n _ _ (by omega)).trans (hl a ha)) (by rw [hn]; exact (w3_at _ _ _ _ _ _).trans (if_pos rfl)) h0 h1 rfl kx
        ·
          refine w_aload_n dX10_names_51 h0 ?_
          refine r_getr  dX10_names_52 ft_9_36 R rfl (hS _ _ rfl) rfl (lb rfl) (hM.1 10 (lb rfl) (lb rfl)) ?_
          refine w_iload_n dX10_names_55 h2 ?_
          refine r_iald  dX10_names_56 R rfl (hS _ _ rfl) rfl rfl (by omega) (lb rfl) (hsec t (by omega)).2.2.2.2.2.2 ?_
          refine w_aload_n dX10_names_57 h0 ?_
          refine r_getr  dX10_names_58 ft_9_36 R rfl (hS _ _ rfl) rfl (lb rfl) (hM.1 10 (lb rfl) (lb rfl)) ?_
          refine w_iload_n dX10_names_61 h1 ?_
          refine r_iald  dX10_names_62 R rfl (hS _ _ rfl) rfl rfl (by omega) (lb rfl) (hsec i hi).2.2.2.2.2.2 ?_
          refine r_icmp_neP (t := 85) dX10_names_63 rfl (fun h63 => ?_) (fun h63 => ?_)
          ·
            refine w_iconst (v := 0) dX10_names_85 (by decide) ?_
            refine r_zast  dX10_names_86 R rfl (hS _ _ rfl) rfl rfl (by omega) (lb rfl) (show vp_nar .boolean 0 = 0 from rfl) (fun G3 R3 => ?_)
            refine w_iinc dX10_names_87 h2 (nI_1 _) (lb rfl) ?_
            refine w_goto (t := 19) dX10_names_90 rfl ?_
            have hn : an (fun t => !(tT τ 10 i == -1) && (tT τ 10 t == tT τ 10 i) && decide ((tT τ 3 t).toInt < (tT τ 3 i).toInt)) (t + 1) = false := by rw [an, b32_eq h38]; simp [h63]
            exact ih (t + 1) _ _ _ (by omega) R3 (by omega) hf.I (MR_I hT (by omega)) (fun a ha => (w3_n _ _ (by omega)).trans (hl a ha)) (by rw [hn]; exact (w3_at _ _ _ _ _ _).trans (if_pos rfl)) h0 h1 rfl kx
          ·
            refine w_aload_n dX10_names_66 h0 ?_
            refine r_getr  dX10_names_67 ft_9_13 R rfl (hS _ _ rfl) rfl (lb rfl) (hM.1 3 (lb rfl) (lb rfl)) ?_
            refine w_iload_n dX10_names_70 h2 ?_
            refine r_iald  dX10_names_71 R rfl (hS _ _ rfl) rfl rfl (by omega) (lb rfl) (hsec t (by omega)).1 ?_
            refine w_aload_n dX10_names_72 h0 ?_
            refine r_getr  dX10_names_73 ft_9_13 R rfl (hS _ _ rfl) rfl (lb rfl) (hM.1 3 (lb rfl) (lb rfl)) ?_
            refine w_iload_n dX10_names_76 h1 ?_
            refine r_iald  dX10_names_77 R rfl (hS _ _ rfl) rfl rfl (by omega) (lb rfl) (hsec i hi).1 ?_
            refine r_icmp_gei (t := 85) dX10_names_78 rfl (fun h78 => ?_) (fun h78 => ?_)
            ·
              refine w_iconst (v := 0) dX10_names_85 (by decide) ?_
              refine r_zast  dX10_names_86 R rfl (hS _ _ rfl) rfl rfl (by omega) (lb rfl) (show vp_nar .boolean 0 = 0 from rfl) (fun G4 R4 => ?_)
              refine w_iinc dX10_names_87 h2 (nI_1 _) (lb rfl) ?_
              refine w_goto (t := 19) dX10_names_90 rfl ?_
              have hn : an (fun t => !(tT τ 10 i == -1) && (tT τ 10 t == tT τ 10 i) && decide ((tT τ 3 t).toInt < (tT τ 3 i).toInt)) (t + 1) = false := by rw [an, b32_eq h38]; simp; intros; omega
              exact ih (t + 1) _ _ _ (by omega) R4 (by omega) hf.I (MR_I hT (by omega)) (fun a ha => (w3_n _ _ (by omega)).trans (hl a ha)) (by rw [hn]; exact (w3_at _ _ _ _ _ _).trans (if_pos rfl)) h0 h1 rfl kx
            ·
              refine w_iconst (v := 1) dX10_names_81 (by decide) ?_
              refine w_goto (t := 86) dX10_names_82 rfl ?_
              refine r_zast  dX10_names_86 R rfl (hS _ _ rfl) rfl rfl (by omega) (lb rfl) (show vp_nar .boolean 1 = 1 from rfl) (fun G5 R5 => ?_)
              refine w_iinc dX10_names_87 h2 (nI_1 _) (lb rfl) ?_
              refine w_goto (t := 19) dX10_names_90 rfl ?_
              have hn : an (fun t => !(tT τ 10 i == -1) && (tT τ 10 t == tT τ 10 i) && decide ((tT τ 3 t).toInt < (tT τ 3 i).toInt)) (t + 1) = true := by rw [an, b32_eq h38]; simp [h48, h63, h78]
              exact ih (t + 1) _ _ _ (by omega) R5 (by omega) hf.I (MR_I hT (by omega)) (fun a ha => (w3_n _ _ (by omega)).trans (hl a ha)) (by rw [hn]; exact (w3_at _ _ _ _ _ _).trans (if_pos rfl)) h0 h1 rfl kx
theorem c10_names_i {s0 : rx_S} (hS0 : rx_in s0) {τ : tx_T} (hV : TV τ)  : ∀ (d : Nat) (i : Nat) (L : mx_L) (s : rx_S) (G : mx_H), tN τ 1 - i < d → rx_R b0 O z1 z2 s G → i ≤ tN τ 1 → mfk s0 s → MR s τ → (∀ a, a < i → rI s 1 33 a = b32 (lostB τ a)) → L 0 = some (.ref (rA s 0 0)) → L 1 = some (.int (nI i)) → (∀ (L : mx_L) (s : rx_S) (G : mx_H), rx_R b0 O z1 z2 s G → mfk s0 s → MR s τ → NL s τ → L 0 = some (.ref (rA s 0 0)) → mx_W (gt_P b0 mi E) mX10_names 99 L [] G Q) → mx_W (gt_P b0 mi E) mX10_names 2 L [] G Q := by
  intro d
  induction d with
  | zero => intro i L s G hd; exact absurd hd (Nat.not_lt_zero _)
  | succ d ih =>
    intro i L s G hd R hi hf hT hl h0 h1 kx
    obtain ⟨hM, ⟨c1, c2, c13, c14, c20, c26⟩, hsec, hby, hsy, hre, hro, hba⟩ := id hT
    have hV0 := hV.1
    have hS : rx_in s := hf.inn hS0
    refine w_iload_n dX10_names_2 h1 ?_
    refine w_aload_n dX10_names_3 h0 ?_
    refine r_geti  dX10_names_4 ft_9_165 R rfl (hS _ _ rfl) rfl (lb rfl) c2 ?_
    refine r_icmp_gen (t := 99) dX10_names_7 rfl (by omega) (by omega) (fun h7 => ?_) (fun h7 => ?_)
    ·
      obtain rfl : i = tN τ 1 := by omega
      exact kx _ _ _ R hf hT hl h0
    ·
      refine w_aload_n dX10_names_10 h0 ?_
      refine r_getr  dX10_names_11 ft_9_85 R rfl (hS _ _ rfl) rfl (lb rfl) (hM.1 33 (lb rfl) (lb rfl)) ?_
      refine w_iload_n dX10_names_14 h1 ?_
      refine w_iconst (v := 0) dX10_names_15 (by decide) ?_
      refine r_zast  dX10_names_16 R rfl (hS _ _ rfl) rfl rfl (by omega) (lb rfl) (show vp_nar .boolean 0 = 0 from rfl) (fun G1 R1 => ?_)
      refine w_iconst (v := 0) dX10_names_17 (by decide) ?_
      refine w_istore_n dX10_names_18 (lb rfl) ?_
      refine c10_names_t hS0 hV (i := i) (by omega) (tN τ 1 + 1) 0 _ _ _ (by omega) R1 (by omega) hf.I (MR_I hT (by omega)) (fun a ha => (w3_n _ _ (by omega)).trans (hl a ha)) ((w3_at _ _ _ _ _ _).trans (if_pos rfl)) h0 h1 rfl (fun L s G R hf hT hl h0 h1 => ?_)
      refine w_iinc dX10_names_93 h1 (nI_1 _) (lb rfl) ?_
      refine w_goto (t := 2) dX10_names_96 rfl ?_
      exact ih (i + 1) _ _ _ (by omega) R (by omega) hf hT hl h0 rfl kx
theorem c10_names_k {s0 : rx_S} (hS0 : rx_in s0) {τ : tx_T} (hV : TV τ) {n : Nat} (hn : n < 64)  : ∀ (d : Nat) (k : Nat) (v : Int32) (L : mx_L) (s : rx_S) (G : mx_H), tN τ 2 - k < d → rx_R b0 O z1 z2 s G → k ≤ tN τ 2 → mfk s0 s → MR s τ → NL s τ → ND s τ n → rI s 1 34 n = oI (fst1 (isG τ (nI n)) k) → lst (secP τ n k) v → L 0 = some (.ref (rA s 0 0)) → L 1 = some (.int v) → L 2 = some (.int (nI n)) → L 3 = some (.int (oI (fst1 (isW τ (nI n)) k))) → L 4 = some (.int (nI k)) → (∀ (v : Int32) (L : mx_L) (s : rx_S) (G : mx_H), rx_R b0 O z1 z2 s G → mfk s0 s → MR s τ → NL s τ → ND s τ n → rI s 1 34 n = oI (fst1 (isG τ (nI n)) (tN τ 2)) → lst (secP τ n (tN τ 2)) v → L 0 = some (.ref (rA s 0 0)) → L 1 = some (.int v) → L 2 = some (.int (nI n)) → L 3 = some (.int (oI (fst1 (isW τ (nI n)) (tN τ 2)))) → mx_W (gt_P b0 mi E) mX10_names 272 L [] G Q) → mx_W (gt_P b0 mi E) mX10_names 121 L [] G Q := by
  intro d
  induction d with
  | zero => intro k v L s G hd; exact absurd hd (Nat.not_lt_zero _)
  | succ d ih =>
    intro k v L s G hd R hk hf hT hL hd2 hc hs2 h0 h1 h2 h3 h4 kx
    obtain ⟨hM, ⟨c1, c2, c13, c14, c20, c26⟩, hsec, hby, hsy, hre, hro, hba⟩ := id hT
    have hV0 := hV.1
    have hS : rx_in s := hf.inn hS0
    refine w_iload dX10_names_121 h4 ?_
    refine w_aload_n dX10_names_123 h0 ?_
    refine r_geti  dX10_names_124 ft_9_186 R rfl (hS _ _ rfl) rfl (lb rfl) c14 ?_
    refine r_icmp_gen (t := 272) dX10_names_127 rfl (by omega) (by omega) (fun h127 => ?_) (fun h127 => ?_)
    ·
      obtain rfl : k = tN τ 2 := by omega
      exact kx _ _ _ _ R hf hT hL hd2 hc hs2 h0 h1 h2 h3
    ·
      refine w_aload_n dX10_names_130 h0 ?_
      refine r_getr  dX10_names_131 ft_9_46 R rfl (hS _ _ rfl) rfl (lb rfl) (hM.1 16 (lb rfl) (lb rfl)) ?_
      refine w_iload dX10_names_134 h4 ?_
      refine r_iald  dX10_names_136 R rfl (hS _ _ rfl) rfl rfl (by omega) (lb rfl) (hsy k (by omega)).2.1 ?_
      refine w_iload_n dX10_names_137 h2 ?_
      refine r_icmp_neP (t := 180) dX10_names_138 rfl (fun h138 => ?_) (fun h138 => ?_)
      ·
        refine w_iconst (v := 0) dX10_names_180 (by decide) ?_
        have hD : isD τ (nI n) k = false := by unfold isD; simp [h138]
        refine w_istore dX10_names_181 (lb rfl) ?_
        refine w_iload dX10_names_183 rfl ?_
        refine w_if_eq (t := 238) dX10_names_185 rfl (fun _ => ?_) (fun h => absurd (by decide) h)
        refine w_iload dX10_names_238 rfl ?_
        refine w_if_eq (t := 264) dX10_names_240 rfl (fun _ => ?_) (fun h => absurd (by decide) h)
        refine w_iload_n dX10_names_264 h3 ?_
        refine w_istore_n dX10_names_265 (lb rfl) ?_
        refine w_iinc dX10_names_266 h4 (nI_1 _) (lb rfl) ?_
        refine w_goto (t := 121) dX10_names_269 rfl ?_
        have eG : isG τ (nI n) k = false := by unfold isG; rw [hD]; rfl
        have eW : isW τ (nI n) k = false := by unfold isW; rw [hD]; rfl
        exact ih (k + 1) _ _ _ _ (by omega) R (by omega) hf hT hL hd2 (by rw [fst1_f eG]; exact hc) (st_0 (is2_no hn (Or.inl eG)) hs2) h0 h1 h2 (by rw [fst1_f eW]; rfl) rfl kx
      ·
        refine w_aload_n dX10_names_141 h0 ?_
        refine r_getr  dX10_names_142 ft_9_55 R rfl (hS _ _ rfl) rfl (lb rfl) (hM.1 19 (lb rfl) (lb rfl)) ?_
        refine w_iload dX10_names_145 h4 ?_
        refine r_iald  dX10_names_147 R rfl (hS _ _ rfl) rfl rfl (by omega) (lb rfl) (hsy k (by omega)).2.2.2.2 ?_
        refine r_if_lei (t := 180) dX10_names_148 rfl (fun h148 => ?_) (fun h148 => ?_)
        ·
          refine w_iconst (v := 0) dX10_names_180 (by decide) ?_
          have hD : isD τ (nI n) k = false := by unfold isD; rw [decide_eq_false (p := 0 < (tT τ 19 k).toInt) (by omega)]; simp
          refine w_istore dX10_names_181 (lb rfl) ?_
          refine w_iload dX10_names_183 rfl ?_
          refine w_if_eq (t := 238) dX10_names_185 rfl (fun _ => ?_) (fun h => absurd (by decide) h)
          refine w_iload dX10_names_238 rfl ?_
          refine w_if_eq (t := 264) dX10_names_240 rfl (fun _ => ?_) (fun h => absurd (by decide) h)
          refine w_iload_n dX10_names_264 h3 ?_
          refine w_istore_n dX10_names_265 (lb rfl) ?_
          refine w_iinc dX10_names_266 h4 (nI_1 _) (lb rfl) ?_
          refine w_goto (t := 121) dX10_names_269 rfl ?_
          have eG : isG τ (nI n) k = false := by unfold isG; rw [hD]; rfl
          have eW : isW τ (nI n) k = false := by unfold isW; rw [hD]; rfl
          exact ih (k + 1) _ _ _ _ (by omega) R (by omega) hf hT hL hd2 (by rw [fst1_f eG]; exact hc) (st_0 (is2_no hn (Or.inl eG)) hs2) h0 h1 h2 (by rw [fst1_f eW]; rfl) rfl kx
        ·
          refine w_aload_n dX10_names_151 h0 ?_
          refine r_getr  dX10_names_152 ft_9_49 R rfl (hS _ _ rfl) rfl (lb rfl) (hM.1 17 (lb rfl) (lb rfl)) ?_
          refine w_iload dX10_names_155 h4 ?_
          refine r_iald  dX10_names_157 R rfl (hS _ _ rfl) rfl rfl (by omega) (lb rfl) (hsy k (by omega)).2.2.1 ?_
          refine r_if_lti (t := 180) dX10_names_158 rfl (fun h158 => ?_) (fun h158 => ?_)
          ·
            refine w_iconst (v := 0) dX10_names_180 (by decide) ?_
            have hD : isD τ (nI n) k = false := by unfold isD; rw [decide_eq_false (p := 0 ≤ (tT τ 17 k).toInt) (by omega)]; simp
            refine w_istore dX10_names_181 (lb rfl) ?_
            refine w_iload dX10_names_183 rfl ?_
            refine w_if_eq (t := 238) dX10_names_185 rfl (fun _ => ?_) (fun h => absurd (by decide) h)
            refine w_iload dX10_names_238 rfl ?_
            refine w_if_eq (t := 264) dX10_names_240 rfl (fun _ => ?_) (fun h => absurd (by decide) h)
            refine w_iload_n dX10_names_264 h3 ?_
            refine w_istore_n dX10_names_265 (lb rfl) ?_
            refine w_iinc dX10_names_266 h4 (nI_1 _) (lb rfl) ?_
            refine w_goto (t := 121) dX10_names_269 rfl ?_
            have eG : isG τ (nI n) k = false := by unfold isG; rw [hD]; rfl
            have eW : isW τ (nI n) k = false := by unfold isW; rw [hD]; rfl
            exact ih (k + 1) _ _ _ _ (by omega) R (by omega) hf hT hL hd2 (by rw [fst1_f eG]; exact hc) (st_0 (is2_no hn (Or.inl eG)) hs2) h0 h1 h2 (by rw [fst1_f eW]; rfl) rfl kx
          ·
            obtain ⟨x, hx, hx2⟩ := nI_ofI h158
            have hxl : x < tN τ 1 := by have := (hV.2.2.1 k (by omega)).2.2.1.2; rw [hx2, nI_toInt hx] at this; omega
            refine w_aload_n dX10_names_161 h0 ?_
            refine r_getr  dX10_names_162 ft_9_85 R rfl (hS _ _ rfl) rfl (lb rfl) (hM.1 33 (lb rfl) (lb rfl)) ?_
            refine w_aload_n dX10_names_165 h0 ?_
            refine r_getr  dX10_names_166 ft_9_49 R rfl (hS _ _ rfl) rfl (lb rfl) (hM.1 17 (lb rfl) (lb rfl)) ?_
            refine w_iload dX10_names_169 h4 ?_
            refine r_iald  dX10_names_171 R rfl (hS _ _ rfl) rfl rfl (by omega) (lb rfl) ((hsy k (by omega)).2.2.1.trans hx2) ?_
            refine r_zald  dX10_names_172 R rfl (hS _ _ rfl) rfl rfl (by omega) (lb rfl) (show rI s 1 33 x = b32 (lostB τ (cl (tT τ 17 k))) from (hL x hxl).trans (by rw [hx2, clN hx])) ?_
            refine r_if_neP (t := 180) dX10_names_173 rfl (fun h173 => ?_) (fun h173 => ?_)
            ·
              refine w_iconst (v := 0) dX10_names_180 (by decide) ?_
              have hD : isD τ (nI n) k = false := by unfold isD; rw [show lostB τ (cl (tT τ 17 k)) = true from b32_ne h173]; simp
              refine w_istore dX10_names_181 (lb rfl) ?_
              refine w_iload dX10_names_183 rfl ?_
              refine w_if_eq (t := 238) dX10_names_185 rfl (fun _ => ?_) (fun h => absurd (by decide) h)
              refine w_iload dX10_names_238 rfl ?_
              refine w_if_eq (t := 264) dX10_names_240 rfl (fun _ => ?_) (fun h => absurd (by decide) h)
              refine w_iload_n dX10_names_264 h3 ?_
              refine w_istore_n dX10_names_265 (lb rfl) ?_
              refine w_iinc dX10_names_266 h4 (nI_1 _) (lb rfl) ?_
              refine w_goto (t := 121) dX10_names_269 rfl ?_
              have eG : isG τ (nI n) k = false := by unfold isG; rw [hD]; rfl
              have eW : isW τ (nI n) k = false := by unfold isW; rw [hD]; rfl
              exact ih (k + 1) _ _ _ _ (by omega) R (by omega) hf hT hL hd2 (by rw [fst1_f eG]; exact hc) (st_0 (is2_no hn (Or.inl eG)) hs2) h0 h1 h2 (by rw [fst1_f eW]; rfl) rfl kx
            ·
              refine w_iconst (v := 1) dX10_names_176 (by decide) ?_
              refine w_goto (t := 181) dX10_names_177 rfl ?_
              have hD : isD τ (nI n) k = true := by unfold isD; rw [h138, b32_eq h173]; simp [h148, h158]
              refine w_istore dX10_names_181 (lb rfl) ?_
              refine w_iload dX10_names_183 rfl ?_
              refine w_if_eq (t := 238) dX10_names_185 rfl (fun h => absurd h (by decide)) (fun _ => ?_)
              refine w_aload_n dX10_names_188 h0 ?_
              refine r_getr  dX10_names_189 ft_9_55 R rfl (hS _ _ rfl) rfl (lb rfl) (hM.1 19 (lb rfl) (lb rfl)) ?_
              refine w_iload dX10_names_192 h4 ?_
              refine r_iald  dX10_names_194 R rfl (hS _ _ rfl) rfl rfl (by omega) (lb rfl) (hsy k (by omega)).2.2.2.2 ?_
              refine w_iconst (v := 1) dX10_names_195 (by decide) ?_
              refine r_icmp_neP (t := 238) dX10_names_196 rfl (fun h196 => ?_) (fun h196 => ?_)
              ·
                refine w_iload dX10_names_238 rfl ?_
                refine w_if_eq (t := 264) dX10_names_240 rfl (fun h => absurd h (by decide)) (fun _ => ?_)
                refine w_aload_n dX10_names_243 h0 ?_
                refine r_getr  dX10_names_244 ft_9_55 R rfl (hS _ _ rfl) rfl (lb rfl) (hM.1 19 (lb rfl) (lb rfl)) ?_
                refine w_iload dX10_names_247 h4 ?_
                refine r_iald  dX10_names_249 R rfl (hS _ _ rfl) rfl rfl (by omega) (lb rfl) (hsy k (by omega)).2.2.2.2 ?_
                refine w_iconst (v := 2) dX10_names_250 (by decide) ?_
                refine r_icmp_neP (t := 264) dX10_names_251 rfl (fun h251 => ?_) (fun h251 => ?_)
                ·
                  refine w_iload_n dX10_names_264 h3 ?_
                  refine w_istore_n dX10_names_265 (lb rfl) ?_
                  refine w_iinc dX10_names_266 h4 (nI_1 _) (lb rfl) ?_
                  refine w_goto (t := 121) dX10_names_269 rfl ?_
                  have eG : isG τ (nI n) k = false := by unfold isG; simp [h196]
                  have eW : isW τ (nI n) k = false := by unfold isW; simp [h251]
                  exact ih (k + 1) _ _ _ _ (by omega) R (by omega) hf hT hL hd2 (by rw [fst1_f eG]; exact hc) (st_0 (is2_no hn (Or.inl eG)) hs2) h0 h1 h2 (by rw [fst1_f eW]; rfl) rfl kx
                ·
                  refine w_iload_n dX10_names_254 h3 ?_
                  refine w_iconst (v := (-1)) dX10_names_255 (by decide) ?_
                  refine r_icmp_neP (t := 264) dX10_names_256 rfl (fun h256 => ?_) (fun h256 => ?_)
                  ·
                    refine w_iload_n dX10_names_264 h3 ?_
                    refine w_istore_n dX10_names_265 (lb rfl) ?_
                    refine w_iinc dX10_names_266 h4 (nI_1 _) (lb rfl) ?_
                    refine w_goto (t := 121) dX10_names_269 rfl ?_
                    have eG : isG τ (nI n) k = false := by unfold isG; simp [h196]
                    have eW : isW τ (nI n) k = true := by unfold isW; rw [hD, h251]; rfl
                    obtain ⟨j, hj⟩ : ∃ j, fst1 (isW τ (nI n)) k = some j := by
                      cases e : fst1 (isW τ (nI n)) k with
                      | none => exact absurd (by rw [e]; rfl) h256
                      | some j => exact ⟨j, rfl⟩
                    exact ih (k + 1) _ _ _ _ (by omega) R (by omega) hf hT hL hd2 (by rw [fst1_f eG]; exact hc) (st_0 (is2_no hn (Or.inl eG)) hs2) h0 h1 h2 (by rw [fst1_s hj, ← hj]; rfl) rfl kx
                  ·
                    refine w_iload dX10_names_259 h4 ?_
                    refine w_goto (t := 265) dX10_names_261 rfl ?_
                    refine w_istore_n dX10_names_265 (lb rfl) ?_
                    refine w_iinc dX10_names_266 h4 (nI_1 _) (lb rfl) ?_
                    refine w_goto (t := 121) dX10_names_269 rfl ?_
                    have eG : isG τ (nI n) k = false := by unfold isG; simp [h196]
                    have eW : isW τ (nI n) k = true := by unfold isW; rw [hD, h251]; rfl
                    have hw : fst1 (isW τ (nI n)) k = none := (oI_none (fun j hj => by have := fst_lt hj; omega)).mp h256
                    exact ih (k + 1) _ _ _ _ (by omega) R (by omega) hf hT hL hd2 (by rw [fst1_f eG]; exact hc) (st_0 (is2_no hn (Or.inl eG)) hs2) h0 h1 h2 (by rw [fst1_t hw eW]; rfl) rfl kx
              ·
                refine w_aload_n dX10_names_199 h0 ?_
                refine r_getr  dX10_names_200 ft_9_88 R rfl (hS _ _ rfl) rfl (lb rfl) (hM.1 34 (lb rfl) (lb rfl)) ?_
                refine w_iload_n dX10_names_203 h2 ?_
                refine r_iald  dX10_names_204 R rfl (hS _ _ rfl) rfl rfl (by omega) (lb rfl) hc ?_
                refine w_iconst (v := (-1)) dX10_names_205 (by decide) ?_
                refine r_icmp_neP (t := 220) dX10_names_206 rfl (fun h206 => ?_) (fun h206 => ?_)
                ·
                  refine w_iload_n dX10_names_220 h1 ?_
                  refine w_iconst (v := (-1)) dX10_names_221 (by decide) ?_
                  refine w_icmp_eq (t := 231) dX10_names_222 rfl (fun h222 => ?_) (fun h222 => ?_)
                  ·
                    refine w_iload dX10_names_231 h4 ?_
                    refine w_goto (t := 237) dX10_names_233 rfl ?_
                    refine w_istore_n dX10_names_237 (lb rfl) ?_
                    refine w_iload dX10_names_238 rfl ?_
                    refine w_if_eq (t := 264) dX10_names_240 rfl (fun h => absurd h (by decide)) (fun _ => ?_)
                    refine w_aload_n dX10_names_243 h0 ?_
                    refine r_getr  dX10_names_244 ft_9_55 R rfl (hS _ _ rfl) rfl (lb rfl) (hM.1 19 (lb rfl) (lb rfl)) ?_
                    refine w_iload dX10_names_247 h4 ?_
                    refine r_iald  dX10_names_249 R rfl (hS _ _ rfl) rfl rfl (by omega) (lb rfl) (hsy k (by omega)).2.2.2.2 ?_
                    refine w_iconst (v := 2) dX10_names_250 (by decide) ?_
                    refine r_icmp_neP (t := 264) dX10_names_251 rfl (fun h251 => ?_) (fun h => absurd (h196.symm.trans h) (by decide))
                    refine w_iload_n dX10_names_264 h3 ?_
                    refine w_istore_n dX10_names_265 (lb rfl) ?_
                    refine w_iinc dX10_names_266 h4 (nI_1 _) (lb rfl) ?_
                    refine w_goto (t := 121) dX10_names_269 rfl ?_
                    have eG : isG τ (nI n) k = true := by unfold isG; rw [hD, h196]; rfl
                    have eW : isW τ (nI n) k = false := by unfold isW; rw [h196]; simp
                    obtain ⟨j, hj⟩ : ∃ j, fst1 (isG τ (nI n)) k = some j := by
                      cases e : fst1 (isG τ (nI n)) k with
                      | none => exact absurd (by rw [e]; rfl) h206
                      | some j => exact ⟨j, rfl⟩
                    have s1 := st_1 (by omega) (by omega) (is2_yes hn hD h196 (by rw [hj]; simp)) (isD_name hn hD).2 hs2
                    exact ih (k + 1) _ _ _ _ (by omega) R (by omega) hf hT hL hd2 (by rw [fst1_s hj]; rw [hj] at hc; exact hc) (s1.1 (Or.inl h222)) h0 rfl h2 (by rw [fst1_f eW]; rfl) rfl kx
                  ·
                    refine w_iload dX10_names_225 h4 ?_
                    refine w_iload_n dX10_names_227 h1 ?_
                    refine w_icmp_ge (t := 236) dX10_names_228 rfl (fun h228 => ?_) (fun h228 => ?_)
                    ·
                      refine w_iload_n dX10_names_236 h1 ?_
                      refine w_istore_n dX10_names_237 (lb rfl) ?_
                      refine w_iload dX10_names_238 rfl ?_
                      refine w_if_eq (t := 264) dX10_names_240 rfl (fun h => absurd h (by decide)) (fun _ => ?_)
                      refine w_aload_n dX10_names_243 h0 ?_
                      refine r_getr  dX10_names_244 ft_9_55 R rfl (hS _ _ rfl) rfl (lb rfl) (hM.1 19 (lb rfl) (lb rfl)) ?_
                      refine w_iload dX10_names_247 h4 ?_
                      refine r_iald  dX10_names_249 R rfl (hS _ _ rfl) rfl rfl (by omega) (lb rfl) (hsy k (by omega)).2.2.2.2 ?_
                      refine w_iconst (v := 2) dX10_names_250 (by decide) ?_
                      refine r_icmp_neP (t := 264) dX10_names_251 rfl (fun h251 => ?_) (fun h => absurd (h196.symm.trans h) (by decide))
                      refine w_iload_n dX10_names_264 h3 ?_
                      refine w_istore_n dX10_names_265 (lb rfl) ?_
                      refine w_iinc dX10_names_266 h4 (nI_1 _) (lb rfl) ?_
                      refine w_goto (t := 121) dX10_names_269 rfl ?_
                      have eG : isG τ (nI n) k = true := by unfold isG; rw [hD, h196]; rfl
                      have eW : isW τ (nI n) k = false := by unfold isW; rw [h196]; simp
                      obtain ⟨j, hj⟩ : ∃ j, fst1 (isG τ (nI n)) k = some j := by
                        cases e : fst1 (isG τ (nI n)) k with
                        | none => exact absurd (by rw [e]; rfl) h206
                        | some j => exact ⟨j, rfl⟩
                      have s1 := st_1 (by omega) (by omega) (is2_yes hn hD h196 (by rw [hj]; simp)) (isD_name hn hD).2 hs2
                      exact ih (k + 1) _ _ _ _ (by omega) R (by omega) hf hT hL hd2 (by rw [fst1_s hj]; rw [hj] at hc; exact hc) (s1.2 h222 h228) h0 rfl h2 (by rw [fst1_f eW]; rfl) rfl kx
                    ·
                      refine w_iload dX10_names_231 h4 ?_
                      refine w_goto (t := 237) dX10_names_233 rfl ?_
                      refine w_istore_n dX10_names_237 (lb rfl) ?_
                      refine w_iload dX10_names_238 rfl ?_
                      refine w_if_eq (t := 264) dX10_names_240 rfl (fun h => absurd h (by decide)) (fun _ => ?_)
                      refine w_aload_n dX10_names_243 h0 ?_
                      refine r_getr  dX10_names_244 ft_9_55 R rfl (hS _ _ rfl) rfl (lb rfl) (hM.1 19 (lb rfl) (lb rfl)) ?_
                      refine w_iload dX10_names_247 h4 ?_
                      refine r_iald  dX10_names_249 R rfl (hS _ _ rfl) rfl rfl (by omega) (lb rfl) (hsy k (by omega)).2.2.2.2 ?_
                      refine w_iconst (v := 2) dX10_names_250 (by decide) ?_
                      refine r_icmp_neP (t := 264) dX10_names_251 rfl (fun h251 => ?_) (fun h => absurd (h196.symm.trans h) (by decide))
                      refine w_iload_n dX10_names_264 h3 ?_
                      refine w_istore_n dX10_names_265 (lb rfl) ?_
                      refine w_iinc dX10_names_266 h4 (nI_1 _) (lb rfl) ?_
                      refine w_goto (t := 121) dX10_names_269 rfl ?_
                      have eG : isG τ (nI n) k = true := by unfold isG; rw [hD, h196]; rfl
                      have eW : isW τ (nI n) k = false := by unfold isW; rw [h196]; simp
                      obtain ⟨j, hj⟩ : ∃ j, fst1 (isG τ (nI n)) k = some j := by
                        cases e : fst1 (isG τ (nI n)) k with
                        | none => exact absurd (by rw [e]; rfl) h206
                        | some j => exact ⟨j, rfl⟩
                      have s1 := st_1 (by omega) (by omega) (is2_yes hn hD h196 (by rw [hj]; simp)) (isD_name hn hD).2 hs2
                      exact ih (k + 1) _ _ _ _ (by omega) R (by omega) hf hT hL hd2 (by rw [fst1_s hj]; rw [hj] at hc; exact hc) (s1.1 (Or.inr ⟨Int32.not_le.mp h228, h222⟩)) h0 rfl h2 (by rw [fst1_f eW]; rfl) rfl kx
                ·
                  refine w_aload_n dX10_names_209 h0 ?_
                  refine r_getr  dX10_names_210 ft_9_88 R rfl (hS _ _ rfl) rfl (lb rfl) (hM.1 34 (lb rfl) (lb rfl)) ?_
                  refine w_iload_n dX10_names_213 h2 ?_
                  refine w_iload dX10_names_214 h4 ?_
                  refine r_iast  dX10_names_216 R rfl (hS _ _ rfl) rfl rfl (by omega) (lb rfl) (fun G1 R1 => ?_)
                  refine w_goto (t := 238) dX10_names_217 rfl ?_
                  refine w_iload dX10_names_238 rfl ?_
                  refine w_if_eq (t := 264) dX10_names_240 rfl (fun h => absurd h (by decide)) (fun _ => ?_)
                  refine w_aload_n dX10_names_243 h0 ?_
                  refine r_getr  dX10_names_244 ft_9_55 R1 rfl (hS _ _ rfl) rfl (lb rfl) (hM.1 19 (lb rfl) (lb rfl)) ?_
                  refine w_iload dX10_names_247 h4 ?_
                  refine r_iald  dX10_names_249 R1 rfl (hS _ _ rfl) rfl rfl (by omega) (lb rfl) (hsy k (by omega)).2.2.2.2 ?_
                  refine w_iconst (v := 2) dX10_names_250 (by decide) ?_
                  refine r_icmp_neP (t := 264) dX10_names_251 rfl (fun h251 => ?_) (fun h => absurd (h196.symm.trans h) (by decide))
                  refine w_iload_n dX10_names_264 h3 ?_
                  refine w_istore_n dX10_names_265 (lb rfl) ?_
                  refine w_iinc dX10_names_266 h4 (nI_1 _) (lb rfl) ?_
                  refine w_goto (t := 121) dX10_names_269 rfl ?_
                  have eG : isG τ (nI n) k = true := by unfold isG; rw [hD, h196]; rfl
                  have eW : isW τ (nI n) k = false := by unfold isW; rw [h196]; simp
                  have hw : fst1 (isG τ (nI n)) k = none := (oI_none (fun j hj => by have := fst_lt hj; omega)).mp h206
                  exact ih (k + 1) _ _ _ _ (by omega) R1 (by omega) hf.I (MR_I hT (by omega)) hL (fun a ha => (w3_n _ _ (by omega)).trans (hd2 a ha)) (by rw [fst1_t hw eG]; exact (w3_at _ _ _ _ _ _).trans (if_pos rfl)) (st_0 (is2_no hn (Or.inr hw)) hs2) h0 h1 h2 (by rw [fst1_f eW]; rfl) rfl kx
end
