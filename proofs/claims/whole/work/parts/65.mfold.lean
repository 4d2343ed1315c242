/-- rows are known -/
def NK (s : rx_S) (τ : tx_T) : Prop := NN s τ ∧ KQ s τ (kR τ) ∧ kV τ (kR τ)
theorem NK_I {s : rx_S} {τ : tx_T} (h : NK s τ) {k j : Nat} {v : Int32} (hk : 43 ≤ k) : NK (sI s 1 k j v) τ := ⟨NN_I h.1 (by omega), ⟨h.2.1.1, fun i hi => (sI_p (by omega)).trans (h.2.1.2.1 i hi), fun i hi => (sI_p (by omega)).trans (h.2.1.2.2.1 i hi), fun i hi => (sI_p (by omega)).trans (h.2.1.2.2.2.1 i hi), fun i hi => (sI_p (by omega)).trans (h.2.1.2.2.2.2 i hi)⟩, h.2.2⟩
theorem NK_L {s : rx_S} {τ : tx_T} (h : NK s τ) {k j : Nat} {v : Int64} (hk : 43 ≤ k) : NK (sL s 1 k j v) τ := ⟨NN_L h.1 (by omega), h.2⟩
theorem NK_X {s : rx_S} {τ : tx_T} (h : NK s τ) {k : Nat} {v : Int32} (hk : k = 0 ∨ 29 ≤ k) (h3 : k ≠ 39) (h2 : (rx_m k).2 = 0) : NK (sX s 0 0 k (.inl (.int v))) τ := ⟨NN_X h.1 hk h2, ⟨(sX_p (by omega)).trans h.2.1.1, h.2.1.2⟩, h.2.2⟩
def dn (a b x y : Nat) : Prop := x < a ∨ (x = a ∧ y < b)
def mS (s : rx_S) : Nat := cnt (fun j => !(rI s 1 45 j == 0)) 3600
theorem AS_p {s : rx_S} {a b x y : Nat} {v : Int32} (hy : y < 60) (hb : b < 60) (h : ¬ (x = a ∧ y = b)) : AS (sI s 1 45 (60 * a + b) v) x y ↔ AS s x y := by
  unfold AS
  rw [sI_at, if_neg (by omega)]
theorem AS_s {s : rx_S} {a b : Nat} {v : Int32} : AS (sI s 1 45 (60 * a + b) v) a b ↔ ¬ v = 0 := by
  unfold AS
  rw [sI_at, if_pos rfl]
theorem mS_sub {s : rx_S} {a b : Nat} (ha : a < 60) (hb : b < 60) (h : AS s a b) : mS (sI s 1 45 (60 * a + b) 0) + 1 = mS s := by
  unfold mS
  refine (cnt_add (x := 60 * a + b) (by omega) ?_ ?_ (fun k hk => ?_)).symm
  · simp only [sI_at, if_pos]; decide
  · unfold AS at h; simp [h]
  · simp only [sI_at, if_neg hk]
theorem m0_f {τ : tx_T} {w : Bool} {x : Nat} (h : w = false ∨ ¬ x < tN τ 1 ∨ kin (kR τ) x = false ∨ ¬ (tT τ 4 x).toInt < 2 ∨ ¬ tT τ 8 x = 0 ∨ ¬ tT τ 9 x = -1) : m0B τ w x = false := by
  unfold m0B
  rcases h with h | h | h | h | h | h <;> simp [h]
theorem m0_t {τ : tx_T} {w : Bool} {x : Nat} (h1 : w = true) (h2 : x < tN τ 1) (h3 : kin (kR τ) x = true) (h4 : (tT τ 4 x).toInt < 2) (h5 : tT τ 8 x = 0) (h6 : tT τ 9 x = -1) : m0B τ w x = true := by
  unfold m0B; simp [h1, h2, h3, h4, h5, h6]
theorem may_k {τ : tx_T} {w : Bool} {x : Nat} (h : mayB τ w x = true) : (tT τ 4 x).toInt < 3 := by
  unfold mayB m0B at h
  simp only [Bool.and_eq_true, decide_eq_true_eq] at h
  have := h.1.1.1.2
  omega
theorem at_lt {τ : tx_T} (hV : TV τ) {y : Nat} (hy : y < tN τ 2) (h : aimI τ y = 1) : cl (atI τ y) < tN τ 1 := by
  obtain ⟨d, _, _, h3, _, h5⟩ := at_place hV hy h
  rw [h3]; exact h5
theorem rl_lt {τ : tx_T} (hV : TV τ) {a i x : Nat} (h : rlO τ a i = some x) : cl (tT τ 24 x) < tN τ 2 := by
  have h1 := (fst1_some.mp h).1
  have h2 := (hV.2.2.2.1 x h1).2.2.2.1
  have := clI h2.1
  omega
section
variable {b0 mi z1 z2 : Nat} {E : Nat → Nat} {O : Nat → Option mx_C} {s : rx_S} {G : mx_H} {Q : mx_O → mx_H → Prop}
theorem c10_foldAll_a {s0 : rx_S} (hS0 : rx_in s0) {τ : tx_T} (hV : TV τ) {w : Bool}  : ∀ (d : Nat) (i : Nat) (L : mx_L) (s : rx_S) (G : mx_H), 60 - i < d → rx_R b0 O z1 z2 s G → i ≤ 60 → mfk s0 s → NK s τ → (∀ x, x < i → rI s 1 43 x = -1 ∧ rI s 1 44 x = b32 (m0B τ w x)) → L 0 = some (.ref (rA s 0 0)) → L 1 = some (.int (b32 w)) → L 2 = some (.int (nI i)) → (∀ (L : mx_L) (s : rx_S) (G : mx_H), rx_R b0 O z1 z2 s G → mfk s0 s → NK s τ → (∀ x, x < 60 → rI s 1 43 x = -1) → (∀ x, x < 60 → rI s 1 44 x = b32 (m0B τ w x)) → L 0 = some (.ref (rA s 0 0)) → mx_W (gt_P b0 mi E) mX10_foldAll 82 L [] G Q) → mx_W (gt_P b0 mi E) mX10_foldAll 2 L [] G Q := by
  intro d
  induction d with
  | zero => intro i L s G hd; exact absurd hd (Nat.not_lt_zero _)
  | succ d ih =>
    intro i L s G hd R hi hf hK hz h0 h1 h2 kx
    obtain ⟨hN, hKQ, hKV⟩ := id hK
    obtain ⟨hT, hL, hD, hA⟩ := id hN
    obtain ⟨hM, ⟨c1, c2, c13, c14, c20, c26⟩, hsec, hby, hsy, hre, hro, hba⟩ := id hT
    have hV0 := hV.1
    have hS : rx_in s := hf.inn hS0
    have en2 : (nI 2).toInt = 2 := by decide
    refine w_iload_n dX10_foldAll_2 h2 ?_
    refine w_bipush (v := nI 60) dX10_foldAll_3 (by decide) ?_
    refine r_icmp_gen (t := 82) dX10_foldAll_5 rfl (by omega) (by omega) (fun h5 => ?_) (fun h5 => ?_)
    ·
      obtain rfl : i = 60 := by omega
      exact kx _ _ _ R hf hK (fun x hx => (hz x hx).1) (fun x hx => (hz x hx).2) h0
    ·
      refine w_aload_n dX10_foldAll_8 h0 ?_
      refine r_getr  dX10_foldAll_9 ft_9_112 R rfl (hS _ _ rfl) rfl (lb rfl) (hM.1 43 (lb rfl) (lb rfl)) ?_
      refine w_iload_n dX10_foldAll_12 h2 ?_
      refine w_iconst (v := (-1)) dX10_foldAll_13 (by decide) ?_
      refine r_iast  dX10_foldAll_14 R rfl (hS _ _ rfl) rfl rfl (by omega) (lb rfl) (fun G1 R1 => ?_)
      refine w_aload_n dX10_foldAll_15 h0 ?_
      refine r_getr  dX10_foldAll_16 ft_9_115 R1 rfl (hS _ _ rfl) rfl (lb rfl) (hM.1 44 (lb rfl) (lb rfl)) ?_
      refine w_iload_n dX10_foldAll_19 h2 ?_
      refine w_iload_n dX10_foldAll_20 h1 ?_
      refine w_if_eq (t := 74) dX10_foldAll_21 rfl (fun h21 => ?_) (fun h21 => ?_)
      ·
        refine w_iconst (v := 0) dX10_foldAll_74 (by decide) ?_
        refine r_zast  dX10_foldAll_75 R1 rfl (hS _ _ rfl) rfl rfl (by omega) (lb rfl) (show vp_nar .boolean 0 = 0 from rfl) (fun G2 R2 => ?_)
        refine w_iinc dX10_foldAll_76 h2 (nI_1 _) (lb rfl) ?_
        refine w_goto (t := 2) dX10_foldAll_79 rfl ?_
        have em : m0B τ w i = false := m0_f (Or.inl (b32_eq h21))
        refine ih (i + 1) _ _ _ (by omega) R2 (by omega) hf.I.I (NK_I (NK_I hK (by omega)) (by omega)) (fun x hx => ?_) h0 h1 rfl kx
        by_cases e : x = i
        · exact ⟨(sI_p (by decide)).trans (sI_at.trans (if_pos e)), (sI_at.trans (if_pos e)).trans (by rw [e, em]; rfl)⟩
        · obtain ⟨q1, q2⟩ := hz x (by omega)
          exact ⟨(sI_p (by decide)).trans ((sI_at.trans (if_neg e)).trans q1), (sI_at.trans (if_neg e)).trans ((sI_p (by decide)).trans q2)⟩
      ·
        refine w_iload_n dX10_foldAll_24 h2 ?_
        refine w_aload_n dX10_foldAll_25 h0 ?_
        refine r_geti  dX10_foldAll_26 ft_9_165 R1 rfl (hS _ _ rfl) rfl (lb rfl) c2 ?_
        refine r_icmp_gen (t := 74) dX10_foldAll_29 rfl (by omega) (by omega) (fun h29 => ?_) (fun h29 => ?_)
        ·
          refine w_iconst (v := 0) dX10_foldAll_74 (by decide) ?_
          refine r_zast  dX10_foldAll_75 R1 rfl (hS _ _ rfl) rfl rfl (by omega) (lb rfl) (show vp_nar .boolean 0 = 0 from rfl) (fun G3 R3 => ?_)
          refine w_iinc dX10_foldAll_76 h2 (nI_1 _) (lb rfl) ?_
          refine w_goto (t := 2) dX10_foldAll_79 rfl ?_
          have em : m0B τ w i = false := m0_f (Or.inr (Or.inl (by omega)))
          refine ih (i + 1) _ _ _ (by omega) R3 (by omega) hf.I.I (NK_I (NK_I hK (by omega)) (by omega)) (fun x hx => ?_) h0 h1 rfl kx
          by_cases e : x = i
          · exact ⟨(sI_p (by decide)).trans (sI_at.trans (if_pos e)), (sI_at.trans (if_pos e)).trans (by rw [e, em]; rfl)⟩
          · obtain ⟨q1, q2⟩ := hz x (by omega)
            exact ⟨(sI_p (by decide)).trans ((sI_at.trans (if_neg e)).trans q1), (sI_at.trans (if_neg e)).trans ((sI_p (by decide)).trans q2)⟩
        ·
          refine w_aload_n dX10_foldAll_32 h0 ?_
          refine r_getr  dX10_foldAll_33 ft_9_103 R1 rfl (hS _ _ rfl) rfl (lb rfl) (hM.1 40 (lb rfl) (lb rfl)) ?_
          refine w_iload_n dX10_foldAll_36 h2 ?_
          refine r_zald  dX10_foldAll_37 R1 rfl (hS _ _ rfl) rfl rfl (by omega) (lb rfl) (hKQ.2.2.1 i (by omega)) ?_
          refine w_if_eq (t := 74) dX10_foldAll_38 rfl (fun h38 => ?_) (fun h38 => ?_)
          ·
            refine w_iconst (v := 0) dX10_foldAll_74 (by decide) ?_
            refine r_zast  dX10_foldAll_75 R1 rfl (hS _ _ rfl) rfl rfl (by omega) (lb rfl) (show vp_nar .boolean 0 = 0 from rfl) (fun G4 R4 => ?_)
            refine w_iinc dX10_foldAll_76 h2 (nI_1 _) (lb rfl) ?_
            refine w_goto (t := 2) dX10_foldAll_79 rfl ?_
            have em : m0B τ w i = false := m0_f (Or.inr (Or.inr (Or.inl (b32_eq h38))))
            refine ih (i + 1) _ _ _ (by omega) R4 (by omega) hf.I.I (NK_I (NK_I hK (by omega)) (by omega)) (fun x hx => ?_) h0 h1 rfl kx
            by_cases e : x = i
            · exact ⟨(sI_p (by decide)).trans (sI_at.trans (if_pos e)), (sI_at.trans (if_pos e)).trans (by rw [e, em]; rfl)⟩
            · obtain ⟨q1, q2⟩ := hz x (by omega)
              exact ⟨(sI_p (by decide)).trans ((sI_at.trans (if_neg e)).trans q1), (sI_at.trans (if_neg e)).trans ((sI_p (by decide)).trans q2)⟩
          ·
            refine w_aload_n dX10_foldAll_41 h0 ?_
            refine r_getr  dX10_foldAll_42 ft_9_17 R1 rfl (hS _ _ rfl) rfl (lb rfl) (hM.1 4 (lb rfl) (lb rfl)) ?_
            refine w_iload_n dX10_foldAll_45 h2 ?_
            refine r_iald  dX10_foldAll_46 R1 rfl (hS _ _ rfl) rfl rfl (by omega) (lb rfl) (hsec i (by omega)).2.1 ?_
            refine w_iconst (v := nI 2) dX10_foldAll_47 (by decide) ?_
            refine r_icmp_gei (t := 74) dX10_foldAll_48 rfl (fun h48 => ?_) (fun h48 => ?_)
            ·
              refine w_iconst (v := 0) dX10_foldAll_74 (by decide) ?_
              refine r_zast  dX10_foldAll_75 R1 rfl (hS _ _ rfl) rfl rfl (by omega) (lb rfl) (show vp_nar .boolean 0 = 0 from rfl) (fun G5 R5 => ?_)
              refine w_iinc dX10_foldAll_76 h2 (nI_1 _) (lb rfl) ?_
              refine w_goto (t := 2) dX10_foldAll_79 rfl ?_
              have em : m0B τ w i = false := m0_f (Or.inr (Or.inr (Or.inr (Or.inl (by omega)))))
              refine ih (i + 1) _ _ _ (by omega) R5 (by omega) hf.I.I (NK_I (NK_I hK (by omega)) (by omega)) (fun x hx => ?_) h0 h1 rfl kx
              by_cases e : x = i
              · exact ⟨(sI_p (by decide)).trans (sI_at.trans (if_pos e)), (sI_at.trans (if_pos e)).trans (by rw [e, em]; rfl)⟩
              · obtain ⟨q1, q2⟩ := hz x (by omega)
                exact ⟨(sI_p (by decide)).trans ((sI_at.trans (if_neg e)).trans q1), (sI_at.trans (if_neg e)).trans ((sI_p (by decide)).trans q2)⟩
            ·
              refine w_aload_n dX10_foldAll_51 h0 ?_
              refine r_getr  dX10_foldAll_52 ft_9_29 R1 rfl (hS _ _ rfl) rfl (lb rfl) (hM.1 8 (lb rfl) (lb rfl)) ?_
              refine w_iload_n dX10_foldAll_55 h2 ?_
              refine r_zald  dX10_foldAll_56 R1 rfl (hS _ _ rfl) rfl rfl (by omega) (lb rfl) (hsec i (by omega)).2.2.2.2.1 ?_
              refine r_if_neP (t := 74) dX10_foldAll_57 rfl (fun h57 => ?_) (fun h57 => ?_)
              ·
                refine w_iconst (v := 0) dX10_foldAll_74 (by decide) ?_
                refine r_zast  dX10_foldAll_75 R1 rfl (hS _ _ rfl) rfl rfl (by omega) (lb rfl) (show vp_nar .boolean 0 = 0 from rfl) (fun G6 R6 => ?_)
                refine w_iinc dX10_foldAll_76 h2 (nI_1 _) (lb rfl) ?_
                refine w_goto (t := 2) dX10_foldAll_79 rfl ?_
                have em : m0B τ w i = false := m0_f (Or.inr (Or.inr (Or.inr (Or.inr (Or.inl h57)))))
                refine ih (i + 1) _ _ _ (by omega) R6 (by omega) hf.I.I (NK_I (NK_I hK (by omega)) (by omega)) (fun x hx => ?_) h0 h1 rfl kx
                by_cases e : x = i
                · exact ⟨(sI_p (by decide)).trans (sI_at.trans (if_pos e)), (sI_at.trans (if_pos e)).trans (by rw [e, em]; rfl)⟩
                · obtain ⟨q1, q2⟩ := hz x (by omega)
                  exact ⟨(sI_p (by decide)).trans ((sI_at.trans (if_neg e)).trans q1), (sI_at.trans (if_neg e)).trans ((sI_p (by decide)).trans q2)⟩
              ·
                refine w_aload_n dX10_foldAll_60 h0 ?_
                refine r_getr  dX10_foldAll_61 ft_9_33 R1 rfl (hS _ _ rfl) rfl (lb rfl) (hM.1 9 (lb rfl) (lb rfl)) ?_
                refine w_iload_n dX10_foldAll_64 h2 ?_
                refine r_iald  dX10_foldAll_65 R1 rfl (hS _ _ rfl) rfl rfl (by omega) (lb rfl) (hsec i (by omega)).2.2.2.2.2.1 ?_
                refine w_iconst (v := (-1)) dX10_foldAll_66 (by decide) ?_
                refine r_icmp_neP (t := 74) dX10_foldAll_67 rfl (fun h67 => ?_) (fun h67 => ?_)
                ·
                  refine w_iconst (v := 0) dX10_foldAll_74 (by decide) ?_
                  refine r_zast  dX10_foldAll_75 R1 rfl (hS _ _ rfl) rfl rfl (by omega) (lb rfl) (show vp_nar .boolean 0 = 0 from rfl) (fun G7 R7 => ?_)
                  refine w_iinc dX10_foldAll_76 h2 (nI_1 _) (lb rfl) ?_
                  refine w_goto (t := 2) dX10_foldAll_79 rfl ?_
                  have em : m0B τ w i = false := m0_f (Or.inr (Or.inr (Or.inr (Or.inr (Or.inr h67)))))
                  refine ih (i + 1) _ _ _ (by omega) R7 (by omega) hf.I.I (NK_I (NK_I hK (by omega)) (by omega)) (fun x hx => ?_) h0 h1 rfl kx
                  by_cases e : x = i
                  · exact ⟨(sI_p (by decide)).trans (sI_at.trans (if_pos e)), (sI_at.trans (if_pos e)).trans (by rw [e, em]; rfl)⟩
                  · obtain ⟨q1, q2⟩ := hz x (by omega)
                    exact ⟨(sI_p (by decide)).trans ((sI_at.trans (if_neg e)).trans q1), (sI_at.trans (if_neg e)).trans ((sI_p (by decide)).trans q2)⟩
                ·
                  refine w_iconst (v := 1) dX10_foldAll_70 (by decide) ?_
                  refine w_goto (t := 75) dX10_foldAll_71 rfl ?_
                  refine r_zast  dX10_foldAll_75 R1 rfl (hS _ _ rfl) rfl rfl (by omega) (lb rfl) (show vp_nar .boolean 1 = 1 from rfl) (fun G8 R8 => ?_)
                  refine w_iinc dX10_foldAll_76 h2 (nI_1 _) (lb rfl) ?_
                  refine w_goto (t := 2) dX10_foldAll_79 rfl ?_
                  have em : m0B τ w i = true := m0_t (b32_ne h21) h29 (b32_ne h38) (by omega) h57 h67
                  refine ih (i + 1) _ _ _ (by omega) R8 (by omega) hf.I.I (NK_I (NK_I hK (by omega)) (by omega)) (fun x hx => ?_) h0 h1 rfl kx
                  by_cases e : x = i
                  · exact ⟨(sI_p (by decide)).trans (sI_at.trans (if_pos e)), (sI_at.trans (if_pos e)).trans (by rw [e, em]; rfl)⟩
                  · obtain ⟨q1, q2⟩ := hz x (by omega)
                    exact ⟨(sI_p (by decide)).trans ((sI_at.trans (if_neg e)).trans q1), (sI_at.trans (if_neg e)).trans ((sI_p (by decide)).trans q2)⟩
theorem c10_foldAll_b {s0 : rx_S} (hS0 : rx_in s0) {τ : tx_T} (hV : TV τ) {w : Bool}  : ∀ (d : Nat) (k : Nat) (L : mx_L) (s : rx_S) (G : mx_H), tN τ 3 - k < d → rx_R b0 O z1 z2 s G → k ≤ tN τ 3 → mfk s0 s → NK s τ → (∀ x, x < 60 → rI s 1 43 x = -1) → (∀ x, x < 60 → rI s 1 44 x = b32 (m0B τ w x && !an (fbB τ x) k)) → L 0 = some (.ref (rA s 0 0)) → L 2 = some (.int (nI k)) → (∀ (L : mx_L) (s : rx_S) (G : mx_H), rx_R b0 O z1 z2 s G → mfk s0 s → NK s τ → (∀ x, x < 60 → rI s 1 43 x = -1) → (∀ x, x < 60 → rI s 1 44 x = b32 (mayB τ w x)) → L 0 = some (.ref (rA s 0 0)) → mx_W (gt_P b0 mi E) mX10_foldAll 151 L [] G Q) → mx_W (gt_P b0 mi E) mX10_foldAll 84 L [] G Q := by
  intro d
  induction d with
  | zero => intro k L s G hd; exact absurd hd (Nat.not_lt_zero _)
  | succ d ih =>
    intro k L s G hd R hk hf hK h43 hz h0 h2 kx
    obtain ⟨hN, hKQ, hKV⟩ := id hK
    obtain ⟨hT, hL, hD, hA⟩ := id hN
    obtain ⟨hM, ⟨c1, c2, c13, c14, c20, c26⟩, hsec, hby, hsy, hre, hro, hba⟩ := id hT
    have hV0 := hV.1
    have hS : rx_in s := hf.inn hS0
    refine w_iload_n dX10_foldAll_84 h2 ?_
    refine w_aload_n dX10_foldAll_85 h0 ?_
    refine r_geti  dX10_foldAll_86 ft_9_195 R rfl (hS _ _ rfl) rfl (lb rfl) c20 ?_
    refine r_icmp_gen (t := 151) dX10_foldAll_89 rfl (by omega) (by omega) (fun h89 => ?_) (fun h89 => ?_)
    ·
      obtain rfl : k = tN τ 3 := by omega
      exact kx _ _ _ R hf hK h43 hz h0
    ·
      have hy := (hV.2.2.2.1 k (by omega)).2.2.2.1
      obtain ⟨y, hy1, hy2⟩ := nI_ofI hy.1
      have hyl : y < tN τ 2 := by have := hy.2; rw [hy2, nI_toInt hy1] at this; omega
      have cy : cl (tT τ 24 k) = y := by rw [hy2, clN hy1]
      have hr := (hV.2.2.2.1 k (by omega)).1
      obtain ⟨r, hr1, hr2⟩ := nI_ofI hr.1
      have hrl : r < tN τ 1 := by have := hr.2; rw [hr2, nI_toInt hr1] at this; omega
      have cr : cl (tT τ 21 k) = r := by rw [hr2, clN hr1]
      refine w_aload_n dX10_foldAll_92 h0 ?_
      refine r_getr  dX10_foldAll_93 ft_9_67 R rfl (hS _ _ rfl) rfl (lb rfl) (hM.1 24 (lb rfl) (lb rfl)) ?_
      refine w_iload_n dX10_foldAll_96 h2 ?_
      refine r_iald  dX10_foldAll_97 R rfl (hS _ _ rfl) rfl rfl (by omega) (lb rfl) ((hre k (by omega)).2.2.2.1.trans hy2) ?_
      refine w_istore_n dX10_foldAll_98 (lb rfl) ?_
      refine w_aload_n dX10_foldAll_99 h0 ?_
      refine r_getr  dX10_foldAll_100 ft_9_103 R rfl (hS _ _ rfl) rfl (lb rfl) (hM.1 40 (lb rfl) (lb rfl)) ?_
      refine w_aload_n dX10_foldAll_103 h0 ?_
      refine r_getr  dX10_foldAll_104 ft_9_58 R rfl (hS _ _ rfl) rfl (lb rfl) (hM.1 21 (lb rfl) (lb rfl)) ?_
      refine w_iload_n dX10_foldAll_107 h2 ?_
      refine r_iald  dX10_foldAll_108 R rfl (hS _ _ rfl) rfl rfl (by omega) (lb rfl) ((hre k (by omega)).1.trans hr2) ?_
      refine r_zald  dX10_foldAll_109 R rfl (hS _ _ rfl) rfl rfl (by omega) (lb rfl) ((hKQ.2.2.1 r (by omega)).trans (by rw [← cr])) ?_
      refine w_if_eq (t := 145) dX10_foldAll_110 rfl (fun h110 => ?_) (fun h110 => ?_)
      ·
        refine w_iinc dX10_foldAll_145 h2 (nI_1 _) (lb rfl) ?_
        refine w_goto (t := 84) dX10_foldAll_148 rfl ?_
        have ef : ∀ x, fbB τ x k = false := by
          intro x
          exact by unfold fbB; rw [b32_eq h110]; rfl
        exact ih (k + 1) _ _ _ (by omega) R (by omega) hf hK h43 (fun x hx => by rw [an, ef, hz x hx]; simp) h0 rfl kx
      ·
        refine w_aload_n dX10_foldAll_113 h0 ?_
        refine r_getr  dX10_foldAll_114 ft_9_91 R rfl (hS _ _ rfl) rfl (lb rfl) (hM.1 35 (lb rfl) (lb rfl)) ?_
        refine w_iload_n dX10_foldAll_117 rfl ?_
        refine r_iald  dX10_foldAll_118 R rfl (hS _ _ rfl) rfl rfl (by omega) (lb rfl) (hA y hyl).1 ?_
        refine w_iconst (v := 1) dX10_foldAll_119 (by decide) ?_
        refine r_icmp_neP (t := 145) dX10_foldAll_120 rfl (fun h120 => ?_) (fun h120 => ?_)
        ·
          refine w_iinc dX10_foldAll_145 h2 (nI_1 _) (lb rfl) ?_
          refine w_goto (t := 84) dX10_foldAll_148 rfl ?_
          have ef : ∀ x, fbB τ x k = false := by
            intro x
            exact by unfold fbB; rw [cy, beq_eq_false_iff_ne.mpr h120]; simp
          exact ih (k + 1) _ _ _ (by omega) R (by omega) hf hK h43 (fun x hx => by rw [an, ef, hz x hx]; simp) h0 rfl kx
        ·
          refine w_aload_n dX10_foldAll_123 h0 ?_
          refine r_getr  dX10_foldAll_124 ft_9_64 R rfl (hS _ _ rfl) rfl (lb rfl) (hM.1 23 (lb rfl) (lb rfl)) ?_
          refine w_iload_n dX10_foldAll_127 h2 ?_
          refine r_iald  dX10_foldAll_128 R rfl (hS _ _ rfl) rfl rfl (by omega) (lb rfl) (hre k (by omega)).2.2.1 ?_
          refine w_iconst (v := 3) dX10_foldAll_129 (by decide) ?_
          refine w_icmp_eq (t := 145) dX10_foldAll_130 rfl (fun h130 => ?_) (fun h130 => ?_)
          ·
            refine w_iinc dX10_foldAll_145 h2 (nI_1 _) (lb rfl) ?_
            refine w_goto (t := 84) dX10_foldAll_148 rfl ?_
            have ef : ∀ x, fbB τ x k = false := by
              intro x
              exact by unfold fbB; rw [beq_iff_eq.mpr h130]; simp
            exact ih (k + 1) _ _ _ (by omega) R (by omega) hf hK h43 (fun x hx => by rw [an, ef, hz x hx]; simp) h0 rfl kx
          ·
            obtain ⟨d1, _, _, e3, e4, e5⟩ := at_place hV hyl h120
            obtain ⟨z, z1', z2'⟩ := nI_ofI (by rw [← e3] at e4; exact e4)
            have zl : z < tN τ 1 := by rw [← e3, z2', clN z1'] at e5; exact e5
            refine w_aload_n dX10_foldAll_133 h0 ?_
            refine r_getr  dX10_foldAll_134 ft_9_115 R rfl (hS _ _ rfl) rfl (lb rfl) (hM.1 44 (lb rfl) (lb rfl)) ?_
            refine w_aload_n dX10_foldAll_137 h0 ?_
            refine r_getr  dX10_foldAll_138 ft_9_94 R rfl (hS _ _ rfl) rfl (lb rfl) (hM.1 36 (lb rfl) (lb rfl)) ?_
            refine w_iload_n dX10_foldAll_141 rfl ?_
            refine r_iald  dX10_foldAll_142 R rfl (hS _ _ rfl) rfl rfl (by omega) (lb rfl) ((hA y hyl).2.1.trans z2') ?_
            refine w_iconst (v := 0) dX10_foldAll_143 (by decide) ?_
            refine r_zast  dX10_foldAll_144 R rfl (hS _ _ rfl) rfl rfl (by omega) (lb rfl) (show vp_nar .boolean 0 = 0 from rfl) (fun G1 R1 => ?_)
            refine w_iinc dX10_foldAll_145 h2 (nI_1 _) (lb rfl) ?_
            refine w_goto (t := 84) dX10_foldAll_148 rfl ?_
            have ef : ∀ x, fbB τ x k = Nat.beq z x := by
              intro x
              unfold fbB
              rw [cy, b32_ne h110, beq_iff_eq.mpr h120, z2', clN z1', beq_eq_false_iff_ne.mpr h130]; simp
            refine ih (k + 1) _ _ _ (by omega) R1 (by omega) hf.I (NK_I hK (by omega)) (fun x hx => (sI_p (by decide)).trans (h43 x hx)) (fun x hx => ?_) h0 rfl kx
            rw [sI_at, an, ef]
            by_cases e : x = z
            · subst e; simp [b32]
            · have hb : Nat.beq z x = false := by
                cases h : Nat.beq z x
                · rfl
                · exact absurd (Nat.eq_of_beq_eq_true h).symm e
              rw [if_neg e, hz x hx, hb]; simp
theorem c10_foldAll_d {s0 : rx_S} (hS0 : rx_in s0) {τ : tx_T} (hV : TV τ) {w : Bool} {a : Nat} (ha : a < tN τ 1)  : ∀ (d : Nat) (b : Nat) (L : mx_L) (s : rx_S) (G : mx_H), tN τ 1 - b < d → rx_R b0 O z1 z2 s G → b ≤ tN τ 1 → mfk s0 s → NK s τ → (∀ x, x < 60 → rI s 1 43 x = -1) → (∀ x, x < 60 → rI s 1 44 x = b32 (mayB τ w x)) → (∀ x y, x < tN τ 1 → y < tN τ 1 → dn (a) (b) x y → (AS s x y ↔ A0 τ w x y)) → L 0 = some (.ref (rA s 0 0)) → L 2 = some (.int (nI a)) → L 3 = some (.int (nI b)) → (∀ (L : mx_L) (s : rx_S) (G : mx_H), rx_R b0 O z1 z2 s G → mfk s0 s → NK s τ → (∀ x, x < 60 → rI s 1 43 x = -1) → (∀ x, x < 60 → rI s 1 44 x = b32 (mayB τ w x)) → (∀ x y, x < tN τ 1 → y < tN τ 1 → dn (a) (tN τ 1) x y → (AS s x y ↔ A0 τ w x y)) → L 0 = some (.ref (rA s 0 0)) → L 2 = some (.int (nI a)) → mx_W (gt_P b0 mi E) mX10_foldAll 225 L [] G Q) → mx_W (gt_P b0 mi E) mX10_foldAll 163 L [] G Q := by
  intro d
  induction d with
  | zero => intro b L s G hd; exact absurd hd (Nat.not_lt_zero _)
  | succ d ih =>
    intro b L s G hd R hb hf hK h43 hm hz h0 h2 h3 kx
    obtain ⟨hN, hKQ, hKV⟩ := id hK
    obtain ⟨hT, hL, hD, hA⟩ := id hN
    obtain ⟨hM, ⟨c1, c2, c13, c14, c20, c26⟩, hsec, hby, hsy, hre, hro, hba⟩ := id hT
    have hV0 := hV.1
    have hS : rx_in s := hf.inn hS0
    refine w_iload_n dX10_foldAll_163 h3 ?_
    refine w_aload_n dX10_foldAll_164 h0 ?_
    refine r_geti  dX10_foldAll_165 ft_9_165 R rfl (hS _ _ rfl) rfl (lb rfl) c2 ?_
    refine r_icmp_gen (t := 225) dX10_foldAll_168 rfl (by omega) (by omega) (fun h168 => ?_) (fun h168 => ?_)
    ·
      obtain rfl : b = tN τ 1 := by omega
      exact kx _ _ _ R hf hK h43 hm hz h0 h2
    ·
      refine w_aload_n dX10_foldAll_171 h0 ?_
      refine r_getr  dX10_foldAll_172 ft_9_118 R rfl (hS _ _ rfl) rfl (lb rfl) (hM.1 45 (lb rfl) (lb rfl)) ?_
      refine w_bipush (v := nI 60) dX10_foldAll_175 (by decide) ?_
      refine w_iload_n dX10_foldAll_177 h2 ?_
      refine w_imul dX10_foldAll_178 ?_
      rw [nI_mul]
      refine w_iload_n dX10_foldAll_179 h3 ?_
      refine w_iadd dX10_foldAll_180 ?_
      rw [nI_add]
      refine w_iload_n dX10_foldAll_181 h2 ?_
      refine w_iload_n dX10_foldAll_182 h3 ?_
      refine r_icmp_eqn (t := 217) dX10_foldAll_183 rfl (by omega) (by omega) (fun h183 => ?_) (fun h183 => ?_)
      ·
        refine w_iconst (v := 0) dX10_foldAll_217 (by decide) ?_
        refine r_zast  dX10_foldAll_218 R rfl (hS _ _ rfl) rfl rfl (by omega) (lb rfl) (show vp_nar .boolean 0 = 0 from rfl) (fun G1 R1 => ?_)
        refine w_iinc dX10_foldAll_219 h3 (nI_1 _) (lb rfl) ?_
        refine w_goto (t := 163) dX10_foldAll_222 rfl ?_
        have e0 : ¬ A0 τ w a b := fun e => absurd h183 e.1
        refine ih (b + 1) _ _ _ (by omega) R1 (by omega) hf.I (NK_I hK (by omega)) (fun x hx => (sI_p (by decide)).trans (h43 x hx)) (fun x hx => (sI_p (by decide)).trans (hm x hx)) (fun x y hx hy hd => ?_) h0 h2 rfl kx
        by_cases e : x = a ∧ y = b
        · obtain ⟨rfl, rfl⟩ := e
          rw [AS_s]
          exact ⟨fun h => absurd rfl h, fun h => absurd h e0⟩
        · rw [AS_p (by omega) (by omega) e]
          exact hz x y hx hy (by unfold dn at *; omega)
      ·
        refine w_aload_n dX10_foldAll_186 h0 ?_
        refine r_getr  dX10_foldAll_187 ft_9_115 R rfl (hS _ _ rfl) rfl (lb rfl) (hM.1 44 (lb rfl) (lb rfl)) ?_
        refine w_iload_n dX10_foldAll_190 h2 ?_
        refine r_zald  dX10_foldAll_191 R rfl (hS _ _ rfl) rfl rfl (by omega) (lb rfl) (hm a (by omega)) ?_
        refine w_if_eq (t := 217) dX10_foldAll_192 rfl (fun h192 => ?_) (fun h192 => ?_)
        ·
          refine w_iconst (v := 0) dX10_foldAll_217 (by decide) ?_
          refine r_zast  dX10_foldAll_218 R rfl (hS _ _ rfl) rfl rfl (by omega) (lb rfl) (show vp_nar .boolean 0 = 0 from rfl) (fun G2 R2 => ?_)
          refine w_iinc dX10_foldAll_219 h3 (nI_1 _) (lb rfl) ?_
          refine w_goto (t := 163) dX10_foldAll_222 rfl ?_
          have e0 : ¬ A0 τ w a b := fun e => Bool.false_ne_true ((b32_eq h192).symm.trans e.2.1)
          refine ih (b + 1) _ _ _ (by omega) R2 (by omega) hf.I (NK_I hK (by omega)) (fun x hx => (sI_p (by decide)).trans (h43 x hx)) (fun x hx => (sI_p (by decide)).trans (hm x hx)) (fun x y hx hy hd => ?_) h0 h2 rfl kx
          by_cases e : x = a ∧ y = b
          · obtain ⟨rfl, rfl⟩ := e
            rw [AS_s]
            exact ⟨fun h => absurd rfl h, fun h => absurd h e0⟩
          · rw [AS_p (by omega) (by omega) e]
            exact hz x y hx hy (by unfold dn at *; omega)
        ·
          refine w_aload_n dX10_foldAll_195 h0 ?_
          refine r_getr  dX10_foldAll_196 ft_9_115 R rfl (hS _ _ rfl) rfl (lb rfl) (hM.1 44 (lb rfl) (lb rfl)) ?_
          refine w_iload_n dX10_foldAll_199 h3 ?_
          refine r_zald  dX10_foldAll_200 R rfl (hS _ _ rfl) rfl rfl (by omega) (lb rfl) (hm b (by omega)) ?_
          refine w_if_eq (t := 217) dX10_foldAll_201 rfl (fun h201 => ?_) (fun h201 => ?_)
          ·
            refine w_iconst (v := 0) dX10_foldAll_217 (by decide) ?_
            refine r_zast  dX10_foldAll_218 R rfl (hS _ _ rfl) rfl rfl (by omega) (lb rfl) (show vp_nar .boolean 0 = 0 from rfl) (fun G3 R3 => ?_)
            refine w_iinc dX10_foldAll_219 h3 (nI_1 _) (lb rfl) ?_
            refine w_goto (t := 163) dX10_foldAll_222 rfl ?_
            have e0 : ¬ A0 τ w a b := fun e => Bool.false_ne_true ((b32_eq h201).symm.trans e.2.2.1)
            refine ih (b + 1) _ _ _ (by omega) R3 (by omega) hf.I (NK_I hK (by omega)) (fun x hx => (sI_p (by decide)).trans (h43 x hx)) (fun x hx => (sI_p (by decide)).trans (hm x hx)) (fun x y hx hy hd => ?_) h0 h2 rfl kx
            by_cases e : x = a ∧ y = b
            · obtain ⟨rfl, rfl⟩ := e
              rw [AS_s]
              exact ⟨fun h => absurd rfl h, fun h => absurd h e0⟩
            · rw [AS_p (by omega) (by omega) e]
              exact hz x y hx hy (by unfold dn at *; omega)
          ·
            refine w_aload_n dX10_foldAll_204 h0 ?_
            refine w_iload_n dX10_foldAll_205 h2 ?_
            refine w_iload_n dX10_foldAll_206 h3 ?_
            refine r_inv2  dX10_foldAll_207 mt_9_220 R rfl (hS _ _ rfl) rfl (lb rfl) (lb rfl) (lb rfl) (lb rfl) rfl (c10_startsAlike R hS hV hN ha (b := b) (by omega) (may_k (b32_ne h192)) (may_k (b32_ne h201)) (fun hst => ⟨_, rfl, ?_⟩) (fun hst => ⟨_, rfl, ?_⟩))
            ·
              refine w_if_eq (t := 217) dX10_foldAll_210 rfl (fun h => absurd h (by decide)) (fun _ => ?_)
              refine w_iconst (v := 1) dX10_foldAll_213 (by decide) ?_
              refine w_goto (t := 218) dX10_foldAll_214 rfl ?_
              refine r_zast  dX10_foldAll_218 R rfl (hS _ _ rfl) rfl rfl (by omega) (lb rfl) (show vp_nar .boolean 1 = 1 from rfl) (fun G4 R4 => ?_)
              refine w_iinc dX10_foldAll_219 h3 (nI_1 _) (lb rfl) ?_
              refine w_goto (t := 163) dX10_foldAll_222 rfl ?_
              have e0 : A0 τ w a b := ⟨h183, b32_ne h192, b32_ne h201, hst⟩
              refine ih (b + 1) _ _ _ (by omega) R4 (by omega) hf.I (NK_I hK (by omega)) (fun x hx => (sI_p (by decide)).trans (h43 x hx)) (fun x hx => (sI_p (by decide)).trans (hm x hx)) (fun x y hx hy hd => ?_) h0 h2 rfl kx
              by_cases e : x = a ∧ y = b
              · obtain ⟨rfl, rfl⟩ := e
                rw [AS_s]
                exact ⟨fun _ => e0, fun _ => by decide⟩
              · rw [AS_p (by omega) (by omega) e]
                exact hz x y hx hy (by unfold dn at *; omega)
            ·
              refine w_if_eq (t := 217) dX10_foldAll_210 rfl (fun _ => ?_) (fun h => absurd (by decide) h)
              refine w_iconst (v := 0) dX10_foldAll_217 (by decide) ?_
              refine r_zast  dX10_foldAll_218 R rfl (hS _ _ rfl) rfl rfl (by omega) (lb rfl) (show vp_nar .boolean 0 = 0 from rfl) (fun G5 R5 => ?_)
              refine w_iinc dX10_foldAll_219 h3 (nI_1 _) (lb rfl) ?_
              refine w_goto (t := 163) dX10_foldAll_222 rfl ?_
              have e0 : ¬ A0 τ w a b := fun e => hst e.2.2.2
              refine ih (b + 1) _ _ _ (by omega) R5 (by omega) hf.I (NK_I hK (by omega)) (fun x hx => (sI_p (by decide)).trans (h43 x hx)) (fun x hx => (sI_p (by decide)).trans (hm x hx)) (fun x y hx hy hd => ?_) h0 h2 rfl kx
              by_cases e : x = a ∧ y = b
              · obtain ⟨rfl, rfl⟩ := e
                rw [AS_s]
                exact ⟨fun h => absurd rfl h, fun h => absurd h e0⟩
              · rw [AS_p (by omega) (by omega) e]
                exact hz x y hx hy (by unfold dn at *; omega)
theorem c10_foldAll_c {s0 : rx_S} (hS0 : rx_in s0) {τ : tx_T} (hV : TV τ) {w : Bool}  : ∀ (d : Nat) (a : Nat) (L : mx_L) (s : rx_S) (G : mx_H), tN τ 1 - a < d → rx_R b0 O z1 z2 s G → a ≤ tN τ 1 → mfk s0 s → NK s τ → (∀ x, x < 60 → rI s 1 43 x = -1) → (∀ x, x < 60 → rI s 1 44 x = b32 (mayB τ w x)) → (∀ x y, x < tN τ 1 → y < tN τ 1 → dn (a) (0) x y → (AS s x y ↔ A0 τ w x y)) → L 0 = some (.ref (rA s 0 0)) → L 2 = some (.int (nI a)) → (∀ (L : mx_L) (s : rx_S) (G : mx_H), rx_R b0 O z1 z2 s G → mfk s0 s → NK s τ → (∀ x, x < 60 → rI s 1 43 x = -1) → (∀ x y, x < tN τ 1 → y < tN τ 1 → (AS s x y ↔ A0 τ w x y)) → L 0 = some (.ref (rA s 0 0)) → mx_W (gt_P b0 mi E) mX10_foldAll 231 L [] G Q) → mx_W (gt_P b0 mi E) mX10_foldAll 153 L [] G Q := by
  intro d
  induction d with
  | zero => intro a L s G hd; exact absurd hd (Nat.not_lt_zero _)
  | succ d ih =>
    intro a L s G hd R ha hf hK h43 hm hz h0 h2 kx
    obtain ⟨hN, hKQ, hKV⟩ := id hK
    obtain ⟨hT, hL, hD, hA⟩ := id hN
    obtain ⟨hM, ⟨c1, c2, c13, c14, c20, c26⟩, hsec, hby, hsy, hre, hro, hba⟩ := id hT
    have hV0 := hV.1
    have hS : rx_in s := hf.inn hS0
    refine w_iload_n dX10_foldAll_153 h2 ?_
    refine w_aload_n dX10_foldAll_154 h0 ?_
    refine r_geti  dX10_foldAll_155 ft_9_165 R rfl (hS _ _ rfl) rfl (lb rfl) c2 ?_
    refine r_icmp_gen (t := 231) dX10_foldAll_158 rfl (by omega) (by omega) (fun h158 => ?_) (fun h158 => ?_)
    ·
      exact kx _ _ _ R hf hK h43 (fun x y hx hy => hz x y hx hy (by unfold dn; omega)) h0
    ·
      refine w_iconst (v := 0) dX10_foldAll_161 (by decide) ?_
      refine w_istore_n dX10_foldAll_162 (lb rfl) ?_
      refine c10_foldAll_d hS0 hV (a := a) (by omega) (tN τ 1 + 1) 0 _ _ _ (by omega) R (by omega) hf hK h43 hm hz h0 h2 rfl (fun L s G R hf hK h43 hm hz h0 h2 => ?_)
      refine w_iinc dX10_foldAll_225 h2 (nI_1 _) (lb rfl) ?_
      refine w_goto (t := 153) dX10_foldAll_228 rfl ?_
      exact ih (a + 1) _ _ _ (by omega) R (by omega) hf hK h43 hm (fun x y hx hy hd => hz x y hx hy (by unfold dn at *; omega)) h0 rfl kx
theorem c10_foldAll_g {s0 : rx_S} (hS0 : rx_in s0) {τ : tx_T} (hV : TV τ) {w : Bool} {a c0 : Nat} (ha : a < tN τ 1)  : ∀ (d : Nat) (b : Nat) (v : Int32) (L : mx_L) (s : rx_S) (G : mx_H), tN τ 1 - b < d → rx_R b0 O z1 z2 s G → b ≤ tN τ 1 → mfk s0 s → NK s τ → (∀ x, x < 60 → rI s 1 43 x = -1) → (∀ x y, gA τ w x y → AS s x y) → (∀ x y, x < tN τ 1 → y < tN τ 1 → AS s x y → A0 τ w x y) → ((v = 0 ∧ mS s = c0 ∧ ∀ x y, x < tN τ 1 → y < tN τ 1 → dn (a) (b) x y → AS s x y → syA τ (AS s) x y) ∨ (v = 1 ∧ mS s < c0)) → L 0 = some (.ref (rA s 0 0)) → L 2 = some (.int v) → L 3 = some (.int (nI a)) → L 4 = some (.int (nI b)) → (∀ (v : Int32) (L : mx_L) (s : rx_S) (G : mx_H), rx_R b0 O z1 z2 s G → mfk s0 s → NK s τ → (∀ x, x < 60 → rI s 1 43 x = -1) → (∀ x y, gA τ w x y → AS s x y) → (∀ x y, x < tN τ 1 → y < tN τ 1 → AS s x y → A0 τ w x y) → ((v = 0 ∧ mS s = c0 ∧ ∀ x y, x < tN τ 1 → y < tN τ 1 → dn (a) (tN τ 1) x y → AS s x y → syA τ (AS s) x y) ∨ (v = 1 ∧ mS s < c0)) → L 0 = some (.ref (rA s 0 0)) → L 2 = some (.int v) → L 3 = some (.int (nI a)) → mx_W (gt_P b0 mi E) mX10_foldAll 307 L [] G Q) → mx_W (gt_P b0 mi E) mX10_foldAll 252 L [] G Q := by
  intro d
  induction d with
  | zero => intro b v L s G hd; exact absurd hd (Nat.not_lt_zero _)
  | succ d ih =>
    intro b v L s G hd R hb hf hK h43 hi1 hi2 hv h0 h2 h3 h4 kx
    obtain ⟨hN, hKQ, hKV⟩ := id hK
    obtain ⟨hT, hL, hD, hA⟩ := id hN
    obtain ⟨hM, ⟨c1, c2, c13, c14, c20, c26⟩, hsec, hby, hsy, hre, hro, hba⟩ := id hT
    have hV0 := hV.1
    have hS : rx_in s := hf.inn hS0
    refine w_iload dX10_foldAll_252 h4 ?_
    refine w_aload_n dX10_foldAll_254 h0 ?_
    refine r_geti  dX10_foldAll_255 ft_9_165 R rfl (hS _ _ rfl) rfl (lb rfl) c2 ?_
    refine r_icmp_gen (t := 307) dX10_foldAll_258 rfl (by omega) (by omega) (fun h258 => ?_) (fun h258 => ?_)
    ·
      obtain rfl : b = tN τ 1 := by omega
      exact kx v _ _ _ R hf hK h43 hi1 hi2 hv h0 h2 h3
    ·
      refine w_aload_n dX10_foldAll_261 h0 ?_
      refine r_getr  dX10_foldAll_262 ft_9_118 R rfl (hS _ _ rfl) rfl (lb rfl) (hM.1 45 (lb rfl) (lb rfl)) ?_
      refine w_bipush (v := nI 60) dX10_foldAll_265 (by decide) ?_
      refine w_iload_n dX10_foldAll_267 h3 ?_
      refine w_imul dX10_foldAll_268 ?_
      rw [nI_mul]
      refine w_iload dX10_foldAll_269 h4 ?_
      refine w_iadd dX10_foldAll_271 ?_
      rw [nI_add]
      refine r_zald  dX10_foldAll_272 R rfl (hS _ _ rfl) rfl rfl (by omega) (lb rfl) rfl ?_
      refine w_if_eq (t := 301) dX10_foldAll_273 rfl (fun h273 => ?_) (fun h273 => ?_)
      ·
        refine w_iinc dX10_foldAll_301 h4 (nI_1 _) (lb rfl) ?_
        refine w_goto (t := 252) dX10_foldAll_304 rfl ?_
        refine ih (b + 1) v _ _ _ (by omega) R (by omega) hf hK h43 hi1 hi2 ?_ h0 h2 h3 rfl kx
        rcases hv with ⟨q1, q2, q3⟩ | q
        · refine Or.inl ⟨q1, q2, fun x y hx hy hd => ?_⟩
          by_cases e : x = a ∧ y = b
          · obtain ⟨rfl, rfl⟩ := e
            exact fun h => absurd h273 h
          · exact q3 x y hx hy (by unfold dn at *; omega)
        · exact Or.inr q
      ·
        refine w_aload_n dX10_foldAll_276 h0 ?_
        refine w_iload_n dX10_foldAll_277 h3 ?_
        refine w_iload dX10_foldAll_278 h4 ?_
        refine r_inv2  dX10_foldAll_280 mt_9_224 R rfl (hS _ _ rfl) rfl (lb rfl) (lb rfl) (lb rfl) (lb rfl) rfl (c10_staysAlike R hS hV hN ha (b := b) (by omega) (hi2 a b ha (by omega) h273).2.2.2.2.2.2.1 (fun hst => ⟨_, rfl, ?_⟩) (fun hst => ⟨_, rfl, ?_⟩))
        ·
          refine w_if_ne (t := 301) dX10_foldAll_283 rfl (fun _ => ?_) (fun h => absurd (by decide) h)
          refine w_iinc dX10_foldAll_301 h4 (nI_1 _) (lb rfl) ?_
          refine w_goto (t := 252) dX10_foldAll_304 rfl ?_
          refine ih (b + 1) v _ _ _ (by omega) R (by omega) hf hK h43 hi1 hi2 ?_ h0 h2 h3 rfl kx
          rcases hv with ⟨q1, q2, q3⟩ | q
          · refine Or.inl ⟨q1, q2, fun x y hx hy hd => ?_⟩
            by_cases e : x = a ∧ y = b
            · obtain ⟨rfl, rfl⟩ := e
              exact fun _ => hst
            · exact q3 x y hx hy (by unfold dn at *; omega)
          · exact Or.inr q
        ·
          refine w_if_ne (t := 301) dX10_foldAll_283 rfl (fun h => absurd h (by decide)) (fun _ => ?_)
          refine w_aload_n dX10_foldAll_286 h0 ?_
          refine r_getr  dX10_foldAll_287 ft_9_118 R rfl (hS _ _ rfl) rfl (lb rfl) (hM.1 45 (lb rfl) (lb rfl)) ?_
          refine w_bipush (v := nI 60) dX10_foldAll_290 (by decide) ?_
          refine w_iload_n dX10_foldAll_292 h3 ?_
          refine w_imul dX10_foldAll_293 ?_
          rw [nI_mul]
          refine w_iload dX10_foldAll_294 h4 ?_
          refine w_iadd dX10_foldAll_296 ?_
          rw [nI_add]
          refine w_iconst (v := 0) dX10_foldAll_297 (by decide) ?_
          refine r_zast  dX10_foldAll_298 R rfl (hS _ _ rfl) rfl rfl (by omega) (lb rfl) (show vp_nar .boolean 0 = 0 from rfl) (fun G1 R1 => ?_)
          refine w_iconst (v := 1) dX10_foldAll_299 (by decide) ?_
          refine w_istore_n dX10_foldAll_300 (lb rfl) ?_
          refine w_iinc dX10_foldAll_301 h4 (nI_1 _) (lb rfl) ?_
          refine w_goto (t := 252) dX10_foldAll_304 rfl ?_
          have hms := mS_sub (s := s) (a := a) (b := b) (by omega) (by omega) h273
          refine ih (b + 1) 1 _ _ _ (by omega) R1 (by omega) hf.I (NK_I hK (by omega)) (fun x hx => (sI_p (by decide)).trans (h43 x hx)) (fun x y hg => ?_) (fun x y hx hy h => ?_) (Or.inr ⟨rfl, by rcases hv with q | q <;> omega⟩) h0 rfl h3 rfl kx
          · have hp := gA_post hg
            rw [AS_p (by omega) (by omega) (fun e => by obtain ⟨rfl, rfl⟩ := e; exact hst (syA_mono hi1 hp.2.2.2))]
            exact hi1 x y hg
          · by_cases e : x = a ∧ y = b
            · obtain ⟨rfl, rfl⟩ := e
              rw [AS_s] at h; exact absurd rfl h
            · rw [AS_p (by omega) (by omega) e] at h
              exact hi2 x y hx hy h
theorem c10_foldAll_f {s0 : rx_S} (hS0 : rx_in s0) {τ : tx_T} (hV : TV τ) {w : Bool} {c0 : Nat}  : ∀ (d : Nat) (a : Nat) (v : Int32) (L : mx_L) (s : rx_S) (G : mx_H), tN τ 1 - a < d → rx_R b0 O z1 z2 s G → a ≤ tN τ 1 → mfk s0 s → NK s τ → (∀ x, x < 60 → rI s 1 43 x = -1) → (∀ x y, gA τ w x y → AS s x y) → (∀ x y, x < tN τ 1 → y < tN τ 1 → AS s x y → A0 τ w x y) → ((v = 0 ∧ mS s = c0 ∧ ∀ x y, x < tN τ 1 → y < tN τ 1 → dn (a) (0) x y → AS s x y → syA τ (AS s) x y) ∨ (v = 1 ∧ mS s < c0)) → L 0 = some (.ref (rA s 0 0)) → L 2 = some (.int v) → L 3 = some (.int (nI a)) → (∀ (v : Int32) (L : mx_L) (s : rx_S) (G : mx_H), rx_R b0 O z1 z2 s G → mfk s0 s → NK s τ → (∀ x, x < 60 → rI s 1 43 x = -1) → (∀ x y, gA τ w x y → AS s x y) → (∀ x y, x < tN τ 1 → y < tN τ 1 → AS s x y → A0 τ w x y) → ((v = 0 ∧ mS s = c0 ∧ ∀ x y, x < tN τ 1 → y < tN τ 1 → dn (tN τ 1) (0) x y → AS s x y → syA τ (AS s) x y) ∨ (v = 1 ∧ mS s < c0)) → L 0 = some (.ref (rA s 0 0)) → L 2 = some (.int v) → mx_W (gt_P b0 mi E) mX10_foldAll 313 L [] G Q) → mx_W (gt_P b0 mi E) mX10_foldAll 241 L [] G Q := by
  intro d
  induction d with
  | zero => intro a v L s G hd; exact absurd hd (Nat.not_lt_zero _)
  | succ d ih =>
    intro a v L s G hd R ha hf hK h43 hi1 hi2 hv h0 h2 h3 kx
    obtain ⟨hN, hKQ, hKV⟩ := id hK
    obtain ⟨hT, hL, hD, hA⟩ := id hN
    obtain ⟨hM, ⟨c1, c2, c13, c14, c20, c26⟩, hsec, hby, hsy, hre, hro, hba⟩ := id hT
    have hV0 := hV.1
    have hS : rx_in s := hf.inn hS0
    refine w_iload_n dX10_foldAll_241 h3 ?_
    refine w_aload_n dX10_foldAll_242 h0 ?_
    refine r_geti  dX10_foldAll_243 ft_9_165 R rfl (hS _ _ rfl) rfl (lb rfl) c2 ?_
    refine r_icmp_gen (t := 313) dX10_foldAll_246 rfl (by omega) (by omega) (fun h246 => ?_) (fun h246 => ?_)
    ·
      obtain rfl : a = tN τ 1 := by omega
      exact kx v _ _ _ R hf hK h43 hi1 hi2 hv h0 h2
    ·
      refine w_iconst (v := 0) dX10_foldAll_249 (by decide) ?_
      refine w_istore dX10_foldAll_250 (lb rfl) ?_
      refine c10_foldAll_g hS0 hV (a := a) (c0 := c0) (by omega) (tN τ 1 + 1) 0 v _ _ _ (by omega) R (by omega) hf hK h43 hi1 hi2 hv h0 h2 h3 rfl (fun v L s G R hf hK h43 hi1 hi2 hv h0 h2 h3 => ?_)
      refine w_iinc dX10_foldAll_307 h3 (nI_1 _) (lb rfl) ?_
      refine w_goto (t := 241) dX10_foldAll_310 rfl ?_
      exact ih (a + 1) v _ _ _ (by omega) R (by omega) hf hK h43 hi1 hi2 (hv.imp (fun q => ⟨q.1, q.2.1, fun x y hx hy hd => q.2.2 x y hx hy (by unfold dn at *; omega)⟩) id) h0 h2 rfl kx
theorem c10_foldAll_e {s0 : rx_S} (hS0 : rx_in s0) {τ : tx_T} (hV : TV τ) {w : Bool}  : ∀ (d : Nat) (v : Int32) (L : mx_L) (s : rx_S) (G : mx_H), mS s + (if v = 1 then 1 else 0) < d → rx_R b0 O z1 z2 s G → mfk s0 s → NK s τ → (∀ x, x < 60 → rI s 1 43 x = -1) → (∀ x y, gA τ w x y → AS s x y) → (∀ x y, x < tN τ 1 → y < tN τ 1 → AS s x y → A0 τ w x y) → ((v = 0 ∧ (∀ x y, x < tN τ 1 → y < tN τ 1 → AS s x y → syA τ (AS s) x y)) ∨ v = 1) → L 0 = some (.ref (rA s 0 0)) → L 2 = some (.int v) → (∀ (L : mx_L) (s : rx_S) (G : mx_H), rx_R b0 O z1 z2 s G → mfk s0 s → NK s τ → (∀ x, x < 60 → rI s 1 43 x = -1) → (∀ x y, x < tN τ 1 → y < tN τ 1 → (AS s x y ↔ gA τ w x y)) → L 0 = some (.ref (rA s 0 0)) → mx_W (gt_P b0 mi E) mX10_foldAll 316 L [] G Q) → mx_W (gt_P b0 mi E) mX10_foldAll 233 L [] G Q := by
  intro d
  induction d with
  | zero => intro v L s G hd; exact absurd hd (Nat.not_lt_zero _)
  | succ d ih =>
    intro v L s G hd R hf hK h43 hi1 hi2 hv h0 h2 kx
    obtain ⟨hN, hKQ, hKV⟩ := id hK
    obtain ⟨hT, hL, hD, hA⟩ := id hN
    obtain ⟨hM, ⟨c1, c2, c13, c14, c20, c26⟩, hsec, hby, hsy, hre, hro, hba⟩ := id hT
    have hV0 := hV.1
    have hS : rx_in s := hf.inn hS0
    refine w_iload_n dX10_foldAll_233 h2 ?_
    refine w_if_eq (t := 316) dX10_foldAll_234 rfl (fun h234 => ?_) (fun h234 => ?_)
    ·
      have hx : ∀ x y, x < tN τ 1 → y < tN τ 1 → AS s x y → syA τ (AS s) x y := hv.elim (fun q => q.2) (fun q => absurd (h234.symm.trans q) (by decide))
      refine kx _ _ _ R hf hK h43 (fun x y hx1 hy1 => ⟨fun h => ⟨fun a b => a < tN τ 1 ∧ b < tN τ 1 ∧ AS s a b, ⟨hx1, hy1, h⟩, fun a b hab => ⟨hab.1, hab.2.1, hi2 a b hab.1 hab.2.1 hab.2.2, fun i hi x y hxx hyy => ?_⟩⟩, hi1 x y⟩) h0
      have hp := hx a b hab.1 hab.2.1 hab.2.2 i hi x y hxx hyy
      refine ⟨hp.1, hp.2.1, hp.2.2.1, hp.2.2.2.1, fun e => ⟨((hp.2.2.2.2 e).1).imp id (fun q => ⟨q.1, ?_, ?_, q.2⟩), (hp.2.2.2.2 e).2⟩⟩
      · exact at_lt hV (rl_lt hV hxx) q.1
      · exact at_lt hV (rl_lt hV hyy) (hp.2.2.2.1.symm.trans q.1)
    ·
      refine w_iconst (v := 0) dX10_foldAll_237 (by decide) ?_
      refine w_istore_n dX10_foldAll_238 (lb rfl) ?_
      refine w_iconst (v := 0) dX10_foldAll_239 (by decide) ?_
      refine w_istore_n dX10_foldAll_240 (lb rfl) ?_
      have hv1 : v = 1 := hv.elim (fun q => absurd q.1 h234) id
      rw [if_pos hv1] at hd
      refine c10_foldAll_f hS0 hV (c0 := mS s) (tN τ 1 + 1) 0 0 _ _ _ (by omega) R (by omega) hf hK h43 hi1 hi2 (Or.inl ⟨rfl, rfl, fun x y hx hy hd => absurd hd (by unfold dn; omega)⟩) h0 rfl rfl (fun v2 L s2 G R hf hK h43 hi1 hi2 hv h0 h2 => ?_)
      refine w_goto (t := 233) dX10_foldAll_313 rfl ?_
      rcases hv with ⟨q1, q2, q3⟩ | ⟨q1, q2⟩
      · subst q1
        exact ih 0 _ _ _ (by rw [if_neg (by decide)]; omega) R hf hK h43 hi1 hi2 (Or.inl ⟨rfl, fun x y hx hy h => q3 x y hx hy (by unfold dn; omega) h⟩) h0 h2 kx
      · subst q1
        exact ih 1 _ _ _ (by rw [if_pos rfl]; omega) R hf hK h43 hi1 hi2 (Or.inr rfl) h0 h2 kx
end
