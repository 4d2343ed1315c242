theorem vpre_stp {τ : tx_T} {w : Bool} {V : List (Nat × Nat)} {S : vS} {x k : Nat} : ∃ T, (vstp τ w V x S k).1 = S.1 ++ T := by
  unfold vstp
  cases (tT τ 21 k == nI x) && plB τ w x && (tT τ 23 k == 3) && (S.2 k).isNone && farB τ w V x k
  · exact ⟨[], by simp⟩
  · simp only [cond_true]
    unfold vneed
    cases fst1 (vmB τ S.1 x k) S.1.length with
    | some j => exact ⟨[], by simp⟩
    | none => exact ⟨[(x, k)], rfl⟩
theorem vpre_fo {f : vS → Nat → vS} (hf : ∀ S k, ∃ T, (f S k).1 = S.1 ++ T) (S : vS) (n : Nat) : ∃ T, (fo f S n).1 = S.1 ++ T := by
  induction n with
  | zero => exact ⟨[], by simp [fo]⟩
  | succ n ih =>
    obtain ⟨T, hT⟩ := ih
    obtain ⟨T2, hT2⟩ := hf (fo f S n) n
    exact ⟨T ++ T2, by rw [fo, hT2, hT]; simp⟩
theorem vpre_rnd {τ : tx_T} {w : Bool} {S : vS} (h : (vrnd τ w S).1.length = S.1.length) : (vrnd τ w S).1 = S.1 := by
  obtain ⟨T, hT⟩ := vpre_fo (f := vsec τ w S.1) (fun S k => vpre_fo (fun S k => vpre_stp) S _) S (tN τ 1)
  have hT' : (vrnd τ w S).1 = S.1 ++ T := hT
  rw [hT'] at h
  simp only [List.length_append] at h
  have : T = [] := List.eq_nil_of_length_eq_zero (by omega)
  rw [hT', this]; simp
theorem vPl_fo {τ : tx_T} {w : Bool} {V : List (Nat × Nat)} {S : vS} (h : vPl τ w S) {x n : Nat} : vPl τ w (fo (vstp τ w V x) S n) := fo_ind h (fun a k _ h => vPl_stp h)
theorem vPl_rnd {τ : tx_T} {w : Bool} {V : List (Nat × Nat)} {S : vS} (h : vPl τ w S) {n : Nat} : vPl τ w (fo (vsec τ w V) S n) := fo_ind h (fun a k _ h => vPl_fo h)
section
variable {b0 mi z1 z2 : Nat} {E : Nat → Nat} {O : Nat → Option mx_C} {s : rx_S} {G : mx_H} {Q : mx_O → mx_H → Prop}
theorem c10_veneerAll_x {s0 : rx_S} (hS0 : rx_in s0) {τ : tx_T} (hV : TV τ) {w : Bool} (hO : AO τ) {V : List (Nat × Nat)} (hvn : ∀ x, nvN V x ≤ 200) {tm : Nat} {S : vS} (hvv0 : vV τ S) (hvp0 : vPl τ w S)  : ∀ (d : Nat) (x : Nat) (v : Int32) (L : mx_L) (s : rx_S) (G : mx_H), tN τ 1 - x < d → rx_R b0 O z1 z2 s G → x ≤ tN τ 1 → mfk s0 s → NF s τ w → PL s τ w V → rX s 0 0 49 = .inl (.int (nI tm)) → VS s (fo (vsec τ w V) S x) → ((v = 0 ∧ (fo (vsec τ w V) S x).1.length = V.length) ∨ (v = 1 ∧ V.length < (fo (vsec τ w V) S x).1.length)) → L 0 = some (.ref (rA s 0 0)) → L 1 = some (.int v) → L 2 = some (.int (nI x)) → (∀ (v : Int32) (L : mx_L) (s : rx_S) (G : mx_H), rx_R b0 O z1 z2 s G → mfk s0 s → NF s τ w → PL s τ w V → rX s 0 0 49 = .inl (.int (nI tm)) → VS s (fo (vsec τ w V) S (tN τ 1)) → ((v = 0 ∧ (fo (vsec τ w V) S (tN τ 1)).1.length = V.length) ∨ (v = 1 ∧ V.length < (fo (vsec τ w V) S (tN τ 1)).1.length)) → L 0 = some (.ref (rA s 0 0)) → L 1 = some (.int v) → mx_W (gt_P b0 mi E) mX10_veneerAll 301 L [] G Q) → mx_W (gt_P b0 mi E) mX10_veneerAll 46 L [] G Q := by
  intro d
  induction d with
  | zero => intro x v L s G hd; exact absurd hd (Nat.not_lt_zero _)
  | succ d ih =>
    intro x v L s G hd R hx hf hF hP ht hW hv h0 h1 h2 kx
    obtain ⟨hK, hI⟩ := id hF
    obtain ⟨hN, hKQ, hKV⟩ := id hK
    obtain ⟨hT, hL, hD, hA⟩ := id hN
    obtain ⟨hM, ⟨c1, c2, c13, c14, c20, c26⟩, hsec, hby, hsy, hre, hro, hba⟩ := id hT
    have hV0 := hV.1
    have hS : rx_in s := hf.inn hS0
    refine w_iload_n dX10_veneerAll_46 h2 ?_
    refine w_aload_n dX10_veneerAll_47 h0 ?_
    refine r_geti  dX10_veneerAll_48 ft_9_165 R rfl (hS _ _ rfl) rfl (lb rfl) c2 ?_
    refine r_icmp_gen (t := 301) dX10_veneerAll_51 rfl (by omega) (by omega) (fun h51 => ?_) (fun h51 => ?_)
    ·
      obtain rfl : x = tN τ 1 := by omega
      exact kx v _ _ _ R hf hF hP ht hW hv h0 h1
    ·
      refine w_iconst (v := 0) dX10_veneerAll_54 (by decide) ?_
      refine w_istore_n dX10_veneerAll_55 (lb rfl) ?_
      refine c10_veneerAll_k hS0 hV hO hvn (vV_rnd hvv0 hx) (vPl_rnd hvp0) (x := x) (by omega) (tN τ 3 + 1) 0 v _ _ _ (by omega) R (by omega) hf hF hP ht hW hv h0 h1 h2 rfl (fun v L s G R hf hF hP ht hW hv h0 h1 h2 => ?_)
      refine w_iinc dX10_veneerAll_295 h2 (nI_1 _) (lb rfl) ?_
      refine w_goto (t := 46) dX10_veneerAll_298 rfl ?_
      exact ih (x + 1) v _ _ _ (by omega) R (by omega) hf hF hP ht hW hv h0 h1 rfl kx
theorem c10_veneerAll_r {s0 : rx_S} (hS0 : rx_in s0) {τ : tx_T} (hV : TV τ) {w : Bool} (hO : AO τ)  : ∀ (d : Nat) (f t : Nat) (S : vS) (v : Int32) (L : mx_L) (s : rx_S) (G : mx_H), f < d → rx_R b0 O z1 z2 s G → mfk s0 s → NF s τ w → VS s S → rX s 0 0 49 = .inl (.int (nI t)) → vV τ S → vPl τ w S → ((v = 0 ∧ vR τ w = (S, t) ∧ PL s τ w S.1) ∨ (v = 1 ∧ vrun τ w f S t = vR τ w ∧ 201 ≤ S.1.length + f)) → L 0 = some (.ref (rA s 0 0)) → L 1 = some (.int v) → (∀ (s' : rx_S) (G' : mx_H), rx_R b0 O z1 z2 s' G' → mfk s0 s' → NF s' τ w → VS s' (vR τ w).1 → rX s' 0 0 49 = .inl (.int (nI (vR τ w).2)) → vV τ (vR τ w).1 → vPl τ w (vR τ w).1 → PL s' τ w (vR τ w).1.1 → Q (.inl none) G') → mx_W (gt_P b0 mi E) mX10_veneerAll 34 L [] G Q := by
  intro d
  induction d with
  | zero => intro f t S v L s G hd; exact absurd hd (Nat.not_lt_zero _)
  | succ d ih =>
    intro f t S v L s G hd R hf hF hW ht hvv hvp hv h0 h1 kx
    obtain ⟨hK, hI⟩ := id hF
    obtain ⟨hN, hKQ, hKV⟩ := id hK
    obtain ⟨hT, hL, hD, hA⟩ := id hN
    obtain ⟨hM, ⟨c1, c2, c13, c14, c20, c26⟩, hsec, hby, hsy, hre, hro, hba⟩ := id hT
    have hV0 := hV.1
    have hS : rx_in s := hf.inn hS0
    refine w_iload_n dX10_veneerAll_34 h1 ?_
    refine w_if_eq (t := 304) dX10_veneerAll_35 rfl (fun h35 => ?_) (fun h35 => ?_)
    ·
      refine w_ret dX10_veneerAll_304 rfl ?_
      obtain ⟨q1, q2, q3⟩ : v = 0 ∧ vR τ w = (S, t) ∧ PL s τ w S.1 := hv.elim id (fun q => absurd (h35.symm.trans q.1) (by decide))
      rw [q2] at kx
      exact kx _ _ R hf hF hW ht hvv hvp q3
    ·
      refine w_aload_n dX10_veneerAll_38 h0 ?_
      refine r_inv0  dX10_veneerAll_39 mt_9_256 R rfl (hS _ _ rfl) rfl (lb rfl) (lb rfl) (lb rfl) (lb rfl) rfl (c10_placeAll R hS hV hF hvv hW ht (fun s1 G1 R1 hf1 hF1 hW1 ht1 hP1 => ⟨_, rfl, ?_⟩))
      have h0 : L 0 = some (.ref (rA s1 0 0)) := by rw [hf1.1]; exact h0
      refine w_iconst (v := 0) dX10_veneerAll_42 (by decide) ?_
      refine w_istore_n dX10_veneerAll_43 (lb rfl) ?_
      refine w_iconst (v := 0) dX10_veneerAll_44 (by decide) ?_
      refine w_istore_n dX10_veneerAll_45 (lb rfl) ?_
      obtain ⟨q1, q2, q3⟩ : v = 1 ∧ vrun τ w f S t = vR τ w ∧ 201 ≤ S.1.length + f := hv.elim (fun q => absurd q.1 h35) id
      have hsl := vV_len hvv
      obtain ⟨f, rfl⟩ : ∃ f', f = f' + 1 := ⟨f - 1, by omega⟩
      rw [vrun] at q2
      refine c10_veneerAll_x hS0 hV hO (vV_n hV hvv) (V := S.1) (tm := t + 1) hvv hvp (tN τ 1 + 1) 0 0 _ _ _ (by omega) R1 (by omega) (hf.tr hf1) hF1 hP1 ht1 hW1 (Or.inl ⟨rfl, rfl⟩) h0 rfl rfl (fun v L s G R hf hF hP ht hW hv h0 h1 => ?_)
      refine w_goto (t := 34) dX10_veneerAll_301 rfl ?_
      have hvv2 : vV τ (vrnd τ w S) := vV_rnd hvv (Nat.le_refl _)
      have hvp2 : vPl τ w (vrnd τ w S) := vPl_rnd hvp
      rcases hv with ⟨e1, e2⟩ | ⟨e1, e2⟩
      · have e3 : (vrnd τ w S).1.length = S.1.length := e2
        rw [if_pos e3] at q2
        exact ih f (t + 1) (vrnd τ w S) v _ _ _ (by omega) R hf hF hW ht hvv2 hvp2 (Or.inl ⟨e1, q2.symm, by rw [vpre_rnd e3]; exact hP⟩) h0 h1 kx
      · have e3 : S.1.length < (vrnd τ w S).1.length := e2
        rw [if_neg (by omega)] at q2
        exact ih f (t + 1) (vrnd τ w S) v _ _ _ (by omega) R hf hF hW ht hvv2 hvp2 (Or.inr ⟨e1, q2, by omega⟩) h0 h1 kx
theorem c10_veneerAll_i {s0 : rx_S} (hS0 : rx_in s0) {τ : tx_T} (hV : TV τ) {w : Bool}  : ∀ (d : Nat) (k : Nat) (L : mx_L) (s : rx_S) (G : mx_H), 200 - k < d → rx_R b0 O z1 z2 s G → k ≤ 200 → mfk s0 s → NF s τ w → rX s 0 0 50 = .inl (.int (nI 0)) → rX s 0 0 49 = .inl (.int (nI 0)) → (∀ j, j < k → rI s 1 53 j = -1) → L 0 = some (.ref (rA s 0 0)) → L 1 = some (.int (nI k)) → (∀ (L : mx_L) (s : rx_S) (G : mx_H), rx_R b0 O z1 z2 s G → mfk s0 s → NF s τ w → VS s ([], fun _ => none) → rX s 0 0 49 = .inl (.int (nI 0)) → L 0 = some (.ref (rA s 0 0)) → mx_W (gt_P b0 mi E) mX10_veneerAll 32 L [] G Q) → mx_W (gt_P b0 mi E) mX10_veneerAll 12 L [] G Q := by
  intro d
  induction d with
  | zero => intro k L s G hd; exact absurd hd (Nat.not_lt_zero _)
  | succ d ih =>
    intro k L s G hd R hk hf hF h50 ht hz h0 h1 kx
    obtain ⟨hK, hI⟩ := id hF
    obtain ⟨hN, hKQ, hKV⟩ := id hK
    obtain ⟨hT, hL, hD, hA⟩ := id hN
    obtain ⟨hM, ⟨c1, c2, c13, c14, c20, c26⟩, hsec, hby, hsy, hre, hro, hba⟩ := id hT
    have hV0 := hV.1
    have hS : rx_in s := hf.inn hS0
    refine w_iload_n dX10_veneerAll_12 h1 ?_
    refine w_sipush (v := nI 200) dX10_veneerAll_13 (by decide) ?_
    refine r_icmp_gen (t := 32) dX10_veneerAll_16 rfl (by omega) (by omega) (fun h16 => ?_) (fun h16 => ?_)
    ·
      obtain rfl : k = 200 := by omega
      exact kx _ _ _ R hf hF ⟨h50, fun i hi => absurd hi (Nat.not_lt_zero _), hz⟩ ht h0
    ·
      refine w_aload_n dX10_veneerAll_19 h0 ?_
      refine r_getr  dX10_veneerAll_20 ft_9_136 R rfl (hS _ _ rfl) rfl (lb rfl) (hM.1 53 (lb rfl) (lb rfl)) ?_
      refine w_iload_n dX10_veneerAll_23 h1 ?_
      refine w_iconst (v := (-1)) dX10_veneerAll_24 (by decide) ?_
      refine r_iast  dX10_veneerAll_25 R rfl (hS _ _ rfl) rfl rfl (by omega) (lb rfl) (fun G1 R1 => ?_)
      refine w_iinc dX10_veneerAll_26 h1 (nI_1 _) (lb rfl) ?_
      refine w_goto (t := 12) dX10_veneerAll_29 rfl ?_
      exact ih (k + 1) _ _ _ (by omega) R1 (by omega) hf.I (NF_I hF (by omega)) h50 ht (fun j hj => by
        rw [sI_at]
        by_cases e : j = k
        · rw [if_pos e]
        · rw [if_neg e]; exact hz j (by omega)) h0 rfl kx
theorem c10_veneerAll (R : rx_R b0 O z1 z2 s G) (hS : rx_in s) {τ : tx_T} (hV : TV τ) {w : Bool} (hF : NF s τ w) (hO : AO τ) (q : ∀ (s' : rx_S) (G' : mx_H), rx_R b0 O z1 z2 s' G' → mfk s s' → NF s' τ w → VS s' (vR τ w).1 → rX s' 0 0 49 = .inl (.int (nI (vR τ w).2)) → vV τ (vR τ w).1 → vPl τ w (vR τ w).1 → PL s' τ w (vR τ w).1.1 → Q (.inl none) G') : mx_W (gt_P b0 mi E) mX10_veneerAll 0 (mx_en 0 [.ref (rA s 0 0)]) [] G Q := by
  have hM := hF.1.1.1.1
  refine w_aload_n dX10_veneerAll_0 rfl ?_
  refine w_iconst (v := 0) dX10_veneerAll_1 (by decide) ?_
  refine r_puti  dX10_veneerAll_2 ft_9_227 R rfl (hS _ _ rfl) rfl (lb rfl) (fun h => by cases h) rfl rfl (fun G1 R1 => ?_)
  refine w_aload_n dX10_veneerAll_5 rfl ?_
  refine w_iconst (v := 0) dX10_veneerAll_6 (by decide) ?_
  refine r_puti  dX10_veneerAll_7 ft_9_230 R1 rfl (hS _ _ rfl) rfl (lb rfl) (fun h => by cases h) rfl rfl (fun G2 R2 => ?_)
  refine w_iconst (v := 0) dX10_veneerAll_10 (by decide) ?_
  refine w_istore_n dX10_veneerAll_11 (lb rfl) ?_
  refine c10_veneerAll_i hS hV (w := w) 201 0 _ _ _ (by omega) R2 (by omega) (mfk.rf s).X.X (NF_X (NF_X hF (by omega) (by omega) rfl) (by omega) (by omega) rfl) ((sX_p (by decide)).trans sX_s) sX_s (fun j hj => absurd hj (Nat.not_lt_zero _)) rfl rfl (fun L s1 G R hf hF hW ht h0 => ?_)
  refine w_iconst (v := 1) dX10_veneerAll_32 (by decide) ?_
  refine w_istore_n dX10_veneerAll_33 (lb rfl) ?_
  exact c10_veneerAll_r hS hV hO 202 201 0 ([], fun _ => none) 1 _ _ _ (by omega) R hf hF hW ht (vV_nil τ) (fun i hi => absurd hi (Nat.not_lt_zero _)) (Or.inr ⟨rfl, rfl, by simp⟩) h0 rfl q
end
