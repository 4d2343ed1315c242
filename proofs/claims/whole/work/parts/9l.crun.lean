theorem VI_nil (τ : tx_T) (w : Bool) : VI τ w ([], fun _ => none) := ⟨vV_nil τ, fun k i h => (by cases h), fun i j hi => absurd hi (Nat.not_lt_zero _), fun k i h => (by cases h)⟩
section
variable {b0 mi z1 z2 : Nat} {E : Nat → Nat} {O : Nat → Option mx_C} {s : rx_S} {G : mx_H} {Q : mx_O → mx_H → Prop}
theorem c3_ao {s0 : rx_S} {τ : tx_T} (hT0 : CT E s0 τ) (hS0 : rx_in s0) (hV : TV τ) (hE : WE b0 O E) {w : Bool} (hF0 : FD E s0 τ w) (hO : AO τ) {V : List (Nat × Nat)} (hvn : ∀ x, nvN V x ≤ 200) {tm : Nat} {x : Nat} (hx : x < tN τ 1) (hpl : plB τ w x = true) {S0 : vS} (R : rx_R b0 O z1 z2 s G) (hf : cf wP s0 s) (hv : VC s τ S0) (hvi : VI τ w S0) (hLO : LO s τ w V tm) (q : ∀ (s' : rx_S) (G' : mx_H), rx_R b0 O z1 z2 s' G' → cf wP s0 s' → VC s' τ (vsec τ w V S0 x) → VI τ w (vsec τ w V S0 x) → LO s' τ w V tm → Q (.inl none) G') : mx_W (gt_P b0 mi E) mX3_addVeneersOf 0 (mx_en 0 [.ref (rA s 7 0), .ref (rA s 20 x)]) [] G Q := by
  refine w_iconst (v := nI 0) dX3_addVeneersOf_0 (by decide) ?_
  refine w_istore_n dX3_addVeneersOf_1 (lb rfl) ?_
  rw [vsec_L hpl] at q
  exact c3_ao_l hT0 hS0 hV hE hF0 hO hvn hx hpl _ 0 _ s _ (Nat.lt_succ_self _) R (Nat.zero_le _) hf hv hvi hLO rfl rfl rfl q
theorem c3_av_l {s0 : rx_S} {τ : tx_T} (hT0 : CT E s0 τ) (hS0 : rx_in s0) (hV : TV τ) (hE : WE b0 O E) {w : Bool} (hF0 : FD E s0 τ w) (hO : AO τ) {V : List (Nat × Nat)} (hvn : ∀ x, nvN V x ≤ 200) {tm n0 : Nat} (hn0 : n0 ≤ 200) {S0 : vS}  : ∀ (d : Nat) (t : Nat) (L : mx_L) (s : rx_S) (G : mx_H), tN τ 1 - t < d → rx_R b0 O z1 z2 s G → t ≤ tN τ 1 → cf wP s0 s → VC s τ (fo (vsec τ w V) S0 t) → VI τ w (fo (vsec τ w V) S0 t) → LO s τ w V tm → L 0 = some (.ref (rA s 7 0)) → L 1 = some (.ref (rA s 8 0)) → L 2 = some (.int (nI n0)) → L 3 = some (.int (nI t)) → (∀ (s' : rx_S) (G' : mx_H), rx_R b0 O z1 z2 s' G' → cf wP s0 s' → VC s' τ (fo (vsec τ w V) S0 (tN τ 1)) → VI τ w (fo (vsec τ w V) S0 (tN τ 1)) → LO s' τ w V tm → Q (.inl (some (.int (b32 (!Nat.beq (fo (vsec τ w V) S0 (tN τ 1)).1.length n0))))) G') → mx_W (gt_P b0 mi E) mX3_addVeneers 7 L [] G Q := by
  intro d
  induction d with
  | zero => intro t L s G hd; exact absurd hd (Nat.not_lt_zero _)
  | succ d ih =>
    intro t L s G hd R ht hf hv hvi hLO h0 h1 h2 h3 kx
    have hV0 := hV.1
    have hT := CT_cf hT0 hS0 hf
    have hS := hf.inn hS0
    have hF := FD_cf hF0 hf
    refine w_iload_n dX3_addVeneers_7 h3 ?_
    refine w_aload_n dX3_addVeneers_8 h1 ?_
    refine r_inv0  dX3_addVeneers_9 mt_3_52 R rfl (hS _ _ rfl) rfl (lb rfl) (lb rfl) (lb rfl) (lb rfl) rfl (c_lsize R rfl (hS _ _ rfl) (cT_l0 hT).2.1 ⟨_, rfl, ?_⟩)
    refine r_icmp_gen (t := 47) dX3_addVeneers_12 rfl (by omega) (by omega) (fun h12 => ?_) (fun h12 => ?_)
    ·
      obtain rfl : t = tN τ 1 := by omega
      have hln := vV_len hvi.1
      refine w_aload_n dX3_addVeneers_47 h0 ?_
      refine r_geti  dX3_addVeneers_48 ft_3_32 R rfl (hS _ _ rfl) rfl (lb rfl) hv.2.2 ?_
      refine w_iload_n dX3_addVeneers_51 h2 ?_
      refine r_icmp_eqn (t := 59) dX3_addVeneers_52 rfl (by omega) (by omega) (fun h52 => ?_) (fun h52 => ?_)
      ·
        refine w_iconst (v := 0) dX3_addVeneers_59 (by decide) ?_
        refine w_iret dX3_addVeneers_60 rfl rfl ?_
        have eb : Nat.beq (fo (vsec τ w V) S0 (tN τ 1)).1.length n0 = true := by rw [h52]; simp
        have kx9 := kx _ _ R hf hv hvi hLO
        rw [eb] at kx9; exact kx9
      ·
        refine w_iconst (v := 1) dX3_addVeneers_55 (by decide) ?_
        refine w_goto (t := 60) dX3_addVeneers_56 rfl ?_
        refine w_iret dX3_addVeneers_60 rfl rfl ?_
        have eb : Nat.beq (fo (vsec τ w V) S0 (tN τ 1)).1.length n0 = false := by
          cases e : Nat.beq (fo (vsec τ w V) S0 (tN τ 1)).1.length n0
          · rfl
          · exact absurd (Nat.eq_of_beq_eq_true e) h52
        have kx9 := kx _ _ R hf hv hvi hLO
        rw [eb] at kx9; exact kx9
    ·
      have htn : t < tN τ 1 := by omega
      have hus := cT_Su hT htn
      refine w_aload_n dX3_addVeneers_15 h1 ?_
      refine w_iload_n dX3_addVeneers_16 h3 ?_
      refine r_inv1  dX3_addVeneers_17 mt_3_58 R rfl (hS _ _ rfl) rfl (lb rfl) (lb rfl) (lb rfl) (lb rfl) rfl (c_lget R rfl (hS _ _ rfl) (cT_l0 hT) htn ⟨_, rfl, ?_⟩)
      refine r_cast dX3_addVeneers_20 qt_3_69 R rfl hus rfl (by decide) ?_
      refine r_inv0  dX3_addVeneers_23 mt_3_68 R rfl hus rfl (lb rfl) (lb rfl) (lb rfl) (lb rfl) rfl (c5_plc R hS hT hV hF htn (fun e23 => ⟨_, rfl, ?_⟩) (fun e23 => ⟨_, rfl, ?_⟩))
      ·
        refine w_if_eq (t := 41) dX3_addVeneers_26 rfl (fun h => absurd h (by decide)) (fun _ => ?_)
        refine w_aload_n dX3_addVeneers_29 h0 ?_
        refine w_aload_n dX3_addVeneers_30 h1 ?_
        refine w_iload_n dX3_addVeneers_31 h3 ?_
        refine r_inv1  dX3_addVeneers_32 mt_3_58 R rfl (hS _ _ rfl) rfl (lb rfl) (lb rfl) (lb rfl) (lb rfl) rfl (c_lget R rfl (hS _ _ rfl) (cT_l0 hT) htn ⟨_, rfl, ?_⟩)
        refine r_cast dX3_addVeneers_35 qt_3_69 R rfl hus rfl (by decide) ?_
        refine r_inv1  dX3_addVeneers_38 mt_3_192 R rfl (hS _ _ rfl) rfl (lb rfl) (lb rfl) (lb rfl) (lb rfl) rfl (c3_ao hT0 hS0 hV hE hF0 hO hvn htn e23 R hf hv hvi hLO (fun s2 G2 R2 f2 v2 i2 l2 => ⟨_, rfl, ?_⟩))
        refine w_iinc dX3_addVeneers_41 h3 (nI_1 _) (lb rfl) ?_
        refine w_goto (t := 7) dX3_addVeneers_44 rfl ?_
        exact ih (t + 1) _ _ _ (by omega) R2 (by omega) f2 v2 i2 l2 (by rw [f2.1, ← hf.1]; exact h0) (by rw [f2.1, ← hf.1]; exact h1) h2 rfl kx
      ·
        refine w_if_eq (t := 41) dX3_addVeneers_26 rfl (fun _ => ?_) (fun h => absurd (by decide) h)
        refine w_iinc dX3_addVeneers_41 h3 (nI_1 _) (lb rfl) ?_
        refine w_goto (t := 7) dX3_addVeneers_44 rfl ?_
        have e9 : fo (vsec τ w V) S0 (t + 1) = fo (vsec τ w V) S0 t := vsec_no e23
        exact ih (t + 1) _ _ _ (by omega) R (by omega) hf (by rw [e9]; exact hv) (by rw [e9]; exact hvi) hLO h0 h1 h2 rfl kx
theorem c3_av {s0 : rx_S} {τ : tx_T} (hT0 : CT E s0 τ) (hS0 : rx_in s0) (hV : TV τ) (hE : WE b0 O E) {w : Bool} (hF0 : FD E s0 τ w) (hO : AO τ) {S : vS} {tm : Nat} (R : rx_R b0 O z1 z2 s G) (hf : cf wP s0 s) (hv : VC s τ S) (hvi : VI τ w S) (hLO : LO s τ w S.1 tm) (q : ∀ (s' : rx_S) (G' : mx_H), rx_R b0 O z1 z2 s' G' → cf wP s0 s' → VC s' τ (vrnd τ w S) → VI τ w (vrnd τ w S) → LO s' τ w S.1 tm → Q (.inl (some (.int (b32 (!Nat.beq (vrnd τ w S).1.length S.1.length))))) G') : mx_W (gt_P b0 mi E) mX3_addVeneers 0 (mx_en 0 [.ref (rA s 7 0), .ref (rA s 8 0)]) [] G Q := by
  have hV0 := hV.1
  have hT := CT_cf hT0 hS0 hf
  have hS := hf.inn hS0
  have hF := FD_cf hF0 hf
  refine w_aload_n dX3_addVeneers_0 rfl ?_
  refine r_geti  dX3_addVeneers_1 ft_3_32 R rfl (hS _ _ rfl) rfl (lb rfl) hv.2.2 ?_
  refine w_istore_n dX3_addVeneers_4 (lb rfl) ?_
  refine w_iconst (v := nI 0) dX3_addVeneers_5 (by decide) ?_
  refine w_istore_n dX3_addVeneers_6 (lb rfl) ?_
  have hln := vV_len hvi.1
  exact c3_av_l hT0 hS0 hV hE hF0 hO (VI_nv hvi hV) (by omega) _ 0 _ s _ (Nat.lt_succ_self _) R (Nat.zero_le _) hf hv hvi hLO rfl rfl rfl rfl q
theorem c3_run_l {s0 : rx_S} {τ : tx_T} (hT0 : CT E s0 τ) (hS0 : rx_in s0) (hV : TV τ) (hE : WE b0 O E) {w : Bool} (hF0 : FD E s0 τ w) (hO : AO τ)  : ∀ (d : Nat) (r : Nat) (S : vS) (m : Bool) (L : mx_L) (s : rx_S) (G : mx_H), 202 - r < d → rx_R b0 O z1 z2 s G → r ≤ 201 → cf wP s0 s → VC s τ S → VI τ w S → rX s 7 0 5 = .inl (.int (nI r)) → (m = true → vR τ w = vrun τ w (201 - r) S r ∧ r ≤ S.1.length) → (m = false → vR τ w = (S, r) ∧ LO s τ w S.1 r) → L 0 = some (.ref (rA s 7 0)) → L 1 = some (.ref (rA s 3 0)) → L 2 = some (.int (b32 m)) → L 3 = some (.int (nI r)) → (∀ (s' : rx_S) (G' : mx_H), rx_R b0 O z1 z2 s' G' → cf wP s0 s' → VC s' τ (vR τ w).1 → VI τ w (vR τ w).1 → LO s' τ w (vR τ w).1.1 (vR τ w).2 → Q (.inl none) G') → mx_W (gt_P b0 mi E) mX3_run 19 L [] G Q := by
  intro d
  induction d with
  | zero => intro r S m L s G hd; exact absurd hd (Nat.not_lt_zero _)
  | succ d ih =>
    intro r S m L s G hd R hr hf hv hvi h5 hm hn h0 h1 h2 h3 kx
    have hV0 := hV.1
    have hT := CT_cf hT0 hS0 hf
    have hS := hf.inn hS0
    have hF := FD_cf hF0 hf
    refine w_iload_n dX3_run_19 h2 ?_
    refine w_if_eq (t := 50) dX3_run_20 rfl (fun h20 => ?_) (fun h20 => ?_)
    ·
      refine w_ret dX3_run_50 rfl ?_
      obtain ⟨n1, n2⟩ := hn (b32_eq h20)
      rw [n1] at kx
      exact kx _ _ R hf hv hvi n2
    ·
      refine w_iload_n dX3_run_23 h3 ?_
      refine w_sipush (v := nI 200) dX3_run_24 (by decide) ?_
      refine r_icmp_gtn (t := 50) dX3_run_27 rfl (by omega) (by omega) (fun h => by have := (hm (b32_ne h20)).2; have := vV_len hvi.1; omega) (fun h27 => ?_)
      refine w_aload_n dX3_run_30 h0 ?_
      refine w_aload_n dX3_run_31 h1 ?_
      refine r_inv1  dX3_run_32 mt_3_39 R rfl (hS _ _ rfl) rfl (lb rfl) (lb rfl) (lb rfl) (lb rfl) rfl (c3_layOut hT0 hS0 hV hE hF0 hvi R hf hv h5 (fun s2 G2 R2 f2 v2 p2 k2 t2 e2 => ⟨_, rfl, ?_⟩))
      have e2s : rA s2 = rA s := f2.1.trans hf.1.symm
      have hT2 := CT_cf hT0 hS0 f2
      have hS2 := f2.inn hS0
      have h0a : L 0 = some (.ref (rA s2 7 0)) := by rw [e2s]; exact h0
      have h1a : L 1 = some (.ref (rA s2 3 0)) := by rw [e2s]; exact h1
      refine w_aload_n dX3_run_35 h0a ?_
      refine w_aload_n dX3_run_36 h1a ?_
      refine r_getr  dX3_run_37 ft_3_42 R2 rfl (hS2 _ _ rfl) rfl (lb rfl) (cT_s hT2 3 0 rfl) ?_
      refine r_inv1  dX3_run_40 mt_3_48 R2 rfl (hS2 _ _ rfl) rfl (lb rfl) (lb rfl) (lb rfl) (lb rfl) rfl (c3_av hT0 hS0 hV hE hF0 hO R2 f2 v2 hvi ⟨p2, k2, e2, t2⟩ (fun s3 G3 R3 f3 v3 i3 l3 => ⟨_, rfl, ?_⟩))
      refine w_istore_n dX3_run_43 (lb rfl) ?_
      refine w_iinc dX3_run_44 h3 (nI_1 _) (lb rfl) ?_
      refine w_goto (t := 19) dX3_run_47 rfl ?_
      have e3s : rA s3 = rA s := f3.1.trans hf.1.symm
      obtain ⟨m1, m2⟩ := hm (b32_ne h20)
      have hr2 := vV_len hvi.1
      have ev : vR τ w = if (vrnd τ w S).1.length = S.1.length then (vrnd τ w S, r + 1) else vrun τ w (201 - (r + 1)) (vrnd τ w S) (r + 1) := by
        rw [m1, show 201 - r = (201 - (r + 1)) + 1 by omega]; rfl
      have hpre := vpre_fo (f := vsec τ w S.1) (fun S k => vpre_fo (fun S k => vpre_stp) S _) S (tN τ 1)
      refine ih (r + 1) (vrnd τ w S) (!Nat.beq (vrnd τ w S).1.length S.1.length) _ _ _ (by omega) R3 (by omega) f3 v3 i3 l3.2.2.2 (fun e => ?_) (fun e => ?_) (by rw [e3s]; exact h0) (by rw [e3s]; exact h1) rfl rfl kx
      · have hne : ¬ (vrnd τ w S).1.length = S.1.length := fun q => by rw [q] at e; simp at e
        refine ⟨ev.trans (if_neg hne), ?_⟩
        obtain ⟨T, hT9⟩ := hpre
        have hT9 : (vrnd τ w S).1 = S.1 ++ T := hT9
        rw [hT9] at hne ⊢
        simp only [List.length_append] at hne ⊢
        omega
      · have heq : (vrnd τ w S).1.length = S.1.length := by
          have e : Nat.beq (vrnd τ w S).1.length S.1.length = true := by simpa using e
          exact Nat.eq_of_beq_eq_true e
        exact ⟨ev.trans (if_pos heq), by rw [vpre_rnd heq]; exact l3⟩
theorem c3_run (R : rx_R b0 O z1 z2 s G) (hS : rx_in s) {τ : tx_T} (hT : CT E s τ) (hV : TV τ) {w : Bool} (hF : FD E s τ w) (hE : WE b0 O E) (hO : AO τ) (q : ∀ (s' : rx_S) (G' : mx_H), rx_R b0 O z1 z2 s' G' → cf wP s s' → VC s' τ (vR τ w).1 → VI τ w (vR τ w).1 → LO s' τ w (vR τ w).1.1 (vR τ w).2 → Q (.inl none) G') : mx_W (gt_P b0 mi E) mX3_run 0 (mx_en 0 [.ref (rA s 7 0), .ref (rA s 3 0)]) [] G Q := by
  refine w_aload_n dX3_run_0 rfl ?_
  refine w_iconst (v := 0) dX3_run_1 (by decide) ?_
  refine r_puti  dX3_run_2 ft_3_28 R rfl (hS _ _ rfl) rfl (lb rfl) (fun h => by cases h) rfl rfl (fun G1 R1 => ?_)
  refine w_aload_n dX3_run_5 rfl ?_
  refine w_iconst (v := 0) dX3_run_6 (by decide) ?_
  refine r_puti  dX3_run_7 ft_3_32 R1 rfl (hS _ _ rfl) rfl (lb rfl) (fun h => by cases h) rfl rfl (fun G2 R2 => ?_)
  refine w_aload_n dX3_run_10 rfl ?_
  refine w_aload_n dX3_run_11 rfl ?_
  refine r_inv1  dX3_run_12 mt_3_35 R2 rfl (hS _ _ rfl) rfl (lb rfl) (lb rfl) (lb rfl) (lb rfl) rfl (c3_drop (s := sX (sX s 7 0 5 (.inl (.int 0))) 7 0 6 (.inl (.int 0))) hT hS hV hE hF R2 (cf.rf wP s).X.X ⟨(sX_p (by omega)).trans sX_s, sX_s⟩ (fun s2 G2 R2 f2 v2 t2 => ⟨_, rfl, ?_⟩))
  refine w_iconst (v := 1) dX3_run_15 (by decide) ?_
  refine w_istore_n dX3_run_16 (lb rfl) ?_
  refine w_iconst (v := nI 0) dX3_run_17 (by decide) ?_
  refine w_istore_n dX3_run_18 (lb rfl) ?_
  exact c3_run_l hT hS hV hE hF hO _ 0 _ true _ s2 _ (Nat.lt_succ_self _) R2 (by omega) f2 v2 (VI_nil τ w) t2 (fun _ => ⟨rfl, Nat.zero_le _⟩) (fun e => by cases e) (by rw [f2.1]; rfl) (by rw [f2.1]; rfl) rfl rfl q
theorem wr_r {τ : tx_T} (hV : TV τ) {w : Bool} {S : vS} (hvi : VI τ w S) {k : Nat} (hk : k < tN τ 3) : -2 ^ 62 ≤ wrI τ w S k ∧ wrI τ w S k < 2 ^ 62 := by
  have rk := hV.2.2.2.1 k hk
  have cx := clI rk.1.1
  have cy := clI rk.2.2.2.1.1
  have hva := vaN_le hV (w := w) (VI_nv hvi hV) (y := cl (tT τ 24 k)) (by omega)
  have hpl := plN_le hV (w := w) (VI_nv hvi hV) (x := cl (tT τ 21 k)) (by omega)
  have h25a := Int32.toInt_lt (tT τ 25 k)
  have h25b := Int32.le_toInt (tT τ 25 k)
  have hln := vV_len hvi.1
  have hV0 := hV.1
  have hzr := (hV.2.1 (cl (tT τ 21 k)) (by omega)).2.2.1
  have hzc := clI hzr.1
  have ht : -2 ^ 60 ≤ toI τ w S k ∧ toI τ w S k < 2 ^ 60 := by
    unfold toI
    cases S.2 k with
    | none => unfold vvI; constructor <;> simp only <;> omega
    | some i =>
      simp only
      unfold vpN
      have h1 := upN_le (plN τ w S.1 (cl (tT τ 21 k)) + cl (tT τ 5 (cl (tT τ 21 k)))) (a := 2) (by omega)
      have h2 : (S.1.take i).countP (fun e => Nat.beq e.1 (cl (tT τ 21 k))) ≤ S.1.length := Nat.le_trans List.countP_le_length (by rw [List.length_take]; omega)
      constructor <;> omega
  unfold wrI
  split <;> omega
theorem c3_mf_l {s : rx_S} {G : mx_H} (R : rx_R b0 O z1 z2 s G) (hS : rx_in s) {τ : tx_T} (hT : CT E s τ) (hV : TV τ) {w : Bool} (hF : FD E s τ w) (hE : WE b0 O E) (hO : AO τ) {S : vS} (hvi : VI τ w S) (hv : VC s τ S) (hP : PC s τ w S.1) (hES : ES s τ w S.1) (q : Q (.inl (some (.int (oI (fst1 (f6B τ w S) (tN τ 3)))))) G) : ∀ (d : Nat) (t : Nat) (L : mx_L), tN τ 3 - t < d → t ≤ tN τ 3 → (∀ a, a < t → f6B τ w S a = false) → L 0 = some (.ref (rA s 7 0)) → L 1 = some (.ref (rA s 8 2)) → L 2 = some (.int (nI t)) → mx_W (gt_P b0 mi E) mX3_firstMisfit 2 L [] G Q := by
  intro d
  induction d with
  | zero => intro t L hd; exact absurd hd (Nat.not_lt_zero _)
  | succ d ih =>
    intro t L hd ht hb h0 h1 h2
    have hV0 := hV.1
    refine w_iload_n dX3_firstMisfit_2 h2 ?_
    refine w_aload_n dX3_firstMisfit_3 h1 ?_
    refine r_inv0  dX3_firstMisfit_4 mt_3_52 R rfl (hS _ _ rfl) rfl (lb rfl) (lb rfl) (lb rfl) (lb rfl) rfl (c_lsize R rfl (hS _ _ rfl) (cT_l2 hT).2.1 ⟨_, rfl, ?_⟩)
    refine r_icmp_gen (t := 52) dX3_firstMisfit_7 rfl (by omega) (by omega) (fun h7 => ?_) (fun h7 => ?_)
    ·
      refine w_iconst (v := (-1)) dX3_firstMisfit_52 (by decide) ?_
      refine w_iret dX3_firstMisfit_53 rfl rfl ?_
      obtain rfl : t = tN τ 3 := by omega
      rw [show fst1 (f6B τ w S) _ = none from fst1_none.mpr hb] at q; exact q
    ·
      have htn : t < tN τ 3 := by omega
      have rk := hV.2.2.2.1 t htn
      have cx := clI rk.1.1
      have cy := clI rk.2.2.2.1.1
      have ct := clI rk.2.2.1.1
      have hx : cl (tT τ 21 t) < tN τ 1 := by omega
      have ht5 : cl (tT τ 23 t) < 5 := by omega
      have etk : nI (cl (tT τ 23 t)) = tT τ 23 t := nIcl rk.2.2.1.1
      refine w_aload_n dX3_firstMisfit_10 h1 ?_
      refine w_iload_n dX3_firstMisfit_11 h2 ?_
      refine r_inv1  dX3_firstMisfit_12 mt_3_58 R rfl (hS _ _ rfl) rfl (lb rfl) (lb rfl) (lb rfl) (lb rfl) rfl (c_lget R rfl (hS _ _ rfl) (cT_l2 hT) htn ⟨_, rfl, ?_⟩)
      refine r_cast dX3_firstMisfit_15 qt_3_62 R rfl (cT_Ru hT htn) rfl (by decide) ?_
      refine w_astore_n dX3_firstMisfit_18 (lb rfl) ?_
      refine w_aload_n dX3_firstMisfit_19 rfl ?_
      refine r_getr  dX3_firstMisfit_20 ft_3_64 R rfl (cT_Ru hT htn) rfl (lb rfl) (cT_R hT htn 0 (lb rfl)) ?_
      refine r_inv0  dX3_firstMisfit_23 mt_3_68 R rfl (cT_Su hT hx) rfl (lb rfl) (lb rfl) (lb rfl) (lb rfl) rfl (c5_plc R hS hT hV hF hx (fun e23 => ⟨_, rfl, ?_⟩) (fun e23 => ⟨_, rfl, ?_⟩))
      ·
        refine w_if_eq (t := 46) dX3_firstMisfit_26 rfl (fun h => absurd h (by decide)) (fun _ => ?_)
        refine w_aload_n dX3_firstMisfit_29 rfl ?_
        refine r_geti  dX3_firstMisfit_30 ft_3_74 R rfl (cT_Ru hT htn) rfl (lb rfl) (show rX s 25 t 2 = .inl (.ref (E (cl (tT τ 23 t)))) from cT_R hT htn 2 (lb rfl)) ?_
        refine w_aload_n dX3_firstMisfit_33 h0 ?_
        refine w_aload_n dX3_firstMisfit_34 rfl ?_
        refine r_inv1  dX3_firstMisfit_35 mt_3_78 R rfl (hS _ _ rfl) rfl (lb rfl) (lb rfl) (lb rfl) (lb rfl) rfl (c3_aw R hS hT hV hF hE hvi hv hP hES htn e23 (fun ha => hO t htn (by unfold plB at e23; rw [Bool.and_eq_true] at e23; exact e23.1) ha) ⟨_, rfl, ?_⟩)
        refine r_invE1 dX3_firstMisfit_38 mt_3_82 hE.2.2 (show cl (tT τ 23 t) < 5 by omega) rfl (lb rfl) (lb rfl) (lb rfl) (lb rfl) rfl (c8_fits hE.2.2 (by omega) (fun e38 => ⟨_, rfl, ?_⟩) (fun e38 => ⟨_, rfl, ?_⟩))
        ·
          have hrg := wr_r hV hvi htn
          rw [ofInt_i64 _ hrg.1 hrg.2] at e38
          have efit := (fit_t ht5 _).mp e38
          rw [etk] at efit
          refine w_if_ne (t := 46) dX3_firstMisfit_41 rfl (fun _ => ?_) (fun h => absurd (by decide) h)
          refine w_iinc dX3_firstMisfit_46 h2 (nI_1 _) (lb rfl) ?_
          refine w_goto (t := 2) dX3_firstMisfit_49 rfl ?_
          have hF6 : f6B τ w S t = false := by unfold f6B; rw [fitB_t.mpr efit]; simp
          exact ih (t + 1) _ (by omega) (by omega) (fun a ha => by
            by_cases e : a = t
            · rw [e]; exact hF6
            · exact hb a (by omega)) h0 h1 rfl
        ·
          have hrg := wr_r hV hvi htn
          rw [ofInt_i64 _ hrg.1 hrg.2] at e38
          have efit : ¬ fitP (tT τ 23 t) (wrI τ w S t) := fun h => e38 ((fit_t ht5 _).mpr (by rw [etk]; exact h))
          refine w_if_ne (t := 46) dX3_firstMisfit_41 rfl (fun h => absurd h (by decide)) (fun _ => ?_)
          refine w_iload_n dX3_firstMisfit_44 h2 ?_
          refine w_iret dX3_firstMisfit_45 rfl rfl ?_
          have hF6 : f6B τ w S t = true := by unfold f6B; rw [e23, show fitB τ w S t = false from by cases e : fitB τ w S t with | false => rfl | true => exact absurd (fitB_t.mp e) efit]; rfl
          rw [show fst1 (f6B τ w S) _ = some t from fst1_some.mpr ⟨htn, hF6, hb⟩] at q; exact q
      ·
        refine w_if_eq (t := 46) dX3_firstMisfit_26 rfl (fun _ => ?_) (fun h => absurd (by decide) h)
        refine w_iinc dX3_firstMisfit_46 h2 (nI_1 _) (lb rfl) ?_
        refine w_goto (t := 2) dX3_firstMisfit_49 rfl ?_
        have hF6 : f6B τ w S t = false := by unfold f6B; rw [e23]; rfl
        exact ih (t + 1) _ (by omega) (by omega) (fun a ha => by
          by_cases e : a = t
          · rw [e]; exact hF6
          · exact hb a (by omega)) h0 h1 rfl
theorem c3_misfit (R : rx_R b0 O z1 z2 s G) (hS : rx_in s) {τ : tx_T} (hT : CT E s τ) (hV : TV τ) {w : Bool} (hF : FD E s τ w) (hE : WE b0 O E) (hO : AO τ) {S : vS} (hvi : VI τ w S) (hv : VC s τ S) (hP : PC s τ w S.1) (hES : ES s τ w S.1) (q : Q (.inl (some (.int (oI (fst1 (f6B τ w S) (tN τ 3)))))) G) : mx_W (gt_P b0 mi E) mX3_firstMisfit 0 (mx_en 0 [.ref (rA s 7 0), .ref (rA s 8 2)]) [] G Q := by
  refine w_iconst (v := nI 0) dX3_firstMisfit_0 (by decide) ?_
  refine w_istore_n dX3_firstMisfit_1 (lb rfl) ?_
  exact c3_mf_l R hS hT hV hF hE hO hvi hv hP hES q _ 0 _ (Nat.lt_succ_self _) (Nat.zero_le _) (fun a ha => absurd ha (Nat.not_lt_zero _)) rfl rfl rfl
end
