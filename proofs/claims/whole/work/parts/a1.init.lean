/-! ===== Constructors ===== -/
theorem ci_i {b0 mi z1 z2 : Nat} {E : Nat → Nat} {O : Nat → Option mx_C} {s0 s : rx_S} {G : mx_H} {M : mx_M} {pc : Nat} {L : mx_L} {st : List Value} {Q : mx_O → mx_H → Prop} {r0 : Nat} {P : Nat → Nat → Prop} {ρ : Nat → Nat × Nat} {K : Nat → Bool} {V : Nat → rx_V} (hinj : ∀ f g, ρ f = ρ g → f = g) (hp0 : P r0 0) (h0 : ∀ f, ρ f ≠ (r0, 0)) {f rc ic n j c N : Nat} {ty : FieldType} (h : pK (E 6) s0 s r0 P ρ K V) (hK : K f = false) (hq : ρ f = (rc, ic)) (hp : P rc ic) (hk : rx_k rc = none) (ht : ∀ y, rx_t y rc ic = (0, n)) (c1 : cdX (E 6) (rc, ic) = fun _ => .inl .null) (c2 : cdI (rc, ic) = fun _ => 0) (c3 : cdL (rc, ic) = fun _ => 0) (h9 : rc ≠ 9) (hn : n ≤ 1000000) (hd : decode (mx_mb M) pc = .ok (.newarray .int, 2)) (hd2 : decode (mx_mb M) (pc + 2) = .ok (.putfield j, 3)) (hf : mx_tf (gt_P b0 mi E) (mx_mc M) j = some (c, f, ty, true)) (hr0 : rx_k r0 = some (c, N)) (hfN : f < N) (hin : (mx_my M).name = "<init>" ∧ c = mx_mc M) (hna : ∀ e : Nat, narrow ty (.ref e) = .ref e) (hfi : ∀ e : Nat, fits ty (.ref e) = true) (R : rx_R b0 O z1 z2 s G)
    (k9 : ∀ s' G', rx_R b0 O (z1 + 1) (z2 + n) s' G' → pK (E 6) s0 s' r0 P ρ (kU K f) V → mx_W (gt_P b0 mi E) M (pc + 2 + 3) L st G' Q) : mx_W (gt_P b0 mi E) M pc L (.int (nI n) :: .ref (rA s0 r0 0) :: st) G Q := by
  have hne : ¬ (rc = r0 ∧ ic = 0) := fun q => h0 f (by rw [hq, q.1, q.2])
  refine r_newi rc ic hd hn R h9 (pK_free h hinj hq hp hne hK) ((rx_c_n hk ht).trans (by rw [rx_d_0])) (fun G1 R1 => ?_)
  refine r_putr (r := r0) (i := 0) (q1 := rc) (q2 := ic) hd2 hf R1 ?_ (show rU (sNw s rc ic G.2.1 n (fun _ => .null)) r0 0 = true from Nw_mono h.2.2.1) hr0 hfN (fun _ => hin) rfl (hna _) (hfi _) (show rU (sNw s rc ic G.2.1 n (fun _ => .null)) rc ic = true from Nw_s) (fun G2 R2 => ?_)
  · exact (Nw_A (s := s) (a := G.2.1) (n := n) (g := fun _ => .null) r0 0).trans ((if_neg (fun q => hne ⟨q.1.symm, q.2.symm⟩)).trans h.2.1)
  · exact k9 _ _ R2 (pK_arr h hinj hp0 h0 hq hp c1 c2 c3)
theorem ci_l {b0 mi z1 z2 : Nat} {E : Nat → Nat} {O : Nat → Option mx_C} {s0 s : rx_S} {G : mx_H} {M : mx_M} {pc : Nat} {L : mx_L} {st : List Value} {Q : mx_O → mx_H → Prop} {r0 : Nat} {P : Nat → Nat → Prop} {ρ : Nat → Nat × Nat} {K : Nat → Bool} {V : Nat → rx_V} (hinj : ∀ f g, ρ f = ρ g → f = g) (hp0 : P r0 0) (h0 : ∀ f, ρ f ≠ (r0, 0)) {f rc ic n j c N : Nat} {ty : FieldType} (h : pK (E 6) s0 s r0 P ρ K V) (hK : K f = false) (hq : ρ f = (rc, ic)) (hp : P rc ic) (hk : rx_k rc = none) (ht : ∀ y, rx_t y rc ic = (1, n)) (c1 : cdX (E 6) (rc, ic) = fun _ => .inl .null) (c2 : cdI (rc, ic) = fun _ => 0) (c3 : cdL (rc, ic) = fun _ => 0) (h9 : rc ≠ 9) (hn : n ≤ 1000000) (hd : decode (mx_mb M) pc = .ok (.newarray .long, 2)) (hd2 : decode (mx_mb M) (pc + 2) = .ok (.putfield j, 3)) (hf : mx_tf (gt_P b0 mi E) (mx_mc M) j = some (c, f, ty, true)) (hr0 : rx_k r0 = some (c, N)) (hfN : f < N) (hin : (mx_my M).name = "<init>" ∧ c = mx_mc M) (hna : ∀ e : Nat, narrow ty (.ref e) = .ref e) (hfi : ∀ e : Nat, fits ty (.ref e) = true) (R : rx_R b0 O z1 z2 s G)
    (k9 : ∀ s' G', rx_R b0 O (z1 + 1) (z2 + n) s' G' → pK (E 6) s0 s' r0 P ρ (kU K f) V → mx_W (gt_P b0 mi E) M (pc + 2 + 3) L st G' Q) : mx_W (gt_P b0 mi E) M pc L (.int (nI n) :: .ref (rA s0 r0 0) :: st) G Q := by
  have hne : ¬ (rc = r0 ∧ ic = 0) := fun q => h0 f (by rw [hq, q.1, q.2])
  refine r_newl rc ic hd hn R h9 (pK_free h hinj hq hp hne hK) ((rx_c_n hk ht).trans (by rw [rx_d_1])) (fun G1 R1 => ?_)
  refine r_putr (r := r0) (i := 0) (q1 := rc) (q2 := ic) hd2 hf R1 ?_ (show rU (sNw s rc ic G.2.1 n (fun _ => .null)) r0 0 = true from Nw_mono h.2.2.1) hr0 hfN (fun _ => hin) rfl (hna _) (hfi _) (show rU (sNw s rc ic G.2.1 n (fun _ => .null)) rc ic = true from Nw_s) (fun G2 R2 => ?_)
  · exact (Nw_A (s := s) (a := G.2.1) (n := n) (g := fun _ => .null) r0 0).trans ((if_neg (fun q => hne ⟨q.1.symm, q.2.symm⟩)).trans h.2.1)
  · exact k9 _ _ R2 (pK_arr h hinj hp0 h0 hq hp c1 c2 c3)
theorem ci_z {b0 mi z1 z2 : Nat} {E : Nat → Nat} {O : Nat → Option mx_C} {s0 s : rx_S} {G : mx_H} {M : mx_M} {pc : Nat} {L : mx_L} {st : List Value} {Q : mx_O → mx_H → Prop} {r0 : Nat} {P : Nat → Nat → Prop} {ρ : Nat → Nat × Nat} {K : Nat → Bool} {V : Nat → rx_V} (hinj : ∀ f g, ρ f = ρ g → f = g) (hp0 : P r0 0) (h0 : ∀ f, ρ f ≠ (r0, 0)) {f rc ic n j c N : Nat} {ty : FieldType} (h : pK (E 6) s0 s r0 P ρ K V) (hK : K f = false) (hq : ρ f = (rc, ic)) (hp : P rc ic) (hk : rx_k rc = none) (ht : ∀ y, rx_t y rc ic = (3, n)) (c1 : cdX (E 6) (rc, ic) = fun _ => .inl .null) (c2 : cdI (rc, ic) = fun _ => 0) (c3 : cdL (rc, ic) = fun _ => 0) (h9 : rc ≠ 9) (hn : n ≤ 1000000) (hd : decode (mx_mb M) pc = .ok (.newarray .boolean, 2)) (hd2 : decode (mx_mb M) (pc + 2) = .ok (.putfield j, 3)) (hf : mx_tf (gt_P b0 mi E) (mx_mc M) j = some (c, f, ty, true)) (hr0 : rx_k r0 = some (c, N)) (hfN : f < N) (hin : (mx_my M).name = "<init>" ∧ c = mx_mc M) (hna : ∀ e : Nat, narrow ty (.ref e) = .ref e) (hfi : ∀ e : Nat, fits ty (.ref e) = true) (R : rx_R b0 O z1 z2 s G)
    (k9 : ∀ s' G', rx_R b0 O (z1 + 1) (z2 + n) s' G' → pK (E 6) s0 s' r0 P ρ (kU K f) V → mx_W (gt_P b0 mi E) M (pc + 2 + 3) L st G' Q) : mx_W (gt_P b0 mi E) M pc L (.int (nI n) :: .ref (rA s0 r0 0) :: st) G Q := by
  have hne : ¬ (rc = r0 ∧ ic = 0) := fun q => h0 f (by rw [hq, q.1, q.2])
  refine r_newz rc ic hd hn R h9 (pK_free h hinj hq hp hne hK) ((rx_c_n hk ht).trans (by rw [rx_d_3])) (fun G1 R1 => ?_)
  refine r_putr (r := r0) (i := 0) (q1 := rc) (q2 := ic) hd2 hf R1 ?_ (show rU (sNw s rc ic G.2.1 n (fun _ => .null)) r0 0 = true from Nw_mono h.2.2.1) hr0 hfN (fun _ => hin) rfl (hna _) (hfi _) (show rU (sNw s rc ic G.2.1 n (fun _ => .null)) rc ic = true from Nw_s) (fun G2 R2 => ?_)
  · exact (Nw_A (s := s) (a := G.2.1) (n := n) (g := fun _ => .null) r0 0).trans ((if_neg (fun q => hne ⟨q.1.symm, q.2.symm⟩)).trans h.2.1)
  · exact k9 _ _ R2 (pK_arr h hinj hp0 h0 hq hp c1 c2 c3)
theorem ci_A {b0 mi z1 z2 : Nat} {E : Nat → Nat} {O : Nat → Option mx_C} {s0 s : rx_S} {G : mx_H} {M : mx_M} {pc : Nat} {L : mx_L} {st : List Value} {Q : mx_O → mx_H → Prop} {r0 : Nat} {P : Nat → Nat → Prop} {ρ : Nat → Nat × Nat} {K : Nat → Bool} {V : Nat → rx_V} (hinj : ∀ f g, ρ f = ρ g → f = g) (hp0 : P r0 0) (h0 : ∀ f, ρ f ≠ (r0, 0)) {f rc ic n j c N ja : Nat} {ty : FieldType} (h : pK (E 6) s0 s r0 P ρ K V) (hK : K f = false) (hq : ρ f = (rc, ic)) (hp : P rc ic) (hk : rx_k rc = none) (ht : ∀ y, rx_t y rc ic = (5, n)) (c1 : cdX (E 6) (rc, ic) = fun _ => .inl .null) (c2 : cdI (rc, ic) = fun _ => 0) (c3 : cdL (rc, ic) = fun _ => 0) (h9 : rc ≠ 9) (hn : n ≤ 1000000) (hd : decode (mx_mb M) pc = .ok (.anewarray ja, 3)) (hta : mx_ta (gt_P b0 mi E) (mx_mc M) ja = some 5) (hd2 : decode (mx_mb M) (pc + 3) = .ok (.putfield j, 3)) (hf : mx_tf (gt_P b0 mi E) (mx_mc M) j = some (c, f, ty, true)) (hr0 : rx_k r0 = some (c, N)) (hfN : f < N) (hin : (mx_my M).name = "<init>" ∧ c = mx_mc M) (hna : ∀ e : Nat, narrow ty (.ref e) = .ref e) (hfi : ∀ e : Nat, fits ty (.ref e) = true) (R : rx_R b0 O z1 z2 s G)
    (k9 : ∀ s' G', rx_R b0 O (z1 + 1) (z2 + n) s' G' → pK (E 6) s0 s' r0 P ρ (kU K f) V → mx_W (gt_P b0 mi E) M (pc + 3 + 3) L st G' Q) : mx_W (gt_P b0 mi E) M pc L (.int (nI n) :: .ref (rA s0 r0 0) :: st) G Q := by
  have hne : ¬ (rc = r0 ∧ ic = 0) := fun q => h0 f (by rw [hq, q.1, q.2])
  refine r_newA rc ic hd hta hn R h9 (pK_free h hinj hq hp hne hK) ((rx_c_n hk ht).trans (by rw [rx_d_5])) (fun G1 R1 => ?_)
  refine r_putr (r := r0) (i := 0) (q1 := rc) (q2 := ic) hd2 hf R1 ?_ (show rU (sNw s rc ic G.2.1 n (fun _ => .null)) r0 0 = true from Nw_mono h.2.2.1) hr0 hfN (fun _ => hin) rfl (hna _) (hfi _) (show rU (sNw s rc ic G.2.1 n (fun _ => .null)) rc ic = true from Nw_s) (fun G2 R2 => ?_)
  · exact (Nw_A (s := s) (a := G.2.1) (n := n) (g := fun _ => .null) r0 0).trans ((if_neg (fun q => hne ⟨q.1.symm, q.2.symm⟩)).trans h.2.1)
  · exact k9 _ _ R2 (pK_arr h hinj hp0 h0 hq hp c1 c2 c3)
def mrho (f : Nat) : Nat × Nat := (1, f)
theorem mrho_inj : ∀ f g, mrho f = mrho g → f = g := fun f g h => (Prod.mk.inj h).2
def mP (r i : Nat) : Prop := (r = 0 ∧ i = 0) ∨ r = 1
def crho (r f : Nat) : Nat × Nat := (cst r f).getD (99, f)
theorem cst_lt {r f : Nat} {q : Nat × Nat} (h : cst r f = some q) : r < 8 ∧ f < 5 := by
  unfold cst at h
  split at h <;> first | (cases h; done) | exact ⟨by decide, by decide⟩
theorem cst_inj : ∀ r : Fin 8, ∀ f : Fin 5, ∀ g : Fin 5, cst r f = cst r g → (cst r f).isSome = true → f = g := by decide
theorem cst_99 : ∀ r, r < 8 → ∀ f, f < 5 → ∀ q, cst r f = some q → q.1 ≠ 99 := by
  intro r _ f _ q h
  unfold cst at h
  split at h <;> first | (cases h; done) | (cases h; decide)
theorem crho_inj {r : Nat} : ∀ f g, crho r f = crho r g → f = g := by
  intro f g h
  unfold crho at h
  cases h1 : cst r f with
  | none =>
    cases h2 : cst r g with
    | none => rw [h1, h2] at h; exact (Prod.mk.inj h).2
    | some q =>
      obtain ⟨a, b⟩ := cst_lt h2
      rw [h1, h2] at h
      exact absurd (congrArg Prod.fst h).symm (cst_99 r a g b q h2)
  | some q =>
    obtain ⟨a, b⟩ := cst_lt h1
    cases h2 : cst r g with
    | none =>
      rw [h1, h2] at h
      exact absurd (congrArg Prod.fst h) (cst_99 r a f b q h1)
    | some q' =>
      obtain ⟨a', b'⟩ := cst_lt h2
      rw [h1, h2] at h
      have e : q = q' := h
      exact congrArg Fin.val (cst_inj ⟨r, a⟩ ⟨f, b⟩ ⟨g, b'⟩ (show cst r f = cst r g by rw [h1, h2, e]) (show (cst r f).isSome = true by rw [h1]; rfl))
theorem crho_0 {r : Nat} (hr : r < 8) : ∀ f, crho r f ≠ (r, 0) := by
  intro f h
  unfold crho at h
  cases h1 : cst r f with
  | none => rw [h1] at h; have h2 : (99, f) = (r, 0) := h; cases h2; omega
  | some q =>
    rw [h1] at h
    have h2 : q = (r, 0) := h
    subst h2
    unfold cst at h1
    split at h1 <;> first | (cases h1; done) | cases h1
section
variable {b0 mi z1 z2 : Nat} {E : Nat → Nat} {O : Nat → Option mx_C} {s : rx_S} {G : mx_H} {Q : mx_O → mx_H → Prop}
set_option maxHeartbeats 4000000 in
theorem c10_init0 (R : rx_R b0 O z1 z2 s G) (hu : rU s 0 0 = true) (hn : ∀ k, rU s 1 k = false) (q : ∀ s' G' K, rx_R b0 O (z1 + 39) (z2 + 67204) s' G' → pK (E 6) s s' 0 mP mrho K (fun g => if g = 32 then .inl (.int (-1)) else rX s 0 0 g) → (∀ f, f < 54 → K f = Nat.blt 0 (rx_m f).2) → Q (.inl none) G') : mx_W (gt_P b0 mi E) mX10_init 0 (mx_en 0 [.ref (rA s 0 0)]) [] G Q := by
  have hp : pK (E 6) s s 0 mP mrho (fun _ => false) (rX s 0 0) := pK_rf hu (fun r i h1 h2 => by rcases h1 with h1 | h1; exact absurd h1 h2; rw [h1]; exact hn i)
  refine w_aload_n dX10_init_0 rfl ?_
  refine w_obj dX10_init_1 mt_9_7 (lb rfl) (lb rfl) (lb rfl) ?_
  refine w_aload_n dX10_init_4 rfl ?_
  refine w_bipush (v := nI 60) dX10_init_5 (by decide) ?_
  refine ci_i (f := 3) (rc := 1) (ic := 3) mrho_inj (show mP 0 0 from Or.inl ⟨rfl, rfl⟩) (fun f q => by cases q) hp rfl rfl (Or.inr rfl) rfl (fun _ => rfl) rfl rfl rfl (by decide) (lb rfl) dX10_init_7 dX10_init_9 ft_9_13 rfl (lb rfl) ⟨rfl, rfl⟩ (fun _ => rfl) (fun _ => rfl) R (fun s1 G1 R1w h1 => ?_)
  have R1 : rx_R b0 O (z1 + 1) (z2 + 60) s1 G1 := rx_w R1w (by omega) (by omega)
  refine w_aload_n dX10_init_12 rfl ?_
  refine w_bipush (v := nI 60) dX10_init_13 (by decide) ?_
  refine ci_i (f := 4) (rc := 1) (ic := 4) mrho_inj (show mP 0 0 from Or.inl ⟨rfl, rfl⟩) (fun f q => by cases q) h1 rfl rfl (Or.inr rfl) rfl (fun _ => rfl) rfl rfl rfl (by decide) (lb rfl) dX10_init_15 dX10_init_17 ft_9_17 rfl (lb rfl) ⟨rfl, rfl⟩ (fun _ => rfl) (fun _ => rfl) R1 (fun s2 G2 R2w h2 => ?_)
  have R2 : rx_R b0 O (z1 + 2) (z2 + 120) s2 G2 := rx_w R2w (by omega) (by omega)
  refine w_aload_n dX10_init_20 rfl ?_
  refine w_bipush (v := nI 60) dX10_init_21 (by decide) ?_
  refine ci_i (f := 5) (rc := 1) (ic := 5) mrho_inj (show mP 0 0 from Or.inl ⟨rfl, rfl⟩) (fun f q => by cases q) h2 rfl rfl (Or.inr rfl) rfl (fun _ => rfl) rfl rfl rfl (by decide) (lb rfl) dX10_init_23 dX10_init_25 ft_9_20 rfl (lb rfl) ⟨rfl, rfl⟩ (fun _ => rfl) (fun _ => rfl) R2 (fun s3 G3 R3w h3 => ?_)
  have R3 : rx_R b0 O (z1 + 3) (z2 + 180) s3 G3 := rx_w R3w (by omega) (by omega)
  refine w_aload_n dX10_init_28 rfl ?_
  refine w_bipush (v := nI 60) dX10_init_29 (by decide) ?_
  refine ci_i (f := 6) (rc := 1) (ic := 6) mrho_inj (show mP 0 0 from Or.inl ⟨rfl, rfl⟩) (fun f q => by cases q) h3 rfl rfl (Or.inr rfl) rfl (fun _ => rfl) rfl rfl rfl (by decide) (lb rfl) dX10_init_31 dX10_init_33 ft_9_23 rfl (lb rfl) ⟨rfl, rfl⟩ (fun _ => rfl) (fun _ => rfl) R3 (fun s4 G4 R4w h4 => ?_)
  have R4 : rx_R b0 O (z1 + 4) (z2 + 240) s4 G4 := rx_w R4w (by omega) (by omega)
  refine w_aload_n dX10_init_36 rfl ?_
  refine w_bipush (v := nI 60) dX10_init_37 (by decide) ?_
  refine ci_i (f := 7) (rc := 1) (ic := 7) mrho_inj (show mP 0 0 from Or.inl ⟨rfl, rfl⟩) (fun f q => by cases q) h4 rfl rfl (Or.inr rfl) rfl (fun _ => rfl) rfl rfl rfl (by decide) (lb rfl) dX10_init_39 dX10_init_41 ft_9_26 rfl (lb rfl) ⟨rfl, rfl⟩ (fun _ => rfl) (fun _ => rfl) R4 (fun s5 G5 R5w h5 => ?_)
  have R5 : rx_R b0 O (z1 + 5) (z2 + 300) s5 G5 := rx_w R5w (by omega) (by omega)
  refine w_aload_n dX10_init_44 rfl ?_
  refine w_bipush (v := nI 60) dX10_init_45 (by decide) ?_
  refine ci_z (f := 8) (rc := 1) (ic := 8) mrho_inj (show mP 0 0 from Or.inl ⟨rfl, rfl⟩) (fun f q => by cases q) h5 rfl rfl (Or.inr rfl) rfl (fun _ => rfl) rfl rfl rfl (by decide) (lb rfl) dX10_init_47 dX10_init_49 ft_9_29 rfl (lb rfl) ⟨rfl, rfl⟩ (fun _ => rfl) (fun _ => rfl) R5 (fun s6 G6 R6w h6 => ?_)
  have R6 : rx_R b0 O (z1 + 6) (z2 + 360) s6 G6 := rx_w R6w (by omega) (by omega)
  refine w_aload_n dX10_init_52 rfl ?_
  refine w_bipush (v := nI 60) dX10_init_53 (by decide) ?_
  refine ci_i (f := 9) (rc := 1) (ic := 9) mrho_inj (show mP 0 0 from Or.inl ⟨rfl, rfl⟩) (fun f q => by cases q) h6 rfl rfl (Or.inr rfl) rfl (fun _ => rfl) rfl rfl rfl (by decide) (lb rfl) dX10_init_55 dX10_init_57 ft_9_33 rfl (lb rfl) ⟨rfl, rfl⟩ (fun _ => rfl) (fun _ => rfl) R6 (fun s7 G7 R7w h7 => ?_)
  have R7 : rx_R b0 O (z1 + 7) (z2 + 420) s7 G7 := rx_w R7w (by omega) (by omega)
  refine w_aload_n dX10_init_60 rfl ?_
  refine w_bipush (v := nI 60) dX10_init_61 (by decide) ?_
  refine ci_i (f := 10) (rc := 1) (ic := 10) mrho_inj (show mP 0 0 from Or.inl ⟨rfl, rfl⟩) (fun f q => by cases q) h7 rfl rfl (Or.inr rfl) rfl (fun _ => rfl) rfl rfl rfl (by decide) (lb rfl) dX10_init_63 dX10_init_65 ft_9_36 rfl (lb rfl) ⟨rfl, rfl⟩ (fun _ => rfl) (fun _ => rfl) R7 (fun s8 G8 R8w h8 => ?_)
  have R8 : rx_R b0 O (z1 + 8) (z2 + 480) s8 G8 := rx_w R8w (by omega) (by omega)
  refine w_aload_n dX10_init_68 rfl ?_
  refine w_ldc dX10_init_69 ct_9_39 ?_
  rw [show (60000 : Int32) = nI 60000 from rfl]
  refine ci_i (f := 11) (rc := 1) (ic := 11) mrho_inj (show mP 0 0 from Or.inl ⟨rfl, rfl⟩) (fun f q => by cases q) h8 rfl rfl (Or.inr rfl) rfl (fun _ => rfl) rfl rfl rfl (by decide) (lb rfl) dX10_init_71 dX10_init_73 ft_9_40 rfl (lb rfl) ⟨rfl, rfl⟩ (fun _ => rfl) (fun _ => rfl) R8 (fun s9 G9 R9w h9 => ?_)
  have R9 : rx_R b0 O (z1 + 9) (z2 + 60480) s9 G9 := rx_w R9w (by omega) (by omega)
  refine w_aload_n dX10_init_76 rfl ?_
  refine w_bipush (v := nI 120) dX10_init_77 (by decide) ?_
  refine ci_i (f := 15) (rc := 1) (ic := 15) mrho_inj (show mP 0 0 from Or.inl ⟨rfl, rfl⟩) (fun f q => by cases q) h9 rfl rfl (Or.inr rfl) rfl (fun _ => rfl) rfl rfl rfl (by decide) (lb rfl) dX10_init_79 dX10_init_81 ft_9_43 rfl (lb rfl) ⟨rfl, rfl⟩ (fun _ => rfl) (fun _ => rfl) R9 (fun s10 G10 R10w h10 => ?_)
  have R10 : rx_R b0 O (z1 + 10) (z2 + 60600) s10 G10 := rx_w R10w (by omega) (by omega)
  refine w_aload_n dX10_init_84 rfl ?_
  refine w_bipush (v := nI 120) dX10_init_85 (by decide) ?_
  refine ci_i (f := 16) (rc := 1) (ic := 16) mrho_inj (show mP 0 0 from Or.inl ⟨rfl, rfl⟩) (fun f q => by cases q) h10 rfl rfl (Or.inr rfl) rfl (fun _ => rfl) rfl rfl rfl (by decide) (lb rfl) dX10_init_87 dX10_init_89 ft_9_46 rfl (lb rfl) ⟨rfl, rfl⟩ (fun _ => rfl) (fun _ => rfl) R10 (fun s11 G11 R11w h11 => ?_)
  have R11 : rx_R b0 O (z1 + 11) (z2 + 60720) s11 G11 := rx_w R11w (by omega) (by omega)
  refine w_aload_n dX10_init_92 rfl ?_
  refine w_bipush (v := nI 120) dX10_init_93 (by decide) ?_
  refine ci_i (f := 17) (rc := 1) (ic := 17) mrho_inj (show mP 0 0 from Or.inl ⟨rfl, rfl⟩) (fun f q => by cases q) h11 rfl rfl (Or.inr rfl) rfl (fun _ => rfl) rfl rfl rfl (by decide) (lb rfl) dX10_init_95 dX10_init_97 ft_9_49 rfl (lb rfl) ⟨rfl, rfl⟩ (fun _ => rfl) (fun _ => rfl) R11 (fun s12 G12 R12w h12 => ?_)
  have R12 : rx_R b0 O (z1 + 12) (z2 + 60840) s12 G12 := rx_w R12w (by omega) (by omega)
  refine w_aload_n dX10_init_100 rfl ?_
  refine w_bipush (v := nI 120) dX10_init_101 (by decide) ?_
  refine ci_i (f := 18) (rc := 1) (ic := 18) mrho_inj (show mP 0 0 from Or.inl ⟨rfl, rfl⟩) (fun f q => by cases q) h12 rfl rfl (Or.inr rfl) rfl (fun _ => rfl) rfl rfl rfl (by decide) (lb rfl) dX10_init_103 dX10_init_105 ft_9_52 rfl (lb rfl) ⟨rfl, rfl⟩ (fun _ => rfl) (fun _ => rfl) R12 (fun s13 G13 R13w h13 => ?_)
  have R13 : rx_R b0 O (z1 + 13) (z2 + 60960) s13 G13 := rx_w R13w (by omega) (by omega)
  refine w_aload_n dX10_init_108 rfl ?_
  refine w_bipush (v := nI 120) dX10_init_109 (by decide) ?_
  refine ci_i (f := 19) (rc := 1) (ic := 19) mrho_inj (show mP 0 0 from Or.inl ⟨rfl, rfl⟩) (fun f q => by cases q) h13 rfl rfl (Or.inr rfl) rfl (fun _ => rfl) rfl rfl rfl (by decide) (lb rfl) dX10_init_111 dX10_init_113 ft_9_55 rfl (lb rfl) ⟨rfl, rfl⟩ (fun _ => rfl) (fun _ => rfl) R13 (fun s14 G14 R14w h14 => ?_)
  have R14 : rx_R b0 O (z1 + 14) (z2 + 61080) s14 G14 := rx_w R14w (by omega) (by omega)
  refine w_aload_n dX10_init_116 rfl ?_
  refine w_sipush (v := nI 200) dX10_init_117 (by decide) ?_
  refine ci_i (f := 21) (rc := 1) (ic := 21) mrho_inj (show mP 0 0 from Or.inl ⟨rfl, rfl⟩) (fun f q => by cases q) h14 rfl rfl (Or.inr rfl) rfl (fun _ => rfl) rfl rfl rfl (by decide) (lb rfl) dX10_init_120 dX10_init_122 ft_9_58 rfl (lb rfl) ⟨rfl, rfl⟩ (fun _ => rfl) (fun _ => rfl) R14 (fun s15 G15 R15w h15 => ?_)
  have R15 : rx_R b0 O (z1 + 15) (z2 + 61280) s15 G15 := rx_w R15w (by omega) (by omega)
  refine w_aload_n dX10_init_125 rfl ?_
  refine w_sipush (v := nI 200) dX10_init_126 (by decide) ?_
  refine ci_i (f := 22) (rc := 1) (ic := 22) mrho_inj (show mP 0 0 from Or.inl ⟨rfl, rfl⟩) (fun f q => by cases q) h15 rfl rfl (Or.inr rfl) rfl (fun _ => rfl) rfl rfl rfl (by decide) (lb rfl) dX10_init_129 dX10_init_131 ft_9_61 rfl (lb rfl) ⟨rfl, rfl⟩ (fun _ => rfl) (fun _ => rfl) R15 (fun s16 G16 R16w h16 => ?_)
  have R16 : rx_R b0 O (z1 + 16) (z2 + 61480) s16 G16 := rx_w R16w (by omega) (by omega)
  refine w_aload_n dX10_init_134 rfl ?_
  refine w_sipush (v := nI 200) dX10_init_135 (by decide) ?_
  refine ci_i (f := 23) (rc := 1) (ic := 23) mrho_inj (show mP 0 0 from Or.inl ⟨rfl, rfl⟩) (fun f q => by cases q) h16 rfl rfl (Or.inr rfl) rfl (fun _ => rfl) rfl rfl rfl (by decide) (lb rfl) dX10_init_138 dX10_init_140 ft_9_64 rfl (lb rfl) ⟨rfl, rfl⟩ (fun _ => rfl) (fun _ => rfl) R16 (fun s17 G17 R17w h17 => ?_)
  have R17 : rx_R b0 O (z1 + 17) (z2 + 61680) s17 G17 := rx_w R17w (by omega) (by omega)
  refine w_aload_n dX10_init_143 rfl ?_
  refine w_sipush (v := nI 200) dX10_init_144 (by decide) ?_
  refine ci_i (f := 24) (rc := 1) (ic := 24) mrho_inj (show mP 0 0 from Or.inl ⟨rfl, rfl⟩) (fun f q => by cases q) h17 rfl rfl (Or.inr rfl) rfl (fun _ => rfl) rfl rfl rfl (by decide) (lb rfl) dX10_init_147 dX10_init_149 ft_9_67 rfl (lb rfl) ⟨rfl, rfl⟩ (fun _ => rfl) (fun _ => rfl) R17 (fun s18 G18 R18w h18 => ?_)
  have R18 : rx_R b0 O (z1 + 18) (z2 + 61880) s18 G18 := rx_w R18w (by omega) (by omega)
  refine w_aload_n dX10_init_152 rfl ?_
  refine w_sipush (v := nI 200) dX10_init_153 (by decide) ?_
  refine ci_i (f := 25) (rc := 1) (ic := 25) mrho_inj (show mP 0 0 from Or.inl ⟨rfl, rfl⟩) (fun f q => by cases q) h18 rfl rfl (Or.inr rfl) rfl (fun _ => rfl) rfl rfl rfl (by decide) (lb rfl) dX10_init_156 dX10_init_158 ft_9_70 rfl (lb rfl) ⟨rfl, rfl⟩ (fun _ => rfl) (fun _ => rfl) R18 (fun s19 G19 R19w h19 => ?_)
  have R19 : rx_R b0 O (z1 + 19) (z2 + 62080) s19 G19 := rx_w R19w (by omega) (by omega)
  refine w_aload_n dX10_init_161 rfl ?_
  refine w_bipush (v := nI 8) dX10_init_162 (by decide) ?_
  refine ci_i (f := 27) (rc := 1) (ic := 27) mrho_inj (show mP 0 0 from Or.inl ⟨rfl, rfl⟩) (fun f q => by cases q) h19 rfl rfl (Or.inr rfl) rfl (fun _ => rfl) rfl rfl rfl (by decide) (lb rfl) dX10_init_164 dX10_init_166 ft_9_73 rfl (lb rfl) ⟨rfl, rfl⟩ (fun _ => rfl) (fun _ => rfl) R19 (fun s20 G20 R20w h20 => ?_)
  have R20 : rx_R b0 O (z1 + 20) (z2 + 62088) s20 G20 := rx_w R20w (by omega) (by omega)
  refine w_aload_n dX10_init_169 rfl ?_
  refine w_iconst (v := nI 4) dX10_init_170 (by decide) ?_
  refine r_newl 1 28 dX10_init_171 (lb rfl) R20 (lb9 rfl) (pK_free h20 mrho_inj (f := 28) rfl (Or.inr rfl) (by decide) rfl) ((rx_c_n rfl (fun _ => rfl)).trans (by rw [rx_d_1])) (fun G21z R21z => ?_)
  refine w_dup dX10_init_173 rfl ?_
  refine w_iconst (v := nI 0) dX10_init_174 (by decide) ?_
  refine w_ldc2 dX10_init_175 ct_9_76 ?_
  refine r_last (r := 1) (i := 28) dX10_init_178 R21z rfl (show rU (sNw s20 1 28 G20.2.1 4 (fun _ => .null)) 1 28 = true from Nw_s) rfl rfl (by decide) (lb rfl) (fun G21a R21a => ?_)
  refine w_dup dX10_init_179 rfl ?_
  refine w_iconst (v := nI 1) dX10_init_180 (by decide) ?_
  refine w_ldc2 dX10_init_181 ct_9_76 ?_
  refine r_last (r := 1) (i := 28) dX10_init_184 R21a rfl (show rU (sNw s20 1 28 G20.2.1 4 (fun _ => .null)) 1 28 = true from Nw_s) rfl rfl (by decide) (lb rfl) (fun G21b R21b => ?_)
  refine w_dup dX10_init_185 rfl ?_
  refine w_iconst (v := nI 2) dX10_init_186 (by decide) ?_
  refine w_ldc2 dX10_init_187 ct_9_76 ?_
  refine r_last (r := 1) (i := 28) dX10_init_190 R21b rfl (show rU (sNw s20 1 28 G20.2.1 4 (fun _ => .null)) 1 28 = true from Nw_s) rfl rfl (by decide) (lb rfl) (fun G21c R21c => ?_)
  refine w_dup dX10_init_191 rfl ?_
  refine w_iconst (v := nI 3) dX10_init_192 (by decide) ?_
  refine w_ldc2 dX10_init_193 ct_9_76 ?_
  refine r_last (r := 1) (i := 28) dX10_init_196 R21c rfl (show rU (sNw s20 1 28 G20.2.1 4 (fun _ => .null)) 1 28 = true from Nw_s) rfl rfl (by decide) (lb rfl) (fun G21d R21d => ?_)
  refine r_putr (r := 0) (i := 0) (q1 := 1) (q2 := 28) dX10_init_197 ft_9_78 R21d h20.2.1 (show rU (sNw s20 1 28 G20.2.1 4 (fun _ => .null)) 0 0 = true from Nw_mono h20.2.2.1) rfl (lb rfl) (fun _ => ⟨rfl, rfl⟩) rfl rfl rfl (show rU (sNw s20 1 28 G20.2.1 4 (fun _ => .null)) 1 28 = true from Nw_s) (fun G21 R21e => ?_)
  obtain ⟨s21, R21, h21⟩ : ∃ s21, rx_R b0 O (z1 + 21) (z2 + 62092) s21 G21 ∧ pK (E 6) s s21 0 _ mrho (kU _ 28) _ := ⟨_, rx_w R21e (by omega) (by omega), pK_bL h20 mrho_inj (show mP 0 0 from Or.inl ⟨rfl, rfl⟩) (fun f q => by cases q) (by decide) rfl (Or.inr rfl)⟩
  refine w_aload_n dX10_init_200 rfl ?_
  refine w_iconst (v := (-1)) dX10_init_201 (by decide) ?_
  refine r_puti (r := 0) (i := 0) dX10_init_202 ft_9_82 R21 h21.2.1 h21.2.2.1 rfl (lb rfl) (fun h => by cases h) rfl rfl (fun G21p R21p => ?_)
  have h21p := pK_put (f := 32) (v := .inl (.int (-1))) h21 (show mP 0 0 from Or.inl ⟨rfl, rfl⟩) (fun f q => by cases q) rfl
  obtain ⟨s21p, R21p, h21p⟩ : ∃ s21p, rx_R b0 O (z1 + 21) (z2 + 62092) s21p G21p ∧ pK (E 6) s s21p 0 _ mrho _ _ := ⟨_, R21p, h21p⟩
  refine w_aload_n dX10_init_205 rfl ?_
  refine w_bipush (v := nI 60) dX10_init_206 (by decide) ?_
  refine ci_z (f := 33) (rc := 1) (ic := 33) mrho_inj (show mP 0 0 from Or.inl ⟨rfl, rfl⟩) (fun f q => by cases q) h21p rfl rfl (Or.inr rfl) rfl (fun _ => rfl) rfl rfl rfl (by decide) (lb rfl) dX10_init_208 dX10_init_210 ft_9_85 rfl (lb rfl) ⟨rfl, rfl⟩ (fun _ => rfl) (fun _ => rfl) R21p (fun s22 G22 R22w h22 => ?_)
  have R22 : rx_R b0 O (z1 + 22) (z2 + 62152) s22 G22 := rx_w R22w (by omega) (by omega)
  refine w_aload_n dX10_init_213 rfl ?_
  refine w_bipush (v := nI 64) dX10_init_214 (by decide) ?_
  refine ci_i (f := 34) (rc := 1) (ic := 34) mrho_inj (show mP 0 0 from Or.inl ⟨rfl, rfl⟩) (fun f q => by cases q) h22 rfl rfl (Or.inr rfl) rfl (fun _ => rfl) rfl rfl rfl (by decide) (lb rfl) dX10_init_216 dX10_init_218 ft_9_88 rfl (lb rfl) ⟨rfl, rfl⟩ (fun _ => rfl) (fun _ => rfl) R22 (fun s23 G23 R23w h23 => ?_)
  have R23 : rx_R b0 O (z1 + 23) (z2 + 62216) s23 G23 := rx_w R23w (by omega) (by omega)
  refine w_aload_n dX10_init_221 rfl ?_
  refine w_bipush (v := nI 120) dX10_init_222 (by decide) ?_
  refine ci_i (f := 35) (rc := 1) (ic := 35) mrho_inj (show mP 0 0 from Or.inl ⟨rfl, rfl⟩) (fun f q => by cases q) h23 rfl rfl (Or.inr rfl) rfl (fun _ => rfl) rfl rfl rfl (by decide) (lb rfl) dX10_init_224 dX10_init_226 ft_9_91 rfl (lb rfl) ⟨rfl, rfl⟩ (fun _ => rfl) (fun _ => rfl) R23 (fun s24 G24 R24w h24 => ?_)
  have R24 : rx_R b0 O (z1 + 24) (z2 + 62336) s24 G24 := rx_w R24w (by omega) (by omega)
  refine w_aload_n dX10_init_229 rfl ?_
  refine w_bipush (v := nI 120) dX10_init_230 (by decide) ?_
  refine ci_i (f := 36) (rc := 1) (ic := 36) mrho_inj (show mP 0 0 from Or.inl ⟨rfl, rfl⟩) (fun f q => by cases q) h24 rfl rfl (Or.inr rfl) rfl (fun _ => rfl) rfl rfl rfl (by decide) (lb rfl) dX10_init_232 dX10_init_234 ft_9_94 rfl (lb rfl) ⟨rfl, rfl⟩ (fun _ => rfl) (fun _ => rfl) R24 (fun s25 G25 R25w h25 => ?_)
  have R25 : rx_R b0 O (z1 + 25) (z2 + 62456) s25 G25 := rx_w R25w (by omega) (by omega)
  refine w_aload_n dX10_init_237 rfl ?_
  refine w_bipush (v := nI 120) dX10_init_238 (by decide) ?_
  refine ci_i (f := 37) (rc := 1) (ic := 37) mrho_inj (show mP 0 0 from Or.inl ⟨rfl, rfl⟩) (fun f q => by cases q) h25 rfl rfl (Or.inr rfl) rfl (fun _ => rfl) rfl rfl rfl (by decide) (lb rfl) dX10_init_240 dX10_init_242 ft_9_97 rfl (lb rfl) ⟨rfl, rfl⟩ (fun _ => rfl) (fun _ => rfl) R25 (fun s26 G26 R26w h26 => ?_)
  have R26 : rx_R b0 O (z1 + 26) (z2 + 62576) s26 G26 := rx_w R26w (by omega) (by omega)
  refine w_aload_n dX10_init_245 rfl ?_
  refine w_bipush (v := nI 60) dX10_init_246 (by decide) ?_
  refine ci_i (f := 38) (rc := 1) (ic := 38) mrho_inj (show mP 0 0 from Or.inl ⟨rfl, rfl⟩) (fun f q => by cases q) h26 rfl rfl (Or.inr rfl) rfl (fun _ => rfl) rfl rfl rfl (by decide) (lb rfl) dX10_init_248 dX10_init_250 ft_9_100 rfl (lb rfl) ⟨rfl, rfl⟩ (fun _ => rfl) (fun _ => rfl) R26 (fun s27 G27 R27w h27 => ?_)
  have R27 : rx_R b0 O (z1 + 27) (z2 + 62636) s27 G27 := rx_w R27w (by omega) (by omega)
  refine w_aload_n dX10_init_253 rfl ?_
  refine w_bipush (v := nI 60) dX10_init_254 (by decide) ?_
  refine ci_z (f := 40) (rc := 1) (ic := 40) mrho_inj (show mP 0 0 from Or.inl ⟨rfl, rfl⟩) (fun f q => by cases q) h27 rfl rfl (Or.inr rfl) rfl (fun _ => rfl) rfl rfl rfl (by decide) (lb rfl) dX10_init_256 dX10_init_258 ft_9_103 rfl (lb rfl) ⟨rfl, rfl⟩ (fun _ => rfl) (fun _ => rfl) R27 (fun s28 G28 R28w h28 => ?_)
  have R28 : rx_R b0 O (z1 + 28) (z2 + 62696) s28 G28 := rx_w R28w (by omega) (by omega)
  refine w_aload_n dX10_init_261 rfl ?_
  refine w_bipush (v := nI 60) dX10_init_262 (by decide) ?_
  refine ci_i (f := 41) (rc := 1) (ic := 41) mrho_inj (show mP 0 0 from Or.inl ⟨rfl, rfl⟩) (fun f q => by cases q) h28 rfl rfl (Or.inr rfl) rfl (fun _ => rfl) rfl rfl rfl (by decide) (lb rfl) dX10_init_264 dX10_init_266 ft_9_106 rfl (lb rfl) ⟨rfl, rfl⟩ (fun _ => rfl) (fun _ => rfl) R28 (fun s29 G29 R29w h29 => ?_)
  have R29 : rx_R b0 O (z1 + 29) (z2 + 62756) s29 G29 := rx_w R29w (by omega) (by omega)
  refine w_aload_n dX10_init_269 rfl ?_
  refine w_bipush (v := nI 60) dX10_init_270 (by decide) ?_
  refine ci_i (f := 42) (rc := 1) (ic := 42) mrho_inj (show mP 0 0 from Or.inl ⟨rfl, rfl⟩) (fun f q => by cases q) h29 rfl rfl (Or.inr rfl) rfl (fun _ => rfl) rfl rfl rfl (by decide) (lb rfl) dX10_init_272 dX10_init_274 ft_9_109 rfl (lb rfl) ⟨rfl, rfl⟩ (fun _ => rfl) (fun _ => rfl) R29 (fun s30 G30 R30w h30 => ?_)
  have R30 : rx_R b0 O (z1 + 30) (z2 + 62816) s30 G30 := rx_w R30w (by omega) (by omega)
  refine w_aload_n dX10_init_277 rfl ?_
  refine w_bipush (v := nI 60) dX10_init_278 (by decide) ?_
  refine ci_i (f := 43) (rc := 1) (ic := 43) mrho_inj (show mP 0 0 from Or.inl ⟨rfl, rfl⟩) (fun f q => by cases q) h30 rfl rfl (Or.inr rfl) rfl (fun _ => rfl) rfl rfl rfl (by decide) (lb rfl) dX10_init_280 dX10_init_282 ft_9_112 rfl (lb rfl) ⟨rfl, rfl⟩ (fun _ => rfl) (fun _ => rfl) R30 (fun s31 G31 R31w h31 => ?_)
  have R31 : rx_R b0 O (z1 + 31) (z2 + 62876) s31 G31 := rx_w R31w (by omega) (by omega)
  refine w_aload_n dX10_init_285 rfl ?_
  refine w_bipush (v := nI 60) dX10_init_286 (by decide) ?_
  refine ci_z (f := 44) (rc := 1) (ic := 44) mrho_inj (show mP 0 0 from Or.inl ⟨rfl, rfl⟩) (fun f q => by cases q) h31 rfl rfl (Or.inr rfl) rfl (fun _ => rfl) rfl rfl rfl (by decide) (lb rfl) dX10_init_288 dX10_init_290 ft_9_115 rfl (lb rfl) ⟨rfl, rfl⟩ (fun _ => rfl) (fun _ => rfl) R31 (fun s32 G32 R32w h32 => ?_)
  have R32 : rx_R b0 O (z1 + 32) (z2 + 62936) s32 G32 := rx_w R32w (by omega) (by omega)
  refine w_aload_n dX10_init_293 rfl ?_
  refine w_sipush (v := nI 3600) dX10_init_294 (by decide) ?_
  refine ci_z (f := 45) (rc := 1) (ic := 45) mrho_inj (show mP 0 0 from Or.inl ⟨rfl, rfl⟩) (fun f q => by cases q) h32 rfl rfl (Or.inr rfl) rfl (fun _ => rfl) rfl rfl rfl (by decide) (lb rfl) dX10_init_297 dX10_init_299 ft_9_118 rfl (lb rfl) ⟨rfl, rfl⟩ (fun _ => rfl) (fun _ => rfl) R32 (fun s33 G33 R33w h33 => ?_)
  have R33 : rx_R b0 O (z1 + 33) (z2 + 66536) s33 G33 := rx_w R33w (by omega) (by omega)
  refine w_aload_n dX10_init_302 rfl ?_
  refine w_bipush (v := nI 60) dX10_init_303 (by decide) ?_
  refine ci_l (f := 46) (rc := 1) (ic := 46) mrho_inj (show mP 0 0 from Or.inl ⟨rfl, rfl⟩) (fun f q => by cases q) h33 rfl rfl (Or.inr rfl) rfl (fun _ => rfl) rfl rfl rfl (by decide) (lb rfl) dX10_init_305 dX10_init_307 ft_9_121 rfl (lb rfl) ⟨rfl, rfl⟩ (fun _ => rfl) (fun _ => rfl) R33 (fun s34 G34 R34w h34 => ?_)
  have R34 : rx_R b0 O (z1 + 34) (z2 + 66596) s34 G34 := rx_w R34w (by omega) (by omega)
  refine w_aload_n dX10_init_310 rfl ?_
  refine w_iconst (v := nI 4) dX10_init_311 (by decide) ?_
  refine ci_l (f := 47) (rc := 1) (ic := 47) mrho_inj (show mP 0 0 from Or.inl ⟨rfl, rfl⟩) (fun f q => by cases q) h34 rfl rfl (Or.inr rfl) rfl (fun _ => rfl) rfl rfl rfl (by decide) (lb rfl) dX10_init_312 dX10_init_314 ft_9_124 rfl (lb rfl) ⟨rfl, rfl⟩ (fun _ => rfl) (fun _ => rfl) R34 (fun s35 G35 R35w h35 => ?_)
  have R35 : rx_R b0 O (z1 + 35) (z2 + 66600) s35 G35 := rx_w R35w (by omega) (by omega)
  refine w_aload_n dX10_init_317 rfl ?_
  refine w_iconst (v := nI 4) dX10_init_318 (by decide) ?_
  refine ci_l (f := 48) (rc := 1) (ic := 48) mrho_inj (show mP 0 0 from Or.inl ⟨rfl, rfl⟩) (fun f q => by cases q) h35 rfl rfl (Or.inr rfl) rfl (fun _ => rfl) rfl rfl rfl (by decide) (lb rfl) dX10_init_319 dX10_init_321 ft_9_127 rfl (lb rfl) ⟨rfl, rfl⟩ (fun _ => rfl) (fun _ => rfl) R35 (fun s36 G36 R36w h36 => ?_)
  have R36 : rx_R b0 O (z1 + 36) (z2 + 66604) s36 G36 := rx_w R36w (by omega) (by omega)
  refine w_aload_n dX10_init_324 rfl ?_
  refine w_sipush (v := nI 200) dX10_init_325 (by decide) ?_
  refine ci_i (f := 51) (rc := 1) (ic := 51) mrho_inj (show mP 0 0 from Or.inl ⟨rfl, rfl⟩) (fun f q => by cases q) h36 rfl rfl (Or.inr rfl) rfl (fun _ => rfl) rfl rfl rfl (by decide) (lb rfl) dX10_init_328 dX10_init_330 ft_9_130 rfl (lb rfl) ⟨rfl, rfl⟩ (fun _ => rfl) (fun _ => rfl) R36 (fun s37 G37 R37w h37 => ?_)
  have R37 : rx_R b0 O (z1 + 37) (z2 + 66804) s37 G37 := rx_w R37w (by omega) (by omega)
  refine w_aload_n dX10_init_333 rfl ?_
  refine w_sipush (v := nI 200) dX10_init_334 (by decide) ?_
  refine ci_i (f := 52) (rc := 1) (ic := 52) mrho_inj (show mP 0 0 from Or.inl ⟨rfl, rfl⟩) (fun f q => by cases q) h37 rfl rfl (Or.inr rfl) rfl (fun _ => rfl) rfl rfl rfl (by decide) (lb rfl) dX10_init_337 dX10_init_339 ft_9_133 rfl (lb rfl) ⟨rfl, rfl⟩ (fun _ => rfl) (fun _ => rfl) R37 (fun s38 G38 R38w h38 => ?_)
  have R38 : rx_R b0 O (z1 + 38) (z2 + 67004) s38 G38 := rx_w R38w (by omega) (by omega)
  refine w_aload_n dX10_init_342 rfl ?_
  refine w_sipush (v := nI 200) dX10_init_343 (by decide) ?_
  refine ci_i (f := 53) (rc := 1) (ic := 53) mrho_inj (show mP 0 0 from Or.inl ⟨rfl, rfl⟩) (fun f q => by cases q) h38 rfl rfl (Or.inr rfl) rfl (fun _ => rfl) rfl rfl rfl (by decide) (lb rfl) dX10_init_346 dX10_init_348 ft_9_136 rfl (lb rfl) ⟨rfl, rfl⟩ (fun _ => rfl) (fun _ => rfl) R38 (fun s39 G39 R39w h39 => ?_)
  have R39 : rx_R b0 O (z1 + 39) (z2 + 67204) s39 G39 := rx_w R39w (by omega) (by omega)
  refine w_ret dX10_init_351 rfl ?_
  exact q _ _ _ R39 h39 (by decide)
end
