theorem MR_told {s : rx_S} {τ : tx_T} (h : MR s τ) : MR (m_told s) τ := MR_X (MR_X (MR_X (MR_X h (by omega) rfl) (by omega) rfl) (by omega) rfl) (by omega) rfl
theorem W4_pos (τ : tx_T) : 0 ≤ (W4 τ (tN τ 3)).1.toInt := by
  have h2 : 0 ≤ (W2 τ (tN τ 4)).1.toInt := by
    unfold W2
    rw [fo_bd (by decide), if_pos rfl]
    split
    · decide
    · exact (by decide : (0 : Int) ≤ (2 : Int32).toInt)
  have h3 : 0 ≤ (W3 τ (tN τ 3)).1.toInt := by
    unfold W3
    rw [fo_bd (by decide)]
    split
    · split
      · exact h2
      · exact (by decide : (0 : Int) ≤ (3 : Int32).toInt)
    · exact h2
  unfold W4
  rw [fo_bd (by decide)]
  split
  · split
    · exact h3
    · exact (by decide : (0 : Int) ≤ (4 : Int32).toInt)
  · exact h3
section
variable {b0 mi z1 z2 : Nat} {E : Nat → Nat} {O : Nat → Option mx_C} {s : rx_S} {G : mx_H} {Q : mx_O → mx_H → Prop}
theorem c10_link (R : rx_R b0 O z1 z2 s G) (hS : rx_in s) {τ : tx_T} (hT : MR s τ) (hV : TV τ) {w : Bool} (q1 : ∀ k, secO τ = some k → ∀ (s' : rx_S) (G' : mx_H), rx_R b0 O z1 z2 s' G' → mfr s s' → MR s' τ → rX s' 0 0 29 = .inl (.int 1) → rX s' 0 0 30 = .inl (.int 0) → rX s' 0 0 31 = .inl (.int 1) → rX s' 0 0 32 = .inl (.int (nI k)) → Q (.inl (some (.int 1))) G') (q2 : secO τ = none → ∀ (s' : rx_S) (G' : mx_H), rx_R b0 O z1 z2 s' G' → mfr s s' → NF s' τ w → rX s' 0 0 29 = .inl (.int 1) → rX s' 0 0 30 = .inl (.int (if (lkR τ w).1 = 0 then 1 else 0)) → rX s' 0 0 31 = .inl (.int (lkR τ w).1) → rX s' 0 0 32 = .inl (.int (lkR τ w).2) → ((lkR τ w).1 = 0 → AO τ ∧ VS s' (vR τ w).1 ∧ rX s' 0 0 49 = .inl (.int (nI (vR τ w).2)) ∧ PL s' τ w (vR τ w).1.1 ∧ vV τ (vR τ w).1 ∧ vPl τ w (vR τ w).1) → Q (.inl (some (.int (lkR τ w).1))) G') : mx_W (gt_P b0 mi E) mX10_link 0 (mx_en 0 [.ref (rA s 0 0), .int (b32 w)]) [] G Q := by
  refine w_aload_n dX10_link_0 rfl ?_
  refine r_inv0  dX10_link_1 mt_9_152 R rfl (hS _ _ rfl) rfl (lb rfl) (lb rfl) (lb rfl) (lb rfl) rfl (c10_told R hS hT.1 (fun _ Rt => ⟨_, rfl, ?_⟩))
  refine w_aload_n dX10_link_4 rfl ?_
  refine w_iconst (v := 1) dX10_link_5 (by decide) ?_
  refine r_puti  dX10_link_6 ft_9_139 Rt rfl (hS _ _ rfl) rfl (lb rfl) (fun h => by cases h) rfl rfl (fun G1 R1 => ?_)
  refine w_aload_n dX10_link_9 rfl ?_
  refine r_inv0  dX10_link_10 mt_9_269 R1 rfl (hS _ _ rfl) rfl (lb rfl) (lb rfl) (lb rfl) (lb rfl) rfl (c10_names (s := sX (m_told s) 0 0 29 (.inl (.int 1))) R1 hS hV (MR_X (k := 29) (MR_told hT) (by omega) rfl) (fun s1 G1 R2 hf1 hT1 hL1 hD1 hA1 => ⟨_, rfl, ?_⟩))
  have hS2 : rx_in s1 := hf1.inn hS
  have e29 : rX s1 0 0 29 = .inl (.int 1) := (hf1.2.2 29 rfl).trans sX_s
  have e30 : rX s1 0 0 30 = .inl (.int 0) := (hf1.2.2 30 rfl).trans rfl
  have e31 : rX s1 0 0 31 = .inl (.int 0) := (hf1.2.2 31 rfl).trans rfl
  have e32 : rX s1 0 0 32 = .inl (.int (-1)) := (hf1.2.2 32 rfl).trans rfl
  have hf0 : mfr s s1 := ((mfr.told s).X).tr hf1.w
  refine w_istore_n dX10_link_13 (lb rfl) ?_
  refine w_iload_n dX10_link_14 rfl ?_
  refine w_iconst (v := (-1)) dX10_link_15 (by decide) ?_
  refine w_icmp_eq (t := 27) dX10_link_16 rfl (fun h16 => ?_) (fun h16 => ?_)
  ·
    refine w_aload_n dX10_link_27 (show some (Value.ref (rA s 0 0)) = some (Value.ref (rA s1 0 0)) by rw [hf1.1]; rfl) ?_
    refine r_inv0  dX10_link_28 mt_9_276 R2 rfl (hS2 _ _ rfl) rfl (lb rfl) (lb rfl) (lb rfl) (lb rfl) rfl (c10_keepAll R2 hS2 hV ⟨hT1, hL1, hD1, hA1⟩ (fun s2 G2 R3 hf2 hN2 hq2 hv2 => ⟨_, rfl, ?_⟩))
    have hS3 : rx_in s2 := hf2.inn hS2
    refine w_aload_n dX10_link_31 (show some (Value.ref (rA s 0 0)) = some (Value.ref (rA s2 0 0)) by rw [hf2.1, hf1.1]; rfl) ?_
    refine w_iload_n dX10_link_32 rfl ?_
    refine r_inv1  dX10_link_33 mt_9_279 R3 rfl (hS3 _ _ rfl) rfl (lb rfl) (lb rfl) (lb rfl) (lb rfl) rfl (c10_foldAll R3 hS3 hV (w := w) ⟨hN2, hq2, hv2⟩ (fun s3 G3 R4 hf3 hK3 hI3 => ⟨_, rfl, ?_⟩))
    have hf9 : mfr s s3 := hf0.tr (hf2.w.tr hf3.w)
    have hsec0 : secO τ = none := (oI_none (fun j hj => by have := fst_lt hj; have := hV.1; omega)).mp h16
    have hm : mfk s1 s3 := hf2.tr hf3
    refine w_iconst (v := 0) dX10_link_36 (by decide) ?_
    refine w_istore_n dX10_link_37 (lb rfl) ?_
    refine c10_link_a hS hV (w := w) (tN τ 4 + 1) 0 _ _ _ (by omega) R4 (by omega) hf9 ⟨⟨hK3, hI3⟩, (hm.2.2 29 rfl).trans e29, (hm.2.2 30 rfl).trans e30⟩ ((hm.2.2 31 rfl).trans e31) ((hm.2.2 32 rfl).trans e32) (show some (Value.ref (rA s 0 0)) = some (Value.ref (rA s3 0 0)) by rw [hf3.1, hf2.1, hf1.1]; rfl) rfl (fun L s4 G R hf hZ h31 h32 h0 => ?_)
    refine w_iconst (v := 0) dX10_link_73 (by decide) ?_
    refine w_istore_n dX10_link_74 (lb rfl) ?_
    refine c10_link_b hS hV (tN τ 3 + 1) 0 _ _ _ (by omega) R (by omega) hf hZ h31 h32 h0 rfl (fun L s4 G R hf hZ h31 h32 h0 => ?_)
    refine w_iconst (v := 0) dX10_link_138 (by decide) ?_
    refine w_istore_n dX10_link_139 (lb rfl) ?_
    refine c10_link_c hS hV (tN τ 3 + 1) 0 _ _ _ (by omega) R (by omega) hf hZ h31 h32 h0 rfl (fun L s4 G R hf hZ h31 h32 h0 => ?_)
    have hS9 : rx_in s4 := hf.inn hS
    refine w_aload_n dX10_link_208 h0 ?_
    refine r_geti  dX10_link_209 ft_9_146 R rfl (hS9 _ _ rfl) rfl (lb rfl) h31 ?_
    refine r_if_lei (t := 220) dX10_link_212 rfl (fun h212 => ?_) (fun h212 => ?_)
    ·
      have hz : (W4 τ (tN τ 3)).1 = 0 := i32e (by have := W4_pos τ; have e0 : (0 : Int32).toInt = 0 := rfl; omega)
      have hlk : lkR τ w = W6 τ w (vR τ w).1 (tN τ 3) := if_pos hz
      have hO : AO τ := f4_AO hV (W4_0 hz)
      refine w_aload_n dX10_link_220 h0 ?_
      refine r_inv0  dX10_link_221 mt_9_283 R rfl (hS9 _ _ rfl) rfl (lb rfl) (lb rfl) (lb rfl) (lb rfl) rfl (c10_veneerAll R hS9 hV hZ.1 hO (fun s5 G5 R5 hf5 hF5 hW5 ht5 hvv hvp hP5 => ⟨_, rfl, ?_⟩))
      refine w_iconst (v := 0) dX10_link_224 (by decide) ?_
      refine w_istore_n dX10_link_225 (lb rfl) ?_
      have hZ5 : Z2 τ w s5 := ⟨⟨hF5, (hf5.2.2 29 rfl).trans hZ.2.1, (hf5.2.2 30 rfl).trans hZ.2.2⟩, hW5, ht5, hP5⟩
      refine c10_link_d hS hV hvv 5 0 _ _ _ (by omega) R5 (by omega) (hf.tr hf5.w) hZ5 ((hf5.2.2 31 rfl).trans h31) ((hf5.2.2 32 rfl).trans h32) (by rw [hf5.1]; exact h0) rfl (fun L s6 G R hf hZ h31 h32 h0 => ?_)
      refine w_iconst (v := 0) dX10_link_309 (by decide) ?_
      refine w_istore_n dX10_link_310 (lb rfl) ?_
      refine c10_link_f hS hV hvv hO hvp (tN τ 3 + 1) 0 _ _ _ (by omega) R (by omega) hf hZ h31 h32 h0 rfl (fun L s6 G R hf hZ h31 h32 h0 => ?_)
      exact c10_link_t hS hV hO hvv hvp R hf hZ (by rw [hlk]; exact h31) (by rw [hlk]; exact h32) h0 hsec0 q2
    ·
      refine w_aload_n dX10_link_215 h0 ?_
      refine r_geti  dX10_link_216 ft_9_146 R rfl (hS9 _ _ rfl) rfl (lb rfl) h31 ?_
      refine w_iret dX10_link_219 rfl rfl ?_
      have hne : ¬ (W4 τ (tN τ 3)).1 = 0 := fun e => by rw [e] at h212; exact absurd h212 (by decide)
      have hlk : lkR τ w = W4 τ (tN τ 3) := if_neg hne
      rw [← hlk] at h31 h32 hne
      have q3 := q2 hsec0 _ _ R hf hZ.1 hZ.2.1 (by rw [if_neg hne]; exact hZ.2.2) h31 h32 (fun e => absurd e hne)
      rw [hlk] at q3
      exact q3
  ·
    refine w_aload_n dX10_link_19 (show some (Value.ref (rA s 0 0)) = some (Value.ref (rA s1 0 0)) by rw [hf1.1]; rfl) ?_
    refine w_iconst (v := 1) dX10_link_20 (by decide) ?_
    refine w_iload_n dX10_link_21 rfl ?_
    refine r_inv2  dX10_link_22 mt_9_273 R2 rfl (hS2 _ _ rfl) rfl (lb rfl) (lb rfl) (lb rfl) (lb rfl) rfl (c10_bad R2 hS2 (Z := Z0 τ) ⟨hT1, e29, e30⟩ Z0_c (p := (0, -1)) e31 e32 (fun s2 G2 R3 hf2 hZ2 g31 g32 => ⟨_, rfl, ?_⟩))
    refine w_iconst (v := 1) dX10_link_25 (by decide) ?_
    refine w_iret dX10_link_26 rfl rfl ?_
    obtain ⟨k, hk⟩ : ∃ k, secO τ = some k := by
      cases e : secO τ with
      | none => exact absurd (by rw [e]; rfl) h16
      | some k => exact ⟨k, rfl⟩
    refine q1 k hk _ _ R3 (hf0.tr hf2) hZ2.1 hZ2.2.1 hZ2.2.2 g31 ?_
    rw [g32, hk]; rfl
theorem c10_fault (R : rx_R b0 O z1 z2 s G) (hS : rx_in s) {v : Int32} (hv : rX s 0 0 32 = .inl (.int v)) (q : Q (.inl (some (.int v))) G) : mx_W (gt_P b0 mi E) mX10_fault 0 (mx_en 0 [.ref (rA s 0 0)]) [] G Q := by
  refine w_aload_n dX10_fault_0 rfl ?_
  refine r_geti  dX10_fault_1 ft_9_82 R rfl (hS _ _ rfl) rfl (lb rfl) hv ?_
  exact w_iret dX10_fault_4 rfl rfl q
theorem c10_thrown (R : rx_R b0 O z1 z2 s G) (hS : rx_in s) {v : Int32} (hv : rX s 0 0 0 = .inl (.int v)) (q : Q (.inl (some (.int v))) G) : mx_W (gt_P b0 mi E) mX10_thrown 0 (mx_en 0 [.ref (rA s 0 0)]) [] G Q := by
  refine w_aload_n dX10_thrown_0 rfl ?_
  refine r_geti  dX10_thrown_1 ft_9_1 R rfl (hS _ _ rfl) rfl (lb rfl) hv ?_
  exact w_iret dX10_thrown_4 rfl rfl q
end
