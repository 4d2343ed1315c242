/-! ===== The law begins ===== -/
def gM (f : Nat) : Value := bif Nat.blt 0 (rx_m f).2 then .null else .int 0
theorem MR_q {s s' : rx_S} {τ : tx_T} (h : MR s τ) (x : rX s' 0 0 = rX s 0 0) (i : rI s' 1 = rI s 1) (l : rL s' 1 = rL s 1) : MR s' τ := by
  have h1 : MR (nrm (rX s 0 0) (rI s 1) (rL s 1)) τ := h
  show MR (nrm (rX s' 0 0) (rI s' 1) (rL s' 1)) τ
  rw [x, i, l]
  exact h1
theorem efr_e {s s' : rx_S} {P : Nat → Nat → Prop} (h : efr s s' P) (hp : ∀ r i, r ≠ 0 → r ≠ 1 → r ≠ 26 → ¬ P r i) : clE s s' := fun r h0 h1 h2 =>
  ⟨funext fun i => (h r i (hp r i h0 h1 h2)).1, funext fun i => (h r i (hp r i h0 h1 h2)).2.1, funext fun i => (h r i (hp r i h0 h1 h2)).2.2.2.1, funext fun i => (h r i (hp r i h0 h1 h2)).2.2.2.2.1, funext fun i => (h r i (hp r i h0 h1 h2)).2.2.2.2.2.1, funext fun i => (h r i (hp r i h0 h1 h2)).2.2.2.2.2.2, funext fun i => (h r i (hp r i h0 h1 h2)).2.2.1⟩
theorem MR_0 {E6 : Nat} {s s' : rx_S} {K : Nat → Bool} (h : pK E6 s s' 0 mP mrho K (fun g => if g = 32 then .inl (.int (-1)) else rX s 0 0 g)) (hK : ∀ f, f < 54 → K f = Nat.blt 0 (rx_m f).2) (hg : ∀ f, rX s 0 0 f = .inl (gM f)) : MR s' τ0 ∧ MT s' := by
  obtain ⟨h1, h2, h3, h4, h5, h6⟩ := h
  have u : ∀ f, f < 54 → (rx_m f).2 = 0 → f ≠ 32 → rX s' 0 0 f = .inl (.int 0) := fun f hf hz hn => by
    have k0 : K f = false := by rw [hK f hf, hz]; rfl
    refine (h5 f k0).trans ((if_neg hn).trans ((hg f).trans ?_))
    unfold gM; rw [hz]; rfl
  have u2 : rX s' 0 0 32 = .inl (.int (-1)) := (h5 32 ((hK 32 (by decide)).trans rfl)).trans (if_pos rfl)
  refine ⟨⟨⟨fun k hk hp => (h4 k ((hK k hk).trans (blt_t hp))).1, fun k hk hz => ?_⟩, ⟨u 1 (by decide) rfl (by decide), u 2 (by decide) rfl (by decide), u 13 (by decide) rfl (by decide), u 14 (by decide) rfl (by decide), u 20 (by decide) rfl (by decide), u 26 (by decide) rfl (by decide)⟩, fun i hi => absurd hi (Nat.not_lt_zero i), ⟨fun _ => 0, 0, u 12 (by decide) rfl (by decide), Nat.le_refl _, fun i hi => absurd hi (Nat.not_lt_zero i), fun i i' _ hi => absurd hi (Nat.not_lt_zero i')⟩, fun i hi => absurd hi (Nat.not_lt_zero i), fun i hi => absurd hi (Nat.not_lt_zero i), fun i hi => absurd hi (Nat.not_lt_zero i), fun k hk => ?_⟩, u 29 (by decide) rfl (by decide), u 30 (by decide) rfl (by decide), u 31 (by decide) rfl (by decide), u2⟩
  · by_cases e : k = 32
    · rw [e]; exact ⟨-1, u2⟩
    · exact ⟨0, u k hk hz e⟩
  · have hc := congrFun (h4 28 ((hK 28 (by decide)).trans rfl)).2.2.2.2 k
    refine hc.trans ?_
    show (if k < 4 then (-1 : Int64) else 0) = (if 28 = 28 then (-1 : Int32) else 0).toInt64
    rw [if_pos hk]; decide
def LI (b0 : Nat) (O : Nat → Option mx_C) (E : Nat → Nat) (g0 m0 a0 i : Nat) (s : rx_S) (G : mx_H) (τ : tx_T) (l : Option Bool) : Prop :=
  rx_R b0 O (b0 + 60 + 61 * i) (67418 + 6006 * i) s G ∧ rx_in s ∧ TV τ ∧ CL E s τ l ∧ ML s τ l ∧ pz s i ∧ rA s 2 0 = g0 ∧ rA s 0 0 = m0 ∧ rA s 26 0 = a0
def LQ (b g0 m0 a0 n : Nat) (L : mx_L) : Prop := L 0 = some (.ref b) ∧ L 1 = some (.ref g0) ∧ L 2 = some (.ref m0) ∧ L 3 = some (.ref a0) ∧ L 4 = some (.int (nI n))
theorem rx_m_54 {i : Nat} (h : Nat.blt 0 (rx_m i).2 = true) : i < 54 := Nat.lt_of_not_le (fun hi => by
  have e : rx_m i = (0, 0) := by
    unfold rx_m
    rw [List.getD_eq_getElem?_getD, List.getElem?_eq_none (by simpa using hi)]; rfl
  rw [e] at h; cases h)
section
variable {b0 mi : Nat} {E : Nat → Nat} {O : Nat → Option mx_C} {s : rx_S} {G : mx_H} {Q : mx_O → mx_H → Prop}
set_option maxHeartbeats 4000000 in
theorem lw_begin (R : rx_R b0 O b0 0 s G) (hn : ∀ r i, rU s r i = false) {b : Nat} (k9 : ∀ s' G' g0 m0 a0 L, LI b0 O E g0 m0 a0 0 s' G' τ0 none → LQ b g0 m0 a0 0 L → mx_W (gt_P b0 mi E) mL_law 23 L [] G' Q) : mx_W (gt_P b0 mi E) mL_law 0 (mx_en 0 [.ref b]) [] G Q := by
  refine r_new 2 0 g5 dL_law_0 nt_12_8 R (lb9 rfl) (hn 2 0) ((rx_c_o rfl).trans rfl) (fun G1 R1 => ?_)
  have x1 : ∀ f, rX (sNw s 2 0 G.2.1 0 g5) 2 0 f = .inl (g5 f) := fun f => (Nw_X 2 0 f).trans (if_pos ⟨rfl, rfl⟩)
  have x2 : ∀ r i, ¬ (r = 2 ∧ i = 0) → rU (sNw s 2 0 G.2.1 0 g5) r i = false := fun r i h => (Nw_U r i).trans ((if_neg h).trans (hn r i))
  have x3 : rU (sNw s 2 0 G.2.1 0 g5) 2 0 = true := Nw_s
  obtain ⟨s1, es1⟩ : ∃ s1, s1 = sNw s 2 0 G.2.1 0 g5 := ⟨_, rfl⟩
  rw [← es1] at R1 x1 x2 x3 ⊢
  refine w_dup dL_law_3 rfl ?_
  refine r_spec0 dL_law_4 mt_12_24 (by decide) (lb rfl) (lb rfl) (lb rfl) (lb rfl) rfl (c9_init R1 x3 x1 x2 (fun s2 G2 R2 T2 GT2 A2 U2 V2 => ⟨_, rfl, ?_⟩))
  refine w_astore_n dL_law_7 (lb rfl) ?_
  refine r_new 0 0 gM dL_law_8 nt_12_25 R2 (lb9 rfl) (U2 0 0 rfl (by decide)) ((rx_c_o rfl).trans rfl) (fun G3 R3 => ?_)
  have y1 : ∀ f, rX (sNw s2 0 0 G2.2.1 0 gM) 0 0 f = .inl (gM f) := fun f => (Nw_X 0 0 f).trans (if_pos ⟨rfl, rfl⟩)
  have y2 : rU (sNw s2 0 0 G2.2.1 0 gM) 0 0 = true := Nw_s
  have y3 : ∀ k, rU (sNw s2 0 0 G2.2.1 0 gM) 1 k = false := fun k => (Nw_U 1 k).trans ((if_neg (fun q => absurd q.1 (by decide))).trans (U2 1 k rfl (fun q => absurd q.1 (by decide))))
  have y4 : ∀ r i, rU s2 r i = true → rU (sNw s2 0 0 G2.2.1 0 gM) r i = true := fun r i h => Nw_mono h
  have y5 : rU (sNw s2 0 0 G2.2.1 0 gM) 26 0 = false := (Nw_U 26 0).trans ((if_neg (fun q => absurd q.1 (by decide))).trans (U2 26 0 rfl (by decide)))
  have y6 : rA (sNw s2 0 0 G2.2.1 0 gM) 2 0 = rA s1 2 0 := (Nw_A 2 0).trans ((if_neg (fun q => absurd q.1 (by decide))).trans A2)
  have y7 : efr s2 (sNw s2 0 0 G2.2.1 0 gM) (fun r _ => r = 0 ∨ r = 1 ∨ r = 26) := efr.N (efr.rf _ _) (Or.inl rfl)
  obtain ⟨s3, es3⟩ : ∃ s3, s3 = sNw s2 0 0 G2.2.1 0 gM := ⟨_, rfl⟩
  rw [← es3] at R3 y1 y2 y3 y4 y5 y6 y7 ⊢
  refine w_dup dL_law_11 rfl ?_
  refine r_spec0 dL_law_12 mt_12_27 (by decide) (lb rfl) (lb rfl) (lb rfl) (lb rfl) rfl (c10_init0 R3 y2 y3 (fun s4 G4 K4 R4 P4 K4e => ⟨_, rfl, ?_⟩))
  refine w_astore_n dL_law_15 (lb rfl) ?_
  refine w_iconst (v := nI 1) dL_law_16 (by decide) ?_
  have n26 : ¬ mP 26 0 := fun q => by rcases q with q | q <;> omega
  have n2 : ¬ mP 2 0 := fun q => by rcases q with q | q <;> omega
  refine r_newl 26 0 dL_law_17 (lb rfl) R4 (lb9 rfl) ((P4.1 26 0 n26).2.1.trans y5) ((rx_c_n rfl (fun _ => rfl)).trans (by rw [rx_d_1])) (fun G5 R5 => ?_)
  refine w_astore_n dL_law_19 (lb rfl) ?_
  refine w_iconst (v := nI 0) dL_law_20 (by decide) ?_
  refine w_istore dL_law_21 (lb rfl) ?_
  obtain ⟨m1, m2⟩ := MR_0 P4 K4e y1
  have z1 : rX (sNw s4 26 0 G4.2.1 1 (fun _ => .null)) 0 0 = rX s4 0 0 := funext fun f => (Nw_X 0 0 f).trans (if_neg (fun q => absurd q.1 (by decide)))
  have z2 : rI (sNw s4 26 0 G4.2.1 1 (fun _ => .null)) 1 = rI s4 1 := funext fun i => funext fun f => (Nw_I 1 i f).trans (if_neg (fun q => absurd q.1 (by decide)))
  have z3 : rL (sNw s4 26 0 G4.2.1 1 (fun _ => .null)) 1 = rL s4 1 := funext fun i => funext fun f => (Nw_L 1 i f).trans (if_neg (fun q => absurd q.1 (by decide)))
  have z4 : rA (sNw s4 26 0 G4.2.1 1 (fun _ => .null)) 2 0 = rA s1 2 0 := (Nw_A 2 0).trans ((if_neg (fun q => absurd q.1 (by decide))).trans ((P4.1 2 0 n2).1.trans y6))
  have z5 : rA (sNw s4 26 0 G4.2.1 1 (fun _ => .null)) 0 0 = rA s3 0 0 := (Nw_A 0 0).trans ((if_neg (fun q => absurd q.1 (by decide))).trans P4.2.1)
  have z6 : ∀ r i, rU s4 r i = true → rU (sNw s4 26 0 G4.2.1 1 (fun _ => .null)) r i = true := fun r i h => Nw_mono h
  have z7 : rU (sNw s4 26 0 G4.2.1 1 (fun _ => .null)) 26 0 = true := Nw_s
  have z8 : efr s2 (sNw s4 26 0 G4.2.1 1 (fun _ => .null)) (fun r _ => r = 0 ∨ r = 1 ∨ r = 26) := efr.N (efr.tr y7 (fun r i h => P4.1 r i (fun q => h (by rcases q with q | q; exact Or.inl q.1; exact Or.inr (Or.inl q))))) (Or.inr (Or.inr rfl))
  obtain ⟨s5, es5⟩ : ∃ s5, s5 = sNw s4 26 0 G4.2.1 1 (fun _ => .null) := ⟨_, rfl⟩
  rw [← es5] at R5 z1 z2 z3 z4 z5 z6 z7 z8 ⊢
  have ce : clE s2 s5 := efr_e z8 (fun r i h0 h1 h2 q => by rcases q with q | q | q; exact h0 q; exact h1 q; exact h2 q)
  refine k9 s5 G5 (rA s1 2 0) (rA s3 0 0) (rA s5 26 0) _ ⟨rx_w R5 ?_ ?_, fun r i hr => ?_, TV_0, CL_told (CT_e T2 ce) (GT_e GT2 ce), ML_told (MR_q m1 z1 z2 z3) ?_, pz_e (fun i m u x => by rw [U2 22 i rfl (fun q => absurd q.1 (by decide))] at u; cases u) ce, z4, z5, rfl⟩ ⟨rfl, rfl, rfl, rfl, rfl⟩
  · omega
  · simp only [List.length_cons, List.length_nil]; omega
  · by_cases e26 : r = 26
    · subst e26
      obtain rfl : i = 0 := Nat.eq_of_beq_eq_true hr
      exact z7
    · refine z6 r i ?_
      by_cases e0 : r = 0
      · subst e0
        obtain rfl : i = 0 := Nat.eq_of_beq_eq_true hr
        exact P4.2.2.1
      · by_cases e1 : r = 1
        · subst e1
          have hr2 : Nat.blt 0 (rx_m i).2 = true := hr
          exact (P4.2.2.2.1 i ((K4e i (rx_m_54 hr2)).trans hr2)).2.1
        · have nP : ¬ mP r i := fun q => by rcases q with q | q; exact e0 q.1; exact e1 q
          exact (P4.1 r i nP).2.1.trans (y4 r i (V2 r i hr e0 e1 e26))
  · unfold MT
    rw [z1]; exact m2
end
