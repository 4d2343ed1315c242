/-! ===== The garden is made ===== -/
def cP (j r i : Nat) : Prop := (r = j ∧ i = 0) ∨ ∃ f, cst j f = some (r, i)
def ow : Nat → Nat → Nat
  | 3, 0 => 3
  | 4, 0 => 4
  | 5, 0 => 5
  | 6, 0 => 6
  | 7, 0 => 7
  | 8, 0 => 3
  | 8, 1 => 3
  | 8, 2 => 3
  | 8, 3 => 5
  | 10, 0 => 3
  | 10, 1 => 3
  | 10, 2 => 4
  | 10, 3 => 4
  | 10, 4 => 7
  | 10, 5 => 7
  | 10, 6 => 7
  | 10, 7 => 7
  | 10, 8 => 7
  | _, _ => 99
theorem cP_ow {j r i : Nat} (h1 : 3 ≤ j) (h2 : j ≤ 7) (h : cP j r i) : ow r i = j := by
  rcases h with ⟨rfl, rfl⟩ | ⟨f, hf⟩
  · have : r = 3 ∨ r = 4 ∨ r = 5 ∨ r = 6 ∨ r = 7 := by omega
    rcases this with rfl | rfl | rfl | rfl | rfl <;> rfl
  · unfold cst at hf
    split at hf <;> first | (cases hf; done) | (cases hf; rfl) | (exfalso; omega)
/-- an object that stands, with what it has made -/
def oF (E6 : Nat) (s : rx_S) (j : Nat) (g : Nat → Value) : Prop := rU s j 0 = true ∧ (∀ f q, cst j f = some q → rX s j 0 f = .inr q ∧ rU s q.1 q.2 = true ∧ rX s q.1 q.2 = cdX E6 q ∧ rI s q.1 q.2 = cdI q ∧ rL s q.1 q.2 = cdL q) ∧ ∀ f, f < 8 → cst j f = none → rX s j 0 f = .inl (g f)
theorem oF_efr {E6 : Nat} {s s' : rx_S} {j : Nat} {g : Nat → Value} {P : Nat → Nat → Prop} (h : oF E6 s j g) (e : efr s s' P) (hd : ∀ r i, cP j r i → ¬ P r i) : oF E6 s' j g := by
  obtain ⟨h1, h2, h3⟩ := h
  obtain ⟨a1, a2, a3, a4, a5, a6, a7⟩ := e j 0 (hd j 0 (Or.inl ⟨rfl, rfl⟩))
  refine ⟨a2.trans h1, fun f q hq => ?_, fun f hf hn => (congrFun a4 f).trans (h3 f hf hn)⟩
  obtain ⟨b1, b2, b3, b4, b5⟩ := h2 f q hq
  obtain ⟨c1, c2, c3, c4, c5, c6, c7⟩ := e q.1 q.2 (hd q.1 q.2 (Or.inr ⟨f, hq⟩))
  exact ⟨(congrFun a4 f).trans b1, c2.trans b2, c4.trans b3, c5.trans b4, c6.trans b5⟩
theorem gk_step {E6 : Nat} {s s' : rx_S} {j f0 a : Nat} {g : Nat → Value} {K : Nat → Bool} (h1 : 3 ≤ j) (h2 : j ≤ 7) (hu : rU s 2 0 = true) (h : pK E6 (sNw s j 0 a 0 g) s' j (cP j) (crho j) K (rX (sNw s j 0 a 0 g) j 0)) (hK : ∀ f, f < 8 → K f = (cst j f).isSome) : efr s (sX s' 2 0 f0 (.inr (j, 0))) (fun r i => cP j r i ∨ (r = 2 ∧ i = 0)) ∧ (rA (sX s' 2 0 f0 (.inr (j, 0))) 2 0 = rA s 2 0 ∧ rU (sX s' 2 0 f0 (.inr (j, 0))) 2 0 = true ∧ rX (sX s' 2 0 f0 (.inr (j, 0))) 2 0 f0 = .inr (j, 0) ∧ ∀ f, f ≠ f0 → rX (sX s' 2 0 f0 (.inr (j, 0))) 2 0 f = rX s 2 0 f) ∧ oF E6 (sX s' 2 0 f0 (.inr (j, 0))) j g := by
  obtain ⟨e1, e2, e3, e4, e5, e6⟩ := h
  have n2 : ¬ cP j 2 0 := fun q => by have := cP_ow h1 h2 q; rw [show ow 2 0 = 99 from rfl] at this; omega
  have n3 : ¬ (2 = j ∧ 0 = 0) := fun q => by omega
  obtain ⟨a1, a2, a3, a4, a5, a6, a7⟩ := e1 2 0 n2
  refine ⟨?_, ⟨a1.trans ((Nw_A 2 0).trans (if_neg n3)), a2.trans ((Nw_U 2 0).trans ((if_neg n3).trans hu)), sX_s, fun f hf => ?_⟩, e3, fun f q hq => ?_, fun f hf hn => ?_⟩
  · refine efr.X (fun r i hn => ?_) (Or.inr ⟨rfl, rfl⟩)
    have e0 : efr s (sNw s j 0 a 0 g) (fun r i => cP j r i ∨ (r = 2 ∧ i = 0)) := efr.N (efr.rf _ _) (Or.inl (Or.inl ⟨rfl, rfl⟩))
    obtain ⟨b1, b2, b3, b4, b5, b6, b7⟩ := e1 r i (fun q => hn (Or.inl q))
    obtain ⟨c1, c2, c3, c4, c5, c6, c7⟩ := e0 r i hn
    exact ⟨b1.trans c1, b2.trans c2, b3.trans c3, b4.trans c4, b5.trans c5, b6.trans c6, b7.trans c7⟩
  · rw [sX_p (fun q => hf q.2.2), congrFun a4 f, Nw_X, if_neg n3]
  · obtain ⟨b1, b2⟩ := cst_lt hq
    have hk := e4 f (by rw [hK f (by omega), hq]; rfl)
    rw [show crho j f = q from by unfold crho; rw [hq]; rfl] at hk
    obtain ⟨c1, c2, c3, c4, c5⟩ := hk
    refine ⟨(sX_p (fun q => by omega)).trans c1, c2, ?_, c4, c5⟩
    rw [← c3]; funext x
    exact sX_p (fun z => n2 (Or.inr ⟨f, by rw [hq, ← z.1, ← z.2.1]⟩))
  · refine (sX_p (fun q => by omega)).trans ((e5 f (by rw [hK f hf, hn]; rfl)).trans ?_)
    rw [Nw_X, if_pos ⟨rfl, rfl⟩]
def g5 (f : Nat) : Value := bif Nat.blt f 5 then .null else .int 0
def τ0 : tx_T := (fun _ => 0, fun c _ => if c = 28 then -1 else 0, fun _ _ => 0)
theorem TV_0 : TV τ0 := ⟨⟨by decide, by decide, by decide, by decide, by decide, by decide⟩, fun i h => absurd h (Nat.not_lt_zero i), fun i h => absurd h (Nat.not_lt_zero i), fun i h => absurd h (Nat.not_lt_zero i), fun i h => absurd h (Nat.not_lt_zero i), fun k _ => by show iw (if 28 = 28 then -1 else 0) (-1) 2000000000; decide⟩
/-- the garden is as it begins -/
theorem CT_0 {E : Nat → Nat} {s : rx_S} (h3 : oF (E 6) s 3 g5) (h4 : oF (E 6) s 4 (fun _ => .null)) (h5 : oF (E 6) s 5 (fun _ => .null)) (h7 : oF (E 6) s 7 g5) (hg : ∀ f, f < 5 → rX s 2 0 f = .inr (f + 3, 0)) (hn : ∀ r i, ow r i = 99 → ¬ (r = 2 ∧ i = 0) → rU s r i = false) : CT E s τ0 := by
  have ls : ∀ i, i < 4 → rX s 8 i = cdX (E 6) (8, i) := fun i hi => by
    have : i = 0 ∨ i = 1 ∨ i = 2 ∨ i = 3 := by omega
    rcases this with rfl | rfl | rfl | rfl
    · exact (h3.2.1 0 (8, 0) rfl).2.2.1
    · exact (h3.2.1 1 (8, 1) rfl).2.2.1
    · exact (h3.2.1 2 (8, 2) rfl).2.2.1
    · exact (h5.2.1 0 (8, 3) rfl).2.2.1
  have rl : ∀ i, i < 4 → ∀ f, rLS (E 6) s 8 i 0 f := fun i hi f => by
    have e := ls i hi
    exact ⟨⟨0, by rw [e]; rfl⟩, by rw [e]; rfl, fun j hj => absurd hj (Nat.not_lt_zero j), Or.inl ⟨rfl, by rw [e]; rfl⟩⟩
  have nu : ∀ r i, ow r i = 99 → r ≠ 2 → rU s r i = false := fun r i h1 h2 => hn r i h1 (fun q => h2 q.1)
  refine ⟨fun r f q hq => ?_, ⟨h3.2.2 5 (by decide) rfl, h3.2.2 6 (by decide) rfl, h3.2.2 7 (by decide) rfl⟩, ⟨rl 0 (by decide) _, rl 1 (by decide) _, rl 2 (by decide) _, fun i hi => absurd hi (Nat.not_lt_zero i)⟩, ?_, fun i hi => absurd hi (Nat.not_lt_zero i), fun i hi => absurd hi (Nat.not_lt_zero i), fun i hi => absurd hi (Nat.not_lt_zero i), fun i hi => absurd hi (Nat.not_lt_zero i), fun k hk => ?_, fun i _ => ⟨nu 20 i rfl (by decide), nu 21 i rfl (by decide), nu 22 i rfl (by decide), fun p _ => nu 23 _ rfl (by decide)⟩, fun i _ => nu 24 i rfl (by decide), fun i _ => nu 25 i rfl (by decide), 0, fun _ => (0, 0), by decide, rl 3 (by decide) _⟩
  · obtain ⟨a1, a2⟩ := cst_lt hq
    have : r = 2 ∨ r = 3 ∨ r = 4 ∨ r = 5 ∨ r = 7 ∨ (r = 0 ∨ r = 1 ∨ r = 6) := by omega
    rcases this with rfl | rfl | rfl | rfl | rfl | h
    · rw [hg f a2]
      have h9 : f = 0 ∨ f = 1 ∨ f = 2 ∨ f = 3 ∨ f = 4 := by omega
      rcases h9 with rfl | rfl | rfl | rfl | rfl <;> (cases hq; rfl)
    · exact (h3.2.1 f q hq).1
    · exact (h4.2.1 f q hq).1
    · exact (h5.2.1 f q hq).1
    · exact (h7.2.1 f q hq).1
    · exfalso
      unfold cst at hq
      split at hq <;> first | (cases hq; done) | omega
  · intro r i r' i' a h1 h2 h3 h4 h5 h6
    exfalso
    rcases h1 with rfl | rfl | rfl
    · by_cases hi : i < 4
      · rw [ls i hi] at h5
        cases h5
      · have : rU s 8 i = false := nu 8 i (by
          match i, hi with
          | i + 4, _ => rfl) (by decide)
        rw [this] at h3; cases h3
    · rw [nu 21 i rfl (by decide)] at h3; cases h3
    · rw [nu 22 i rfl (by decide)] at h3; cases h3
  · rw [(h3.2.1 4 (10, 1) rfl).2.2.2.1]
    show (if k < 4 then (-1 : Int32) else 0) = if 28 = 28 then -1 else 0
    rw [if_pos hk]; rfl
section
variable {b0 mi z1 z2 : Nat} {E : Nat → Nat} {O : Nat → Option mx_C} {s : rx_S} {G : mx_H} {Q : mx_O → mx_H → Prop}
set_option maxHeartbeats 4000000 in
theorem c7_init (R : rx_R b0 O z1 z2 s G) (hu : rU s 3 0 = true) (hn : ∀ f q, cst 3 f = some q → rU s q.1 q.2 = false) (q : ∀ s' G' K, rx_R b0 O (z1 + 5) (z2 + 21) s' G' → pK (E 6) s s' 3 (cP 3) (crho 3) K (rX s 3 0) → (∀ f, f < 8 → K f = (cst 3 f).isSome) → Q (.inl none) G') : mx_W (gt_P b0 mi E) mX7_init 0 (mx_en 0 [.ref (rA s 3 0)]) [] G Q := by
  have hp : pK (E 6) s s 3 (cP 3) (crho 3) (fun _ => false) (rX s 3 0) := pK_rf hu (fun r i h1 h2 => by
    rcases h1 with h1 | ⟨f, hf⟩
    · exact absurd h1 h2
    · exact hn f (r, i) hf)
  refine w_aload_n dX7_init_0 rfl ?_
  refine w_obj dX7_init_1 mt_7_3 (lb rfl) (lb rfl) (lb rfl) ?_
  refine w_aload_n dX7_init_4 rfl ?_
  refine r_new 8 0 gLst dX7_init_5 nt_7_9 R (lb9 rfl) (pK_free hp crho_inj (f := 0) rfl (Or.inr ⟨0, rfl⟩) (by decide) rfl) ((rx_c_o rfl).trans rfl) (fun G1a R1a => ?_)
  refine w_dup dX7_init_8 rfl ?_
  refine r_spec0 dX7_init_9 mt_7_11 (by decide) (lb rfl) (lb rfl) (lb rfl) (lb rfl) rfl (c_linit R1a rfl (show rU (sNw s 8 0 G.2.1 0 gLst) 8 0 = true from Nw_s) (fun G1b R1b => ⟨_, rfl, ?_⟩))
  refine r_putr (r := 3) (i := 0) (q1 := 8) (q2 := 0) dX7_init_12 ft_7_12 R1b (hp.2.1) (show rU (sNw s 8 0 G.2.1 0 gLst) 3 0 = true from Nw_mono hp.2.2.1) rfl (lb rfl) (fun _ => ⟨rfl, rfl⟩) rfl rfl rfl (show rU (sNw s 8 0 G.2.1 0 gLst) 8 0 = true from Nw_s) (fun G1 R1c => ?_)
  obtain ⟨s1, R1, h1⟩ : ∃ s1, rx_R b0 O (z1 + 1) (z2 + 3) s1 G1 ∧ pK (E 6) s s1 3 _ (crho 3) (kU _ 0) (rX s 3 0) := ⟨_, rx_w R1c (by omega) (by simp only [List.length_cons, List.length_nil]; omega), pK_lst hp crho_inj (show cP 3 3 0 from Or.inl ⟨rfl, rfl⟩) (crho_0 (by decide)) (by decide) rfl (Or.inr ⟨0, rfl⟩)⟩
  refine w_aload_n dX7_init_15 rfl ?_
  refine r_new 8 1 gLst dX7_init_16 nt_7_9 R1 (lb9 rfl) (pK_free h1 crho_inj (f := 1) rfl (Or.inr ⟨1, rfl⟩) (by decide) rfl) ((rx_c_o rfl).trans rfl) (fun G2a R2a => ?_)
  refine w_dup dX7_init_19 rfl ?_
  refine r_spec0 dX7_init_20 mt_7_11 (by decide) (lb rfl) (lb rfl) (lb rfl) (lb rfl) rfl (c_linit R2a rfl (show rU (sNw s1 8 1 G1.2.1 0 gLst) 8 1 = true from Nw_s) (fun G2b R2b => ⟨_, rfl, ?_⟩))
  refine r_putr (r := 3) (i := 0) (q1 := 8) (q2 := 1) dX7_init_23 ft_7_18 R2b (h1.2.1) (show rU (sNw s1 8 1 G1.2.1 0 gLst) 3 0 = true from Nw_mono h1.2.2.1) rfl (lb rfl) (fun _ => ⟨rfl, rfl⟩) rfl rfl rfl (show rU (sNw s1 8 1 G1.2.1 0 gLst) 8 1 = true from Nw_s) (fun G2 R2c => ?_)
  obtain ⟨s2, R2, h2⟩ : ∃ s2, rx_R b0 O (z1 + 2) (z2 + 6) s2 G2 ∧ pK (E 6) s s2 3 _ (crho 3) (kU _ 1) (rX s 3 0) := ⟨_, rx_w R2c (by omega) (by simp only [List.length_cons, List.length_nil]; omega), pK_lst h1 crho_inj (show cP 3 3 0 from Or.inl ⟨rfl, rfl⟩) (crho_0 (by decide)) (by decide) rfl (Or.inr ⟨1, rfl⟩)⟩
  refine w_aload_n dX7_init_26 rfl ?_
  refine r_new 8 2 gLst dX7_init_27 nt_7_9 R2 (lb9 rfl) (pK_free h2 crho_inj (f := 2) rfl (Or.inr ⟨2, rfl⟩) (by decide) rfl) ((rx_c_o rfl).trans rfl) (fun G3a R3a => ?_)
  refine w_dup dX7_init_30 rfl ?_
  refine r_spec0 dX7_init_31 mt_7_11 (by decide) (lb rfl) (lb rfl) (lb rfl) (lb rfl) rfl (c_linit R3a rfl (show rU (sNw s2 8 2 G2.2.1 0 gLst) 8 2 = true from Nw_s) (fun G3b R3b => ⟨_, rfl, ?_⟩))
  refine r_putr (r := 3) (i := 0) (q1 := 8) (q2 := 2) dX7_init_34 ft_7_21 R3b (h2.2.1) (show rU (sNw s2 8 2 G2.2.1 0 gLst) 3 0 = true from Nw_mono h2.2.2.1) rfl (lb rfl) (fun _ => ⟨rfl, rfl⟩) rfl rfl rfl (show rU (sNw s2 8 2 G2.2.1 0 gLst) 8 2 = true from Nw_s) (fun G3 R3c => ?_)
  obtain ⟨s3, R3, h3⟩ : ∃ s3, rx_R b0 O (z1 + 3) (z2 + 9) s3 G3 ∧ pK (E 6) s s3 3 _ (crho 3) (kU _ 2) (rX s 3 0) := ⟨_, rx_w R3c (by omega) (by simp only [List.length_cons, List.length_nil]; omega), pK_lst h2 crho_inj (show cP 3 3 0 from Or.inl ⟨rfl, rfl⟩) (crho_0 (by decide)) (by decide) rfl (Or.inr ⟨2, rfl⟩)⟩
  refine w_aload_n dX7_init_37 rfl ?_
  refine w_bipush (v := nI 8) dX7_init_38 (by decide) ?_
  refine ci_i (f := 3) (rc := 10) (ic := 0) crho_inj (show cP 3 3 0 from Or.inl ⟨rfl, rfl⟩) (crho_0 (by decide)) h3 rfl rfl (Or.inr ⟨3, rfl⟩) rfl (fun _ => rfl) rfl rfl rfl (by decide) (lb rfl) dX7_init_40 dX7_init_42 ft_7_24 rfl (lb rfl) ⟨rfl, rfl⟩ (fun _ => rfl) (fun _ => rfl) R3 (fun s4 G4 R4w h4 => ?_)
  have R4 : rx_R b0 O (z1 + 4) (z2 + 17) s4 G4 := rx_w R4w (by omega) (by omega)
  refine w_aload_n dX7_init_45 rfl ?_
  refine w_iconst (v := nI 4) dX7_init_46 (by decide) ?_
  refine r_newi 10 1 dX7_init_47 (lb rfl) R4 (lb9 rfl) (pK_free h4 crho_inj (f := 4) rfl (Or.inr ⟨4, rfl⟩) (by decide) rfl) ((rx_c_n rfl (fun _ => rfl)).trans (by rw [rx_d_0])) (fun G5z R5z => ?_)
  refine w_dup dX7_init_49 rfl ?_
  refine w_iconst (v := nI 0) dX7_init_50 (by decide) ?_
  refine w_iconst (v := (-1)) dX7_init_51 (by decide) ?_
  refine r_iast (r := 10) (i := 1) dX7_init_52 R5z rfl (show rU (sNw s4 10 1 G4.2.1 4 (fun _ => .null)) 10 1 = true from Nw_s) rfl rfl (by decide) (lb rfl) (fun G5a R5a => ?_)
  refine w_dup dX7_init_53 rfl ?_
  refine w_iconst (v := nI 1) dX7_init_54 (by decide) ?_
  refine w_iconst (v := (-1)) dX7_init_55 (by decide) ?_
  refine r_iast (r := 10) (i := 1) dX7_init_56 R5a rfl (show rU (sNw s4 10 1 G4.2.1 4 (fun _ => .null)) 10 1 = true from Nw_s) rfl rfl (by decide) (lb rfl) (fun G5b R5b => ?_)
  refine w_dup dX7_init_57 rfl ?_
  refine w_iconst (v := nI 2) dX7_init_58 (by decide) ?_
  refine w_iconst (v := (-1)) dX7_init_59 (by decide) ?_
  refine r_iast (r := 10) (i := 1) dX7_init_60 R5b rfl (show rU (sNw s4 10 1 G4.2.1 4 (fun _ => .null)) 10 1 = true from Nw_s) rfl rfl (by decide) (lb rfl) (fun G5c R5c => ?_)
  refine w_dup dX7_init_61 rfl ?_
  refine w_iconst (v := nI 3) dX7_init_62 (by decide) ?_
  refine w_iconst (v := (-1)) dX7_init_63 (by decide) ?_
  refine r_iast (r := 10) (i := 1) dX7_init_64 R5c rfl (show rU (sNw s4 10 1 G4.2.1 4 (fun _ => .null)) 10 1 = true from Nw_s) rfl rfl (by decide) (lb rfl) (fun G5d R5d => ?_)
  refine r_putr (r := 3) (i := 0) (q1 := 10) (q2 := 1) dX7_init_65 ft_7_28 R5d h4.2.1 (show rU (sNw s4 10 1 G4.2.1 4 (fun _ => .null)) 3 0 = true from Nw_mono h4.2.2.1) rfl (lb rfl) (fun _ => ⟨rfl, rfl⟩) rfl rfl rfl (show rU (sNw s4 10 1 G4.2.1 4 (fun _ => .null)) 10 1 = true from Nw_s) (fun G5 R5e => ?_)
  obtain ⟨s5, R5, h5⟩ : ∃ s5, rx_R b0 O (z1 + 5) (z2 + 21) s5 G5 ∧ pK (E 6) s s5 3 _ (crho 3) (kU _ 4) _ := ⟨_, rx_w R5e (by omega) (by omega), pK_bI h4 crho_inj (show cP 3 3 0 from Or.inl ⟨rfl, rfl⟩) (crho_0 (by decide)) (by decide) rfl (Or.inr ⟨4, rfl⟩)⟩
  refine w_ret dX7_init_68 rfl ?_
  exact q _ _ _ R5 h5 (by decide)
set_option maxHeartbeats 4000000 in
theorem c2_init (R : rx_R b0 O z1 z2 s G) (hu : rU s 4 0 = true) (hn : ∀ f q, cst 4 f = some q → rU s q.1 q.2 = false) (q : ∀ s' G' K, rx_R b0 O (z1 + 2) (z2 + 80) s' G' → pK (E 6) s s' 4 (cP 4) (crho 4) K (rX s 4 0) → (∀ f, f < 8 → K f = (cst 4 f).isSome) → Q (.inl none) G') : mx_W (gt_P b0 mi E) mX2_init 0 (mx_en 0 [.ref (rA s 4 0)]) [] G Q := by
  have hp : pK (E 6) s s 4 (cP 4) (crho 4) (fun _ => false) (rX s 4 0) := pK_rf hu (fun r i h1 h2 => by
    rcases h1 with h1 | ⟨f, hf⟩
    · exact absurd h1 h2
    · exact hn f (r, i) hf)
  refine w_aload_n dX2_init_0 rfl ?_
  refine w_obj dX2_init_1 mt_2_3 (lb rfl) (lb rfl) (lb rfl) ?_
  refine w_aload_n dX2_init_4 rfl ?_
  refine w_bipush (v := nI 16) dX2_init_5 (by decide) ?_
  refine ci_i (f := 0) (rc := 10) (ic := 2) crho_inj (show cP 4 4 0 from Or.inl ⟨rfl, rfl⟩) (crho_0 (by decide)) hp rfl rfl (Or.inr ⟨0, rfl⟩) rfl (fun _ => rfl) rfl rfl rfl (by decide) (lb rfl) dX2_init_7 dX2_init_9 ft_2_9 rfl (lb rfl) ⟨rfl, rfl⟩ (fun _ => rfl) (fun _ => rfl) R (fun s1 G1 R1w h1 => ?_)
  have R1 : rx_R b0 O (z1 + 1) (z2 + 16) s1 G1 := rx_w R1w (by omega) (by omega)
  refine w_aload_n dX2_init_12 rfl ?_
  refine w_bipush (v := nI 64) dX2_init_13 (by decide) ?_
  refine ci_A (f := 1) (rc := 10) (ic := 3) crho_inj (show cP 4 4 0 from Or.inl ⟨rfl, rfl⟩) (crho_0 (by decide)) h1 rfl rfl (Or.inr ⟨1, rfl⟩) rfl (fun _ => rfl) rfl rfl rfl (by decide) (lb rfl) dX2_init_15 at_2_15 dX2_init_18 ft_2_17 rfl (lb rfl) ⟨rfl, rfl⟩ (fun _ => rfl) (fun _ => rfl) R1 (fun s2 G2 R2w h2 => ?_)
  have R2 : rx_R b0 O (z1 + 2) (z2 + 80) s2 G2 := rx_w R2w (by omega) (by omega)
  refine w_ret dX2_init_21 rfl ?_
  exact q _ _ _ R2 h2 (by decide)
set_option maxHeartbeats 4000000 in
theorem c1_init (R : rx_R b0 O z1 z2 s G) (hu : rU s 5 0 = true) (hn : ∀ f q, cst 5 f = some q → rU s q.1 q.2 = false) (q : ∀ s' G' K, rx_R b0 O (z1 + 1) (z2 + 3) s' G' → pK (E 6) s s' 5 (cP 5) (crho 5) K (rX s 5 0) → (∀ f, f < 8 → K f = (cst 5 f).isSome) → Q (.inl none) G') : mx_W (gt_P b0 mi E) mX1_init 0 (mx_en 0 [.ref (rA s 5 0)]) [] G Q := by
  have hp : pK (E 6) s s 5 (cP 5) (crho 5) (fun _ => false) (rX s 5 0) := pK_rf hu (fun r i h1 h2 => by
    rcases h1 with h1 | ⟨f, hf⟩
    · exact absurd h1 h2
    · exact hn f (r, i) hf)
  refine w_aload_n dX1_init_0 rfl ?_
  refine w_obj dX1_init_1 mt_1_3 (lb rfl) (lb rfl) (lb rfl) ?_
  refine w_aload_n dX1_init_4 rfl ?_
  refine r_new 8 3 gLst dX1_init_5 nt_1_9 R (lb9 rfl) (pK_free hp crho_inj (f := 0) rfl (Or.inr ⟨0, rfl⟩) (by decide) rfl) ((rx_c_o rfl).trans rfl) (fun G1a R1a => ?_)
  refine w_dup dX1_init_8 rfl ?_
  refine r_spec0 dX1_init_9 mt_1_11 (by decide) (lb rfl) (lb rfl) (lb rfl) (lb rfl) rfl (c_linit R1a rfl (show rU (sNw s 8 3 G.2.1 0 gLst) 8 3 = true from Nw_s) (fun G1b R1b => ⟨_, rfl, ?_⟩))
  refine r_putr (r := 5) (i := 0) (q1 := 8) (q2 := 3) dX1_init_12 ft_1_12 R1b (hp.2.1) (show rU (sNw s 8 3 G.2.1 0 gLst) 5 0 = true from Nw_mono hp.2.2.1) rfl (lb rfl) (fun _ => ⟨rfl, rfl⟩) rfl rfl rfl (show rU (sNw s 8 3 G.2.1 0 gLst) 8 3 = true from Nw_s) (fun G1 R1c => ?_)
  obtain ⟨s1, R1, h1⟩ : ∃ s1, rx_R b0 O (z1 + 1) (z2 + 3) s1 G1 ∧ pK (E 6) s s1 5 _ (crho 5) (kU _ 0) (rX s 5 0) := ⟨_, rx_w R1c (by omega) (by simp only [List.length_cons, List.length_nil]; omega), pK_lst hp crho_inj (show cP 5 5 0 from Or.inl ⟨rfl, rfl⟩) (crho_0 (by decide)) (by decide) rfl (Or.inr ⟨0, rfl⟩)⟩
  refine w_ret dX1_init_15 rfl ?_
  exact q _ _ _ R1 h1 (by decide)
set_option maxHeartbeats 4000000 in
theorem c0_init (R : rx_R b0 O z1 z2 s G) (hu : rU s 6 0 = true) (hn : ∀ f q, cst 6 f = some q → rU s q.1 q.2 = false) (q : ∀ s' G' K, rx_R b0 O (z1 + 0) (z2 + 0) s' G' → pK (E 6) s s' 6 (cP 6) (crho 6) K (rX s 6 0) → (∀ f, f < 8 → K f = (cst 6 f).isSome) → Q (.inl none) G') : mx_W (gt_P b0 mi E) mX0_init 0 (mx_en 0 [.ref (rA s 6 0)]) [] G Q := by
  have hp : pK (E 6) s s 6 (cP 6) (crho 6) (fun _ => false) (rX s 6 0) := pK_rf hu (fun r i h1 h2 => by
    rcases h1 with h1 | ⟨f, hf⟩
    · exact absurd h1 h2
    · exact hn f (r, i) hf)
  refine w_aload_n dX0_init_0 rfl ?_
  refine w_obj dX0_init_1 mt_0_3 (lb rfl) (lb rfl) (lb rfl) ?_
  refine w_ret dX0_init_4 rfl ?_
  exact q _ _ _ R hp (by decide)
set_option maxHeartbeats 4000000 in
theorem c3_init (R : rx_R b0 O z1 z2 s G) (hu : rU s 7 0 = true) (hn : ∀ f q, cst 7 f = some q → rU s q.1 q.2 = false) (q : ∀ s' G' K, rx_R b0 O (z1 + 5) (z2 + 28) s' G' → pK (E 6) s s' 7 (cP 7) (crho 7) K (rX s 7 0) → (∀ f, f < 8 → K f = (cst 7 f).isSome) → Q (.inl none) G') : mx_W (gt_P b0 mi E) mX3_init 0 (mx_en 0 [.ref (rA s 7 0)]) [] G Q := by
  have hp : pK (E 6) s s 7 (cP 7) (crho 7) (fun _ => false) (rX s 7 0) := pK_rf hu (fun r i h1 h2 => by
    rcases h1 with h1 | ⟨f, hf⟩
    · exact absurd h1 h2
    · exact hn f (r, i) hf)
  refine w_aload_n dX3_init_0 rfl ?_
  refine w_obj dX3_init_1 mt_3_3 (lb rfl) (lb rfl) (lb rfl) ?_
  refine w_aload_n dX3_init_4 rfl ?_
  refine w_iconst (v := nI 4) dX3_init_5 (by decide) ?_
  refine ci_l (f := 0) (rc := 10) (ic := 4) crho_inj (show cP 7 7 0 from Or.inl ⟨rfl, rfl⟩) (crho_0 (by decide)) hp rfl rfl (Or.inr ⟨0, rfl⟩) rfl (fun _ => rfl) rfl rfl rfl (by decide) (lb rfl) dX3_init_6 dX3_init_8 ft_3_9 rfl (lb rfl) ⟨rfl, rfl⟩ (fun _ => rfl) (fun _ => rfl) R (fun s1 G1 R1w h1 => ?_)
  have R1 : rx_R b0 O (z1 + 1) (z2 + 4) s1 G1 := rx_w R1w (by omega) (by omega)
  refine w_aload_n dX3_init_11 rfl ?_
  refine w_iconst (v := nI 4) dX3_init_12 (by decide) ?_
  refine ci_l (f := 1) (rc := 10) (ic := 5) crho_inj (show cP 7 7 0 from Or.inl ⟨rfl, rfl⟩) (crho_0 (by decide)) h1 rfl rfl (Or.inr ⟨1, rfl⟩) rfl (fun _ => rfl) rfl rfl rfl (by decide) (lb rfl) dX3_init_13 dX3_init_15 ft_3_15 rfl (lb rfl) ⟨rfl, rfl⟩ (fun _ => rfl) (fun _ => rfl) R1 (fun s2 G2 R2w h2 => ?_)
  have R2 : rx_R b0 O (z1 + 2) (z2 + 8) s2 G2 := rx_w R2w (by omega) (by omega)
  refine w_aload_n dX3_init_18 rfl ?_
  refine w_iconst (v := nI 4) dX3_init_19 (by decide) ?_
  refine ci_z (f := 2) (rc := 10) (ic := 6) crho_inj (show cP 7 7 0 from Or.inl ⟨rfl, rfl⟩) (crho_0 (by decide)) h2 rfl rfl (Or.inr ⟨2, rfl⟩) rfl (fun _ => rfl) rfl rfl rfl (by decide) (lb rfl) dX3_init_20 dX3_init_22 ft_3_18 rfl (lb rfl) ⟨rfl, rfl⟩ (fun _ => rfl) (fun _ => rfl) R2 (fun s3 G3 R3w h3 => ?_)
  have R3 : rx_R b0 O (z1 + 3) (z2 + 12) s3 G3 := rx_w R3w (by omega) (by omega)
  refine w_aload_n dX3_init_25 rfl ?_
  refine w_bipush (v := nI 8) dX3_init_26 (by decide) ?_
  refine ci_l (f := 3) (rc := 10) (ic := 7) crho_inj (show cP 7 7 0 from Or.inl ⟨rfl, rfl⟩) (crho_0 (by decide)) h3 rfl rfl (Or.inr ⟨3, rfl⟩) rfl (fun _ => rfl) rfl rfl rfl (by decide) (lb rfl) dX3_init_28 dX3_init_30 ft_3_22 rfl (lb rfl) ⟨rfl, rfl⟩ (fun _ => rfl) (fun _ => rfl) R3 (fun s4 G4 R4w h4 => ?_)
  have R4 : rx_R b0 O (z1 + 4) (z2 + 20) s4 G4 := rx_w R4w (by omega) (by omega)
  refine w_aload_n dX3_init_33 rfl ?_
  refine w_bipush (v := nI 8) dX3_init_34 (by decide) ?_
  refine ci_l (f := 4) (rc := 10) (ic := 8) crho_inj (show cP 7 7 0 from Or.inl ⟨rfl, rfl⟩) (crho_0 (by decide)) h4 rfl rfl (Or.inr ⟨4, rfl⟩) rfl (fun _ => rfl) rfl rfl rfl (by decide) (lb rfl) dX3_init_36 dX3_init_38 ft_3_25 rfl (lb rfl) ⟨rfl, rfl⟩ (fun _ => rfl) (fun _ => rfl) R4 (fun s5 G5 R5w h5 => ?_)
  have R5 : rx_R b0 O (z1 + 5) (z2 + 28) s5 G5 := rx_w R5w (by omega) (by omega)
  refine w_ret dX3_init_41 rfl ?_
  exact q _ _ _ R5 h5 (by decide)
set_option maxHeartbeats 4000000 in
theorem c9_init (R : rx_R b0 O z1 z2 s G) (hu : rU s 2 0 = true) (hx : ∀ f, rX s 2 0 f = .inl (g5 f)) (hn : ∀ r i, ¬ (r = 2 ∧ i = 0) → rU s r i = false) (q : ∀ s' G', rx_R b0 O (z1 + 18) (z2 + 151) s' G' → CT E s' τ0 → GT s' → rA s' 2 0 = rA s 2 0 → (∀ r i, ow r i = 99 → ¬ (r = 2 ∧ i = 0) → rU s' r i = false) → (∀ r i, rx_s r i = true → r ≠ 0 → r ≠ 1 → r ≠ 26 → rU s' r i = true) → Q (.inl none) G') : mx_W (gt_P b0 mi E) mX9_init 0 (mx_en 0 [.ref (rA s 2 0)]) [] G Q := by
  have nu2 := hn
  have nx3 : ∀ (t : rx_S) (a : Nat), (∀ r i, ¬ (r = 2 ∧ i = 0) → rU t r i = false) → ∀ f q, cst 3 f = some q → rU (sNw t 3 0 a 0 g5) q.1 q.2 = false := fun t a hn f q hq => by
    have h9 := cP_ow (j := 3) (by decide) (by decide) (Or.inr ⟨f, hq⟩)
    have h0 : ¬ (q.1 = 3 ∧ q.2 = 0) := fun z => crho_0 (r := 3) (by decide) f (by unfold crho; rw [hq]; exact Prod.ext z.1 z.2)
    refine (Nw_U q.1 q.2).trans ((if_neg h0).trans (hn q.1 q.2  (fun z => ?_)))
    rw [z.1, z.2] at h9; cases h9
  have nx4 : ∀ (t : rx_S) (a : Nat), (∀ r i, ow r i ≠ 3 → ¬ (r = 2 ∧ i = 0) → rU t r i = false) → ∀ f q, cst 4 f = some q → rU (sNw t 4 0 a 0 (fun _ => .null)) q.1 q.2 = false := fun t a hn f q hq => by
    have h9 := cP_ow (j := 4) (by decide) (by decide) (Or.inr ⟨f, hq⟩)
    have h0 : ¬ (q.1 = 4 ∧ q.2 = 0) := fun z => crho_0 (r := 4) (by decide) f (by unfold crho; rw [hq]; exact Prod.ext z.1 z.2)
    refine (Nw_U q.1 q.2).trans ((if_neg h0).trans (hn q.1 q.2 (by rw [h9]; decide) (fun z => ?_)))
    rw [z.1, z.2] at h9; cases h9
  have nx5 : ∀ (t : rx_S) (a : Nat), (∀ r i, ow r i ≠ 3 → ow r i ≠ 4 → ¬ (r = 2 ∧ i = 0) → rU t r i = false) → ∀ f q, cst 5 f = some q → rU (sNw t 5 0 a 0 (fun _ => .null)) q.1 q.2 = false := fun t a hn f q hq => by
    have h9 := cP_ow (j := 5) (by decide) (by decide) (Or.inr ⟨f, hq⟩)
    have h0 : ¬ (q.1 = 5 ∧ q.2 = 0) := fun z => crho_0 (r := 5) (by decide) f (by unfold crho; rw [hq]; exact Prod.ext z.1 z.2)
    refine (Nw_U q.1 q.2).trans ((if_neg h0).trans (hn q.1 q.2 (by rw [h9]; decide) (by rw [h9]; decide) (fun z => ?_)))
    rw [z.1, z.2] at h9; cases h9
  have nx6 : ∀ (t : rx_S) (a : Nat), (∀ r i, ow r i ≠ 3 → ow r i ≠ 4 → ow r i ≠ 5 → ¬ (r = 2 ∧ i = 0) → rU t r i = false) → ∀ f q, cst 6 f = some q → rU (sNw t 6 0 a 0 (fun _ => .int 0)) q.1 q.2 = false := fun t a hn f q hq => by
    have h9 := cP_ow (j := 6) (by decide) (by decide) (Or.inr ⟨f, hq⟩)
    have h0 : ¬ (q.1 = 6 ∧ q.2 = 0) := fun z => crho_0 (r := 6) (by decide) f (by unfold crho; rw [hq]; exact Prod.ext z.1 z.2)
    refine (Nw_U q.1 q.2).trans ((if_neg h0).trans (hn q.1 q.2 (by rw [h9]; decide) (by rw [h9]; decide) (by rw [h9]; decide) (fun z => ?_)))
    rw [z.1, z.2] at h9; cases h9
  have nx7 : ∀ (t : rx_S) (a : Nat), (∀ r i, ow r i ≠ 3 → ow r i ≠ 4 → ow r i ≠ 5 → ow r i ≠ 6 → ¬ (r = 2 ∧ i = 0) → rU t r i = false) → ∀ f q, cst 7 f = some q → rU (sNw t 7 0 a 0 g5) q.1 q.2 = false := fun t a hn f q hq => by
    have h9 := cP_ow (j := 7) (by decide) (by decide) (Or.inr ⟨f, hq⟩)
    have h0 : ¬ (q.1 = 7 ∧ q.2 = 0) := fun z => crho_0 (r := 7) (by decide) f (by unfold crho; rw [hq]; exact Prod.ext z.1 z.2)
    refine (Nw_U q.1 q.2).trans ((if_neg h0).trans (hn q.1 q.2 (by rw [h9]; decide) (by rw [h9]; decide) (by rw [h9]; decide) (by rw [h9]; decide) (fun z => ?_)))
    rw [z.1, z.2] at h9; cases h9
  refine w_aload_n dX9_init_0 rfl ?_
  refine w_obj dX9_init_1 mt_8_1 (lb rfl) (lb rfl) (lb rfl) ?_
  refine w_aload_n dX9_init_4 rfl ?_
  refine r_new 3 0 g5 dX9_init_5 nt_8_7 R (lb9 rfl) (nu2 3 0 (by decide)) ((rx_c_o rfl).trans rfl) (fun G3a R3a => ?_)
  refine w_dup dX9_init_8 rfl ?_
  refine r_spec0 dX9_init_9 mt_8_9 (by decide) (lb rfl) (lb rfl) (lb rfl) (lb rfl) rfl (c7_init (s := (sNw s 3 0 G.2.1 0 g5)) R3a (show rU (sNw s 3 0 G.2.1 0 g5) 3 0 = true from Nw_s) (fun f q hq => nx3 s G.2.1 nu2 f q hq) (fun s3b G3b K3 R3b h3b hK3 => ⟨_, rfl, ?_⟩))
  obtain ⟨e3, ⟨A3, U3, X3, Y3⟩, F3⟩ := gk_step (f0 := 0) (by decide) (by decide) hu h3b hK3
  refine r_putr (r := 2) (i := 0) (q1 := 3) (q2 := 0) dX9_init_12 ft_8_10 R3b (A3.trans rfl) U3 rfl (lb rfl) (fun _ => ⟨rfl, rfl⟩) h3b.2.1 rfl rfl h3b.2.2.1 (fun G3 R3c => ?_)
  have R3 := rx_w (z1' := z1 + 6) (z2' := z2 + 29) R3c (by omega) (by simp only [List.length_cons, List.length_nil]; omega)
  clear R3c
  generalize (sX s3b 2 0 0 (.inr (3, 0))) = s3 at e3 A3 U3 X3 Y3 F3 R3
  have AA3 := A3
  have nu3 : ∀ r i, ow r i ≠ 3 → ¬ (r = 2 ∧ i = 0) → rU s3 r i = false := fun r i q3 q2 => (e3 r i (fun q => q.elim (fun q => q3 (cP_ow (by decide) (by decide) q)) q2)).2.1.trans (nu2 r i  q2)
  refine w_aload_n dX9_init_15 rfl ?_
  refine r_new 4 0 (fun _ => .null) dX9_init_16 nt_8_16 R3 (lb9 rfl) (nu3 4 0 (by decide) (by decide)) ((rx_c_o rfl).trans rfl) (fun G4a R4a => ?_)
  refine w_dup dX9_init_19 rfl ?_
  refine r_spec0 dX9_init_20 mt_8_18 (by decide) (lb rfl) (lb rfl) (lb rfl) (lb rfl) rfl (c2_init (s := (sNw s3 4 0 G3.2.1 0 (fun _ => .null))) R4a (show rU (sNw s3 4 0 G3.2.1 0 (fun _ => .null)) 4 0 = true from Nw_s) (fun f q hq => nx4 s3 G3.2.1 nu3 f q hq) (fun s4b G4b K4 R4b h4b hK4 => ⟨_, rfl, ?_⟩))
  obtain ⟨e4, ⟨A4, U4, X4, Y4⟩, F4⟩ := gk_step (f0 := 1) (by decide) (by decide) U3 h4b hK4
  refine r_putr (r := 2) (i := 0) (q1 := 4) (q2 := 0) dX9_init_23 ft_8_19 R4b (A4.trans AA3) U4 rfl (lb rfl) (fun _ => ⟨rfl, rfl⟩) h4b.2.1 rfl rfl h4b.2.2.1 (fun G4 R4c => ?_)
  have R4 := rx_w (z1' := z1 + 9) (z2' := z2 + 111) R4c (by omega) (by simp only [List.length_cons, List.length_nil]; omega)
  clear R4c
  generalize (sX s4b 2 0 1 (.inr (4, 0))) = s4 at e4 A4 U4 X4 Y4 F4 R4
  have AA4 := A4.trans AA3
  have nu4 : ∀ r i, ow r i ≠ 3 → ow r i ≠ 4 → ¬ (r = 2 ∧ i = 0) → rU s4 r i = false := fun r i q3 q4 q2 => (e4 r i (fun q => q.elim (fun q => q4 (cP_ow (by decide) (by decide) q)) q2)).2.1.trans (nu3 r i q3 q2)
  refine w_aload_n dX9_init_26 rfl ?_
  refine r_new 5 0 (fun _ => .null) dX9_init_27 nt_8_23 R4 (lb9 rfl) (nu4 5 0 (by decide) (by decide) (by decide)) ((rx_c_o rfl).trans rfl) (fun G5a R5a => ?_)
  refine w_dup dX9_init_30 rfl ?_
  refine r_spec0 dX9_init_31 mt_8_25 (by decide) (lb rfl) (lb rfl) (lb rfl) (lb rfl) rfl (c1_init (s := (sNw s4 5 0 G4.2.1 0 (fun _ => .null))) R5a (show rU (sNw s4 5 0 G4.2.1 0 (fun _ => .null)) 5 0 = true from Nw_s) (fun f q hq => nx5 s4 G4.2.1 nu4 f q hq) (fun s5b G5b K5 R5b h5b hK5 => ⟨_, rfl, ?_⟩))
  obtain ⟨e5, ⟨A5, U5, X5, Y5⟩, F5⟩ := gk_step (f0 := 2) (by decide) (by decide) U4 h5b hK5
  refine r_putr (r := 2) (i := 0) (q1 := 5) (q2 := 0) dX9_init_34 ft_8_26 R5b (A5.trans AA4) U5 rfl (lb rfl) (fun _ => ⟨rfl, rfl⟩) h5b.2.1 rfl rfl h5b.2.2.1 (fun G5 R5c => ?_)
  have R5 := rx_w (z1' := z1 + 11) (z2' := z2 + 115) R5c (by omega) (by simp only [List.length_cons, List.length_nil]; omega)
  clear R5c
  generalize (sX s5b 2 0 2 (.inr (5, 0))) = s5 at e5 A5 U5 X5 Y5 F5 R5
  have AA5 := A5.trans AA4
  have nu5 : ∀ r i, ow r i ≠ 3 → ow r i ≠ 4 → ow r i ≠ 5 → ¬ (r = 2 ∧ i = 0) → rU s5 r i = false := fun r i q3 q4 q5 q2 => (e5 r i (fun q => q.elim (fun q => q5 (cP_ow (by decide) (by decide) q)) q2)).2.1.trans (nu4 r i q3 q4 q2)
  refine w_aload_n dX9_init_37 rfl ?_
  refine r_new 6 0 (fun _ => .int 0) dX9_init_38 nt_8_30 R5 (lb9 rfl) (nu5 6 0 (by decide) (by decide) (by decide) (by decide)) ((rx_c_o rfl).trans rfl) (fun G6a R6a => ?_)
  refine w_dup dX9_init_41 rfl ?_
  refine r_spec0 dX9_init_42 mt_8_32 (by decide) (lb rfl) (lb rfl) (lb rfl) (lb rfl) rfl (c0_init (s := (sNw s5 6 0 G5.2.1 0 (fun _ => .int 0))) R6a (show rU (sNw s5 6 0 G5.2.1 0 (fun _ => .int 0)) 6 0 = true from Nw_s) (fun f q hq => nx6 s5 G5.2.1 nu5 f q hq) (fun s6b G6b K6 R6b h6b hK6 => ⟨_, rfl, ?_⟩))
  obtain ⟨e6, ⟨A6, U6, X6, Y6⟩, F6⟩ := gk_step (f0 := 3) (by decide) (by decide) U5 h6b hK6
  refine r_putr (r := 2) (i := 0) (q1 := 6) (q2 := 0) dX9_init_45 ft_8_33 R6b (A6.trans AA5) U6 rfl (lb rfl) (fun _ => ⟨rfl, rfl⟩) h6b.2.1 rfl rfl h6b.2.2.1 (fun G6 R6c => ?_)
  have R6 := rx_w (z1' := z1 + 12) (z2' := z2 + 116) R6c (by omega) (by simp only [List.length_cons, List.length_nil]; omega)
  clear R6c
  generalize (sX s6b 2 0 3 (.inr (6, 0))) = s6 at e6 A6 U6 X6 Y6 F6 R6
  have AA6 := A6.trans AA5
  have nu6 : ∀ r i, ow r i ≠ 3 → ow r i ≠ 4 → ow r i ≠ 5 → ow r i ≠ 6 → ¬ (r = 2 ∧ i = 0) → rU s6 r i = false := fun r i q3 q4 q5 q6 q2 => (e6 r i (fun q => q.elim (fun q => q6 (cP_ow (by decide) (by decide) q)) q2)).2.1.trans (nu5 r i q3 q4 q5 q2)
  refine w_aload_n dX9_init_48 rfl ?_
  refine r_new 7 0 g5 dX9_init_49 nt_8_37 R6 (lb9 rfl) (nu6 7 0 (by decide) (by decide) (by decide) (by decide) (by decide)) ((rx_c_o rfl).trans rfl) (fun G7a R7a => ?_)
  refine w_dup dX9_init_52 rfl ?_
  refine r_spec0 dX9_init_53 mt_8_39 (by decide) (lb rfl) (lb rfl) (lb rfl) (lb rfl) rfl (c3_init (s := (sNw s6 7 0 G6.2.1 0 g5)) R7a (show rU (sNw s6 7 0 G6.2.1 0 g5) 7 0 = true from Nw_s) (fun f q hq => nx7 s6 G6.2.1 nu6 f q hq) (fun s7b G7b K7 R7b h7b hK7 => ⟨_, rfl, ?_⟩))
  obtain ⟨e7, ⟨A7, U7, X7, Y7⟩, F7⟩ := gk_step (f0 := 4) (by decide) (by decide) U6 h7b hK7
  refine r_putr (r := 2) (i := 0) (q1 := 7) (q2 := 0) dX9_init_56 ft_8_40 R7b (A7.trans AA6) U7 rfl (lb rfl) (fun _ => ⟨rfl, rfl⟩) h7b.2.1 rfl rfl h7b.2.2.1 (fun G7 R7c => ?_)
  have R7 := rx_w (z1' := z1 + 18) (z2' := z2 + 151) R7c (by omega) (by simp only [List.length_cons, List.length_nil]; omega)
  clear R7c
  generalize (sX s7b 2 0 4 (.inr (7, 0))) = s7 at e7 A7 U7 X7 Y7 F7 R7
  have AA7 := A7.trans AA6
  have nu7 : ∀ r i, ow r i ≠ 3 → ow r i ≠ 4 → ow r i ≠ 5 → ow r i ≠ 6 → ow r i ≠ 7 → ¬ (r = 2 ∧ i = 0) → rU s7 r i = false := fun r i q3 q4 q5 q6 q7 q2 => (e7 r i (fun q => q.elim (fun q => q7 (cP_ow (by decide) (by decide) q)) q2)).2.1.trans (nu6 r i q3 q4 q5 q6 q2)
  refine w_aload_n dX9_init_59 rfl ?_
  refine w_iconst (v := (-1)) dX9_init_60 (by decide) ?_
  refine r_puti (r := 2) (i := 0) dX9_init_61 ft_8_44 R7 AA7 U7 rfl (lb rfl) (fun h => by cases h) rfl rfl (fun G9 R9 => ?_)
  refine w_ret dX9_init_64 rfl ?_
  have dj : ∀ j j' r i, 3 ≤ j → j ≤ 7 → 3 ≤ j' → j' ≤ 7 → j ≠ j' → cP j r i → ¬ (cP j' r i ∨ (r = 2 ∧ i = 0)) := fun j j' r i a1 a2 b1 b2 hne hc hq => by
    have h9 := cP_ow a1 a2 hc
    rcases hq with hq | ⟨q1, q2⟩
    · exact hne (h9.symm.trans (cP_ow b1 b2 hq))
    · rw [q1, q2] at h9; rw [show ow 2 0 = 99 from rfl] at h9; omega
  have F3_4 := oF_efr F3 e4 (fun r i hc => dj 3 4 r i (by decide) (by decide) (by decide) (by decide) (by decide) hc)
  have F3_5 := oF_efr F3_4 e5 (fun r i hc => dj 3 5 r i (by decide) (by decide) (by decide) (by decide) (by decide) hc)
  have F3_6 := oF_efr F3_5 e6 (fun r i hc => dj 3 6 r i (by decide) (by decide) (by decide) (by decide) (by decide) hc)
  have F3_7 := oF_efr F3_6 e7 (fun r i hc => dj 3 7 r i (by decide) (by decide) (by decide) (by decide) (by decide) hc)
  have F4_5 := oF_efr F4 e5 (fun r i hc => dj 4 5 r i (by decide) (by decide) (by decide) (by decide) (by decide) hc)
  have F4_6 := oF_efr F4_5 e6 (fun r i hc => dj 4 6 r i (by decide) (by decide) (by decide) (by decide) (by decide) hc)
  have F4_7 := oF_efr F4_6 e7 (fun r i hc => dj 4 7 r i (by decide) (by decide) (by decide) (by decide) (by decide) hc)
  have F5_6 := oF_efr F5 e6 (fun r i hc => dj 5 6 r i (by decide) (by decide) (by decide) (by decide) (by decide) hc)
  have F5_7 := oF_efr F5_6 e7 (fun r i hc => dj 5 7 r i (by decide) (by decide) (by decide) (by decide) (by decide) hc)
  have F6_7 := oF_efr F6 e7 (fun r i hc => dj 6 7 r i (by decide) (by decide) (by decide) (by decide) (by decide) hc)
  have ef : ∀ j, 3 ≤ j → j ≤ 7 → ∀ g, oF (E 6) s7 j g → oF (E 6) (sX s7 2 0 7 (.inl (.int (-1)))) j g := fun j a1 a2 g h => oF_efr (P := fun r i => r = 2 ∧ i = 0) h (efr.X (efr.rf _ _) ⟨rfl, rfl⟩) (fun r i hc q => by
    have h9 := cP_ow a1 a2 hc
    rw [q.1, q.2] at h9; rw [show ow 2 0 = 99 from rfl] at h9; omega)
  have gx : ∀ f, f ≠ 0 → f ≠ 1 → f ≠ 2 → f ≠ 3 → f ≠ 4 → rX s7 2 0 f = .inl (g5 f) := fun f a0 a1 a2 a3 a4 => (Y7 f a4).trans ((Y6 f a3).trans ((Y5 f a2).trans ((Y4 f a1).trans ((Y3 f a0).trans (hx f)))))
  have nn : ∀ r i, ow r i = 99 → ¬ (r = 2 ∧ i = 0) → rU (sX s7 2 0 7 (.inl (.int (-1)))) r i = false := fun r i h1 h2 => nu7 r i (by rw [h1]; decide) (by rw [h1]; decide) (by rw [h1]; decide) (by rw [h1]; decide) (by rw [h1]; decide) h2
  refine q _ _ R9 (CT_0 (ef 3 (by decide) (by decide) _ F3_7) (ef 4 (by decide) (by decide) _ F4_7) (ef 5 (by decide) (by decide) _ F5_7) (ef 7 (by decide) (by decide) _ F7) (fun f hf => ?_) nn) ⟨?_, ?_, sX_s⟩ AA7 (fun r i h1 h2 => nn r i h1 h2) (fun r i hr h0 h1 h26 => ?_)
  · refine (sX_p (fun q => by omega)).trans ?_
    have h9 : f = 0 ∨ f = 1 ∨ f = 2 ∨ f = 3 ∨ f = 4 := by omega
    rcases h9 with rfl | rfl | rfl | rfl | rfl
    · exact (Y7 0 (by decide)).trans ((Y6 0 (by decide)).trans ((Y5 0 (by decide)).trans ((Y4 0 (by decide)).trans X3)))
    · exact (Y7 1 (by decide)).trans ((Y6 1 (by decide)).trans ((Y5 1 (by decide)).trans X4))
    · exact (Y7 2 (by decide)).trans ((Y6 2 (by decide)).trans X5)
    · exact (Y7 3 (by decide)).trans X6
    · exact X7
  · exact (sX_p (fun q => by omega)).trans (gx 5 (by decide) (by decide) (by decide) (by decide) (by decide))
  · exact (sX_p (fun q => by omega)).trans (gx 6 (by decide) (by decide) (by decide) (by decide) (by decide))
  · show rU s7 r i = true
    unfold rx_s at hr
    split at hr
    · exact absurd rfl h0
    · exact absurd rfl h1
    · have e := Nat.eq_of_beq_eq_true hr; subst e; exact U7
    · have e := Nat.eq_of_beq_eq_true hr; subst e; exact F3_7.1
    · have e := Nat.eq_of_beq_eq_true hr; subst e; exact F4_7.1
    · have e := Nat.eq_of_beq_eq_true hr; subst e; exact F5_7.1
    · have e := Nat.eq_of_beq_eq_true hr; subst e; exact F6_7.1
    · have e := Nat.eq_of_beq_eq_true hr; subst e; exact F7.1
    · have e : i < 4 := blt_l hr
      have : i = 0 ∨ i = 1 ∨ i = 2 ∨ i = 3 := by omega
      rcases this with rfl | rfl | rfl | rfl
      · exact (F3_7.2.1 0 (8, 0) rfl).2.1
      · exact (F3_7.2.1 1 (8, 1) rfl).2.1
      · exact (F3_7.2.1 2 (8, 2) rfl).2.1
      · exact (F5_7.2.1 0 (8, 3) rfl).2.1
    · have e : i < 9 := blt_l hr
      have : i = 0 ∨ i = 1 ∨ i = 2 ∨ i = 3 ∨ i = 4 ∨ i = 5 ∨ i = 6 ∨ i = 7 ∨ i = 8 := by omega
      rcases this with rfl | rfl | rfl | rfl | rfl | rfl | rfl | rfl | rfl
      · exact (F3_7.2.1 3 (10, 0) rfl).2.1
      · exact (F3_7.2.1 4 (10, 1) rfl).2.1
      · exact (F4_7.2.1 0 (10, 2) rfl).2.1
      · exact (F4_7.2.1 1 (10, 3) rfl).2.1
      · exact (F7.2.1 0 (10, 4) rfl).2.1
      · exact (F7.2.1 1 (10, 5) rfl).2.1
      · exact (F7.2.1 2 (10, 6) rfl).2.1
      · exact (F7.2.1 3 (10, 7) rfl).2.1
      · exact (F7.2.1 4 (10, 8) rfl).2.1
    · exact absurd rfl h26
    · cases hr
end
