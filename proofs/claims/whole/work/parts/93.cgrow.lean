/-! ===== What is told grows ===== -/
theorem u2_self (f : Nat → Nat → Int32) (k i : Nat) (v : Int32) : u2 f k i v k i = v := by rw [u2_if, if_pos ⟨rfl, rfl⟩]
theorem CT_sec {b0 z1 z2 : Nat} {O : Nat → Option mx_C} {E : Nat → Nat} {s s3 s4 : rx_S} {G3 : mx_H} {τ : tx_T} (h : CT E s τ) (hV : TV τ) (hS : rx_in s) (R3 : rx_R b0 O z1 z2 s3 G3) {o k z a sd : Int32} (e3 : efr s s3 (fun r i => (r = 20 ∨ r = 21 ∨ r = 22) ∧ i = tN τ 1)) (u20 : rU s3 20 (tN τ 1) = true) (fS : rX s3 20 (tN τ 1) 0 = .inl (.int (nI (tN τ 1))) ∧ rX s3 20 (tN τ 1) 1 = .inl (.int o) ∧ rX s3 20 (tN τ 1) 2 = .inl (.int k) ∧ rX s3 20 (tN τ 1) 3 = .inl (.int z) ∧ rX s3 20 (tN τ 1) 4 = .inl (.int a) ∧ rX s3 20 (tN τ 1) 5 = .inl (.int sd) ∧ rX s3 20 (tN τ 1) 6 = .inr (21, tN τ 1) ∧ rX s3 20 (tN τ 1) 7 = .inr (22, tN τ 1) ∧ rX s3 20 (tN τ 1) 8 = .inl (.int 0) ∧ rX s3 20 (tN τ 1) 9 = .inl (.int (-1)) ∧ rX s3 20 (tN τ 1) 10 = .inl (.int (-1))) (fL : rU s3 21 (tN τ 1) = true ∧ rX s3 21 (tN τ 1) 0 = .inl (.int 0) ∧ rX s3 21 (tN τ 1) 1 = .inl (.ref (E 6)) ∧ rX s3 21 (tN τ 1) 2 = .inl (.int 0)) (fP : rU s3 22 (tN τ 1) = true ∧ rX s3 22 (tN τ 1) 0 = .inl (.int 0) ∧ rX s3 22 (tN τ 1) 1 = .inl (.ref (E 6)) ∧ rX s3 22 (tN τ 1) 2 = .inl (.int 0)) (hl : lfr s3 s4 8 0) (r4 : rLS (E 6) s4 8 0 (tN τ 1 + 1) (fun j => if j = tN τ 1 then (20, tN τ 1) else (20, j))) : CT E (sX s4 3 0 7 (.inl (.int (nI (tN τ 5 + cl z))))) (u1 (u1 τ.1 1 (tN τ 1 + 1)) 5 (tN τ 5 + cl z), u2 (u2 (u2 (u2 (u2 (u2 (u2 τ.2.1 3 (tN τ 1) o) 4 (tN τ 1) k) 5 (tN τ 1) z) 6 (tN τ 1) a) 8 (tN τ 1) 0) 9 (tN τ 1) (-1)) 10 (tN τ 1) (-1), fun i j => if i = tN τ 1 then (sd + nI j) &&& 255 else τ.2.2 i j) := by
  obtain ⟨h1, ⟨h2a, h2b, h2c⟩, ⟨h3a, h3b, h3c, h3d⟩, h4, h5, h6, h7, h8, h9, h10, h11, h12, n13, f13, hn13, h13⟩ := h
  obtain ⟨l1, l2, l3, l4, l5, l6, l7, l8⟩ := id hl
  have X4 : ∀ r i f, r ≠ 9 → ¬ (r = 8 ∧ i = 0) → ¬ ((r = 20 ∨ r = 21 ∨ r = 22) ∧ i = tN τ 1) → rX s4 r i f = rX s r i f := fun r i f a b c => (l4 r i f a b).trans (congrFun ((e3 r i c).2.2.2.1) f)
  have U4 : ∀ r i, r ≠ 9 → ¬ ((r = 20 ∨ r = 21 ∨ r = 22) ∧ i = tN τ 1) → rU s4 r i = rU s r i := fun r i a b => ((l6 r i a).1).trans (e3 r i b).2.1
  have P9 : ∀ a, ¬ ((9 = 20 ∨ 9 = 21 ∨ 9 = 22) ∧ a = tN τ 1) := fun a => by omega
  have own3 : OWN s3 := OWN_efr h4 e3 (fun r i hr hp b => by
    obtain ⟨hp1, rfl⟩ := hp
    have : r = 21 ∨ r = 22 := by omega
    rcases this with rfl | rfl
    · rw [fL.2.2.1]; exact fun q => by cases q
    · rw [fP.2.2.1]; exact fun q => by cases q)
  have us : ∀ r i, rx_s r i = true → r ≠ 20 → r ≠ 21 → r ≠ 22 → rU s3 r i = true := fun r i q q1 q2 q3 => by rw [(e3 r i (by omega)).2.1]; exact hS r i q
  have own4 : OWN s4 := OWN_lfr own3 R3 (Or.inl rfl) hl (us 8 0 rfl (by omega) (by omega) (by omega))
  have T' : ∀ f i, i ≠ tN τ 1 → tT (u1 (u1 τ.1 1 (tN τ 1 + 1)) 5 (tN τ 5 + cl z), u2 (u2 (u2 (u2 (u2 (u2 (u2 τ.2.1 3 (tN τ 1) o) 4 (tN τ 1) k) 5 (tN τ 1) z) 6 (tN τ 1) a) 8 (tN τ 1) 0) 9 (tN τ 1) (-1)) 10 (tN τ 1) (-1), fun i j => if i = tN τ 1 then (sd + nI j) &&& 255 else τ.2.2 i j) f i = tT τ f i := fun f i e => by
    show u2 _ 10 (tN τ 1) (-1) f i = _
    rw [u2_if, if_neg (fun q => e q.2), u2_if, if_neg (fun q => e q.2), u2_if, if_neg (fun q => e q.2), u2_if, if_neg (fun q => e q.2), u2_if, if_neg (fun q => e q.2), u2_if, if_neg (fun q => e q.2), u2_if, if_neg (fun q => e q.2)]
  have n0 : rlN τ (tN τ 1) = 0 := by
    have : ∀ n, n ≤ tN τ 3 → cnt (rlB τ (tN τ 1)) n = 0 := by
      intro n
      induction n with
      | zero => intro _; rfl
      | succ n ih =>
        intro hn
        rw [cnt, ih (by omega)]
        have hq := (hV.2.2.2.1 n (by omega)).1.2
        have : rlB τ (tN τ 1) n = false := by
          unfold rlB
          cases e : tT τ 21 n == nI (tN τ 1)
          · rfl
          · have e := beq_iff_eq.mp e
            rw [e, nI_toInt (by have := hV.1; omega)] at hq; omega
        rw [this]; rfl
    exact this _ (Nat.le_refl _)
  have LT : ∀ r i n f, (r = 8 ∨ r = 21 ∨ r = 22) → ¬ (r = 8 ∧ i = 0) → ¬ ((r = 20 ∨ r = 21 ∨ r = 22) ∧ i = tN τ 1) → rU s r i = true → rLS (E 6) s r i n f → rLS (E 6) s4 r i n f := fun r i n f a b c u hh =>
    rLS_lfr (rLS_efr hh e3 c P9) hl b (by omega) (fun w x y => b (by have := own3 r i 8 0 w a (Or.inl rfl) (by rw [(e3 r i c).2.1]; exact u) (us 8 0 rfl (by omega) (by omega) (by omega)) x y; omega))
  refine ⟨fun r f q e => (sX_p (fun x => by rw [x.1, x.2.2] at e; cases e)).trans ((X4 r 0 f (fun x => by rw [x] at e; cases e) (fun x => by rw [x.1] at e; cases e) (fun x => by rcases x.1 with x | x | x <;> rw [x] at e <;> cases e)).trans (h1 r f q e)), ⟨(sX_p (by omega)).trans ((X4 3 0 5 (by omega) (by omega) (by omega)).trans h2a), (sX_p (by omega)).trans ((X4 3 0 6 (by omega) (by omega) (by omega)).trans h2b), sX_s⟩, ⟨rLS_X (by
    have : (fun j => if j = tN τ 1 then (20, tN τ 1) else (20, j)) = (fun j => ((20, j) : Nat × Nat)) := by
      funext j
      by_cases e : j = tN τ 1
      · rw [if_pos e, e]
      · rw [if_neg e]
    rw [this] at r4; exact r4) (by omega), rLS_X (LT 8 1 _ _ (Or.inl rfl) (by omega) (by omega) (hS _ _ rfl) h3b) (by omega), rLS_X (LT 8 2 _ _ (Or.inl rfl) (by omega) (by omega) (hS _ _ rfl) h3c) (by omega), fun i hi => rLS_X ?_ (by omega)⟩, OWN_X own4 (by omega) (by omega), fun i hi => ?_, fun j hj => ?_, fun j hj => ?_, fun j hj => ?_, fun j hj => ?_, fun i hi => ?_, fun j hj => ?_, fun j hj => ?_, n13, f13, hn13, rLS_X (LT 8 3 _ _ (Or.inl rfl) (by omega) (by omega) (hS _ _ rfl) h13) (by omega)⟩
  · show rLS (E 6) s4 21 i (rlN τ i) (fun j => (25, rlG τ i j))
    by_cases e : i = tN τ 1
    · subst e
      rw [n0]
      exact rLS_lfr (s := s3) ⟨⟨0, fL.2.1⟩, fL.2.2.2, fun j hj => absurd hj (Nat.not_lt_zero _), Or.inl ⟨rfl, fL.2.2.1⟩⟩ hl (by omega) (by omega) (fun w x => by rw [fL.2.2.1] at x; cases x)
    · have hi' : i < tN τ 1 := by have : i < tN τ 1 + 1 := hi; omega
      exact LT 21 i _ _ (Or.inr (Or.inl rfl)) (by omega) (by omega) (h5 i hi').2.1 (h3d i hi')
  · by_cases e : i = tN τ 1
    · subst e
      obtain ⟨s0, s1, s2, s3', s4', s5, s6, s7, s8, s9, s10⟩ := fS
      have Y : ∀ f, rX (sX s4 3 0 7 (.inl (.int (nI (tN τ 5 + cl z))))) 20 (tN τ 1) f = rX s3 20 (tN τ 1) f := fun f => (sX_p (by omega)).trans (l4 20 (tN τ 1) f (by omega) (by omega))
      refine ⟨(l5 20 _ u20), l5 21 _ fL.1, fun f hf => (Y f).trans ?_, sd, 0, fun _ => 0, (Y 5).trans s5, (Y 7).trans s7, l5 22 _ fP.1, rLS_X (rLS_lfr (s := s3) ⟨⟨0, fP.2.1⟩, fP.2.2.2, fun j hj => absurd hj (Nat.not_lt_zero _), Or.inl ⟨rfl, fP.2.2.1⟩⟩ hl (by omega) (by omega) (fun w x => by rw [fP.2.2.1] at x; cases x)) (by omega), fun p hp => absurd hp (Nat.not_lt_zero p), fun p _ => ?_, fun p p' hp => absurd hp (Nat.not_lt_zero p), fun j hj _ => ?_⟩
      · have hf11 : f < 11 := by
          unfold sfk at hf
          simp only [Bool.and_eq_true] at hf
          have := hf.1.1
          exact blt_l this
        have h11 : f = 0 ∨ f = 1 ∨ f = 2 ∨ f = 3 ∨ f = 4 ∨ f = 5 ∨ f = 6 ∨ f = 7 ∨ f = 8 ∨ f = 9 ∨ f = 10 := by omega
        rcases h11 with rfl | rfl | rfl | rfl | rfl | rfl | rfl | rfl | rfl | rfl | rfl
        · exact s0
        · exact s1.trans (congrArg (fun q => Sum.inl (Value.int q)) (u2_self τ.2.1 3 (tN τ 1) o).symm)
        · exact s2.trans (congrArg (fun q => Sum.inl (Value.int q)) (u2_self (u2 τ.2.1 3 (tN τ 1) o) 4 (tN τ 1) k).symm)
        · exact s3'.trans (congrArg (fun q => Sum.inl (Value.int q)) (u2_self (u2 (u2 τ.2.1 3 (tN τ 1) o) 4 (tN τ 1) k) 5 (tN τ 1) z).symm)
        · exact s4'.trans (congrArg (fun q => Sum.inl (Value.int q)) (u2_self (u2 (u2 (u2 τ.2.1 3 (tN τ 1) o) 4 (tN τ 1) k) 5 (tN τ 1) z) 6 (tN τ 1) a).symm)
        · cases hf
        · exact s6
        · cases hf
        · exact s8.trans (congrArg (fun q => Sum.inl (Value.int q)) (u2_self (u2 (u2 (u2 (u2 τ.2.1 3 (tN τ 1) o) 4 (tN τ 1) k) 5 (tN τ 1) z) 6 (tN τ 1) a) 8 (tN τ 1) 0).symm)
        · exact s9.trans (congrArg (fun q => Sum.inl (Value.int q)) (u2_self (u2 (u2 (u2 (u2 (u2 τ.2.1 3 (tN τ 1) o) 4 (tN τ 1) k) 5 (tN τ 1) z) 6 (tN τ 1) a) 8 (tN τ 1) 0) 9 (tN τ 1) (-1)).symm)
        · exact s10.trans (congrArg (fun q => Sum.inl (Value.int q)) (u2_self _ 10 (tN τ 1) (-1)).symm)
      · exact (U4 23 _ (by omega) (by omega)).trans ((h10 _ (Nat.le_refl _)).2.2.2 p (by have := hV.1.2.1; omega))
      · exact if_pos rfl
    · have hi' : i < tN τ 1 := by have : i < tN τ 1 + 1 := hi; omega
      obtain ⟨g1, g2, g3, g4⟩ := h5 i hi'
      have Y : ∀ f, rX (sX s4 3 0 7 (.inl (.int (nI (tN τ 5 + cl z))))) 20 i f = rX s 20 i f := fun f => (sX_p (by omega)).trans (X4 20 i f (by omega) (by omega) (by omega))
      exact ⟨(U4 20 i (by omega) (by omega)).trans g1, (U4 21 i (by omega) (by omega)).trans g2, fun f hf => (Y f).trans ((g3 f hf).trans (sfv_c (fun g _ => T' g i e) f).symm), BY_fr g4 (Y 5) (Y 7) (U4 22 i (by omega) (by omega)) (fun p => U4 23 _ (by omega) (by omega)) (fun p f => (sX_p (by omega)).trans (X4 23 _ f (by omega) (by omega) (by omega))) (fun n f hh => rLS_X (LT 22 i n f (Or.inr (Or.inr rfl)) (by omega) (by omega) (BY_u g4) hh) (by omega)) (T' 5 i e) (fun j => if_neg e)⟩
  · exact ⟨(U4 24 j (by omega) (by omega)).trans (h6 j hj).1, fun f e => (sX_p (by omega)).trans ((X4 24 j f (by omega) (by omega) (by omega)).trans (((h6 j hj).2 f e).trans (yfv_c (fun g hg => by rcases hg with e | e | e | e | e <;> subst e <;> rfl) f).symm))⟩
  · exact ⟨(U4 25 j (by omega) (by omega)).trans (h7 j hj).1, fun f e => (sX_p (by omega)).trans ((X4 25 j f (by omega) (by omega) (by omega)).trans (((h7 j hj).2 f e).trans (rfv_c (fun g hg => by rcases hg with e | e | e | e | e <;> subst e <;> rfl) f).symm))⟩
  · show rI s4 10 0 j = tT τ 27 j
    rw [l2, (e3 10 0 (by omega)).2.2.2.2.1]; exact h8 j hj
  · show rI s4 10 1 j = tT τ 28 j
    rw [l2, (e3 10 1 (by omega)).2.2.2.2.1]; exact h9 j hj
  · have hi' : tN τ 1 + 1 ≤ i := hi
    obtain ⟨q1, q2, q3, q4⟩ := h10 i (by omega)
    exact ⟨(U4 20 i (by omega) (by omega)).trans q1, (U4 21 i (by omega) (by omega)).trans q2, (U4 22 i (by omega) (by omega)).trans q3, fun p hp => (U4 23 _ (by omega) (by omega)).trans (q4 p hp)⟩
  · exact (U4 24 j (by omega) (by omega)).trans (h11 j hj)
  · exact (U4 25 j (by omega) (by omega)).trans (h12 j hj)
theorem CT_sym {b0 z1 z2 : Nat} {O : Nat → Option mx_C} {E : Nat → Nat} {s s3 s4 : rx_S} {G3 : mx_H} {τ : tx_T} (h : CT E s τ) (hS : rx_in s) (R3 : rx_R b0 O z1 z2 s3 G3) {o n x i r : Int32} (e3 : efr s s3 (fun r i => r = 24 ∧ i = tN τ 2)) (u24 : rU s3 24 (tN τ 2) = true) (fY : rX s3 24 (tN τ 2) 0 = .inl (.int o) ∧ rX s3 24 (tN τ 2) 1 = .inl (.int n) ∧ rX s3 24 (tN τ 2) 2 = oV (hmO x) ∧ rX s3 24 (tN τ 2) 3 = .inl (.int i) ∧ rX s3 24 (tN τ 2) 4 = .inl (.int r) ∧ rX s3 24 (tN τ 2) 5 = .inl (.int (stI x)) ∧ rX s3 24 (tN τ 2) 6 = .inl (.int (spI x))) (hl : lfr s3 s4 8 1) (r4 : rLS (E 6) s4 8 1 (tN τ 2 + 1) (fun j => if j = tN τ 2 then (24, tN τ 2) else (24, j))) : CT E s4 (u1 τ.1 2 (tN τ 2 + 1), u2 (u2 (u2 (u2 (u2 τ.2.1 15 (tN τ 2) o) 16 (tN τ 2) n) 17 (tN τ 2) x) 18 (tN τ 2) i) 19 (tN τ 2) r, τ.2.2) := by
  obtain ⟨h1, ⟨h2a, h2b, h2c⟩, ⟨h3a, h3b, h3c, h3d⟩, h4, h5, h6, h7, h8, h9, h10, h11, h12, n13, f13, hn13, h13⟩ := h
  obtain ⟨l1, l2, l3, l4, l5, l6, l7, l8⟩ := id hl
  have X4 : ∀ r i f, r ≠ 9 → ¬ (r = 8 ∧ i = 1) → ¬ (r = 24 ∧ i = tN τ 2) → rX s4 r i f = rX s r i f := fun r i f a b c => (l4 r i f a b).trans (congrFun ((e3 r i c).2.2.2.1) f)
  have U4 : ∀ r i, r ≠ 9 → ¬ (r = 24 ∧ i = tN τ 2) → rU s4 r i = rU s r i := fun r i a b => ((l6 r i a).1).trans (e3 r i b).2.1
  have P9 : ∀ a, ¬ (9 = 24 ∧ a = tN τ 2) := fun a => by omega
  have own3 : OWN s3 := OWN_efr h4 e3 (fun r i hr hp b => by omega)
  have us : ∀ r i, rx_s r i = true → r ≠ 24 → rU s3 r i = true := fun r i q q1 => by rw [(e3 r i (by omega)).2.1]; exact hS r i q
  have own4 : OWN s4 := OWN_lfr own3 R3 (Or.inl rfl) hl (us 8 1 rfl (by omega))
  have T' : ∀ f i', i' ≠ tN τ 2 → tT (u1 τ.1 2 (tN τ 2 + 1), u2 (u2 (u2 (u2 (u2 τ.2.1 15 (tN τ 2) o) 16 (tN τ 2) n) 17 (tN τ 2) x) 18 (tN τ 2) i) 19 (tN τ 2) r, τ.2.2) f i' = tT τ f i' := fun f i' e => by
    show u2 _ 19 (tN τ 2) r f i' = _
    rw [u2_if, if_neg (fun q => e q.2), u2_if, if_neg (fun q => e q.2), u2_if, if_neg (fun q => e q.2), u2_if, if_neg (fun q => e q.2), u2_if, if_neg (fun q => e q.2)]
  have LT : ∀ r i n f, (r = 8 ∨ r = 21 ∨ r = 22) → ¬ (r = 8 ∧ i = 1) → rU s r i = true → rLS (E 6) s r i n f → rLS (E 6) s4 r i n f := fun r i n f a b u hh =>
    rLS_lfr (rLS_efr hh e3 (by omega) P9) hl b (by omega) (fun w x y => b (by have := own3 r i 8 1 w a (Or.inl rfl) (by rw [(e3 r i (by omega)).2.1]; exact u) (us 8 1 rfl (by omega)) x y; omega))
  refine ⟨fun r f q e => (X4 r 0 f (fun x => by rw [x] at e; cases e) (fun x => by rw [x.1] at e; cases e) (fun x => by rw [x.1] at e; cases e)).trans (h1 r f q e), ⟨(X4 3 0 5 (by omega) (by omega) (by omega)).trans h2a, (X4 3 0 6 (by omega) (by omega) (by omega)).trans h2b, (X4 3 0 7 (by omega) (by omega) (by omega)).trans h2c⟩, ⟨LT 8 0 _ _ (Or.inl rfl) (by omega) (hS _ _ rfl) h3a, (by
    have : (fun j => if j = tN τ 2 then (24, tN τ 2) else (24, j)) = (fun j => ((24, j) : Nat × Nat)) := by
      funext j
      by_cases e : j = tN τ 2
      · rw [if_pos e, e]
      · rw [if_neg e]
    rw [this] at r4; exact r4), LT 8 2 _ _ (Or.inl rfl) (by omega) (hS _ _ rfl) h3c, fun i hi => LT 21 i _ _ (Or.inr (Or.inl rfl)) (by omega) (h5 i hi).2.1 (h3d i hi)⟩, own4, fun i hi => ?_, fun j hj => ?_, fun j hj => ?_, fun j hj => ?_, fun j hj => ?_, fun i hi => ?_, fun j hj => ?_, fun j hj => ?_, n13, f13, hn13, LT 8 3 _ _ (Or.inl rfl) (by omega) (hS _ _ rfl) h13⟩
  · obtain ⟨g1, g2, g3, g4⟩ := h5 i hi
    have Y : ∀ f, rX s4 20 i f = rX s 20 i f := fun f => X4 20 i f (by omega) (by omega) (by omega)
    exact ⟨(U4 20 i (by omega) (by omega)).trans g1, (U4 21 i (by omega) (by omega)).trans g2, fun f hf => (Y f).trans ((g3 f hf).trans (sfv_c (fun g hg => by rcases hg with e | e | e | e | e | e | e <;> subst e <;> rfl) f).symm), BY_fr g4 (Y 5) (Y 7) (U4 22 i (by omega) (by omega)) (fun p => U4 23 _ (by omega) (by omega)) (fun p f => X4 23 _ f (by omega) (by omega) (by omega)) (fun n f hh => LT 22 i n f (Or.inr (Or.inr rfl)) (by omega) (BY_u g4) hh) rfl (fun _ => rfl)⟩
  · by_cases e : j = tN τ 2
    · subst e
      obtain ⟨s0, s1, s2, s3', s4', s5, s6⟩ := fY
      have Y : ∀ f, rX s4 24 (tN τ 2) f = rX s3 24 (tN τ 2) f := fun f => l4 24 (tN τ 2) f (by omega) (by omega)
      have ex : tT (u1 τ.1 2 (tN τ 2 + 1), u2 (u2 (u2 (u2 (u2 τ.2.1 15 (tN τ 2) o) 16 (tN τ 2) n) 17 (tN τ 2) x) 18 (tN τ 2) i) 19 (tN τ 2) r, τ.2.2) 17 (tN τ 2) = x := u2_self (u2 (u2 τ.2.1 15 (tN τ 2) o) 16 (tN τ 2) n) 17 (tN τ 2) x
      refine ⟨l5 24 _ u24, fun f hf => (Y f).trans ?_⟩
      have h11 : f = 0 ∨ f = 1 ∨ f = 2 ∨ f = 3 ∨ f = 4 ∨ f = 5 ∨ f = 6 := by omega
      rcases h11 with rfl | rfl | rfl | rfl | rfl | rfl | rfl
      · exact s0.trans (congrArg (fun q => Sum.inl (Value.int q)) (u2_self τ.2.1 15 (tN τ 2) o).symm)
      · exact s1.trans (congrArg (fun q => Sum.inl (Value.int q)) (u2_self (u2 τ.2.1 15 (tN τ 2) o) 16 (tN τ 2) n).symm)
      · exact s2.trans (congrArg (fun q => oV (hmO q)) ex.symm)
      · exact s3'.trans (congrArg (fun q => Sum.inl (Value.int q)) (u2_self (u2 (u2 (u2 τ.2.1 15 (tN τ 2) o) 16 (tN τ 2) n) 17 (tN τ 2) x) 18 (tN τ 2) i).symm)
      · exact s4'.trans (congrArg (fun q => Sum.inl (Value.int q)) (u2_self (u2 (u2 (u2 (u2 τ.2.1 15 (tN τ 2) o) 16 (tN τ 2) n) 17 (tN τ 2) x) 18 (tN τ 2) i) 19 (tN τ 2) r).symm)
      · exact s5.trans (congrArg (fun q => Sum.inl (Value.int (stI q))) ex.symm)
      · exact s6.trans (congrArg (fun q => Sum.inl (Value.int (spI q))) ex.symm)
    · have hj' : j < tN τ 2 := by have : j < tN τ 2 + 1 := hj; omega
      exact ⟨(U4 24 j (by omega) (by omega)).trans (h6 j hj').1, fun f hf => (X4 24 j f (by omega) (by omega) (by omega)).trans (((h6 j hj').2 f hf).trans (yfv_c (fun g hg => T' g j e) f).symm)⟩
  · exact ⟨(U4 25 j (by omega) (by omega)).trans (h7 j hj).1, fun f e => (X4 25 j f (by omega) (by omega) (by omega)).trans (((h7 j hj).2 f e).trans (rfv_c (fun g hg => by rcases hg with e | e | e | e | e <;> subst e <;> rfl) f).symm)⟩
  · show rI s4 10 0 j = tT τ 27 j
    rw [l2, (e3 10 0 (by omega)).2.2.2.2.1]; exact h8 j hj
  · show rI s4 10 1 j = tT τ 28 j
    rw [l2, (e3 10 1 (by omega)).2.2.2.2.1]; exact h9 j hj
  · obtain ⟨q1, q2, q3, q4⟩ := h10 i hi
    exact ⟨(U4 20 i (by omega) (by omega)).trans q1, (U4 21 i (by omega) (by omega)).trans q2, (U4 22 i (by omega) (by omega)).trans q3, fun p hp => (U4 23 _ (by omega) (by omega)).trans (q4 p hp)⟩
  · have hj' : tN τ 2 + 1 ≤ j := hj
    exact (U4 24 j (by omega) (by omega)).trans (h11 j (by omega))
  · exact (U4 25 j (by omega) (by omega)).trans (h12 j hj)
theorem CT_rel {s5 : rx_S} {z3 z4 : Nat} {G4 : mx_H} {b0 z1 z2 : Nat} {O : Nat → Option mx_C} {E : Nat → Nat} {s s3 s4 : rx_S} {G3 : mx_H} {τ : tx_T} (h : CT E s τ) (hV : TV τ) (hS : rx_in s) (R3 : rx_R b0 O z1 z2 s3 G3) (R4 : rx_R b0 O z3 z4 s4 G4) {x i t y a : Int32} (hx : cl x < tN τ 1) (hx0 : 0 ≤ x.toInt) (e3 : efr s s3 (fun r i => r = 25 ∧ i = tN τ 3)) (u25 : rU s3 25 (tN τ 3) = true) (fR : rX s3 25 (tN τ 3) 0 = .inr (20, cl x) ∧ rX s3 25 (tN τ 3) 1 = .inl (.int i) ∧ rX s3 25 (tN τ 3) 2 = .inl (.ref (E (cl t))) ∧ rX s3 25 (tN τ 3) 3 = .inr (24, cl y) ∧ rX s3 25 (tN τ 3) 4 = .inl (.int a)) (hl : lfr s3 s4 8 2) (r4 : rLS (E 6) s4 8 2 (tN τ 3 + 1) (fun j => if j = tN τ 3 then (25, tN τ 3) else (25, j))) (hm : lfr s4 s5 21 (cl x)) (r5 : rLS (E 6) s5 21 (cl x) (rlN τ (cl x) + 1) (fun j => if j = rlN τ (cl x) then (25, tN τ 3) else (25, rlG τ (cl x) j))) : CT E s5 (u1 τ.1 3 (tN τ 3 + 1), u2 (u2 (u2 (u2 (u2 τ.2.1 21 (tN τ 3) x) 22 (tN τ 3) i) 23 (tN τ 3) t) 24 (tN τ 3) y) 25 (tN τ 3) a, τ.2.2) := by
  obtain ⟨h1, ⟨h2a, h2b, h2c⟩, ⟨h3a, h3b, h3c, h3d⟩, h4, h5, h6, h7, h8, h9, h10, h11, h12, n13, f13, hn13, h13⟩ := h
  obtain ⟨l1, l2, l3, l4, l5, l6, l7, l8⟩ := id hl
  obtain ⟨m1, m2, m3, m4, m5, m6, m7, m8⟩ := id hm
  have X4 : ∀ r i f, r ≠ 9 → ¬ (r = 8 ∧ i = 2) → ¬ (r = 21 ∧ i = cl x) → ¬ (r = 25 ∧ i = tN τ 3) → rX s5 r i f = rX s r i f := fun r i f a b d c => (m4 r i f a d).trans ((l4 r i f a b).trans (congrFun ((e3 r i c).2.2.2.1) f))
  have U4 : ∀ r i, r ≠ 9 → ¬ (r = 25 ∧ i = tN τ 3) → rU s5 r i = rU s r i := fun r i a b => (m6 r i a).1.trans (((l6 r i a).1).trans (e3 r i b).2.1)
  have P9 : ∀ a, ¬ (9 = 25 ∧ a = tN τ 3) := fun a => by omega
  have own3 : OWN s3 := OWN_efr h4 e3 (fun r i hr hp b => by omega)
  have us : ∀ r i, rx_s r i = true → r ≠ 25 → rU s3 r i = true := fun r i q q1 => by rw [(e3 r i (by omega)).2.1]; exact hS r i q
  have ux : rU s 21 (cl x) = true := (h5 _ hx).2.1
  have ux3 : rU s3 21 (cl x) = true := by rw [(e3 21 _ (by omega)).2.1]; exact ux
  have ux4 : rU s4 21 (cl x) = true := l5 _ _ ux3
  have own4 : OWN s4 := OWN_lfr own3 R3 (Or.inl rfl) hl (us 8 2 rfl (by omega))
  have own5 : OWN s5 := OWN_lfr own4 R4 (Or.inr (Or.inl rfl)) hm ux4
  have T' : ∀ f i', i' ≠ tN τ 3 → tT (u1 τ.1 3 (tN τ 3 + 1), u2 (u2 (u2 (u2 (u2 τ.2.1 21 (tN τ 3) x) 22 (tN τ 3) i) 23 (tN τ 3) t) 24 (tN τ 3) y) 25 (tN τ 3) a, τ.2.2) f i' = tT τ f i' := fun f i' e => by
    show u2 _ 25 (tN τ 3) a f i' = _
    rw [u2_if, if_neg (fun q => e q.2), u2_if, if_neg (fun q => e q.2), u2_if, if_neg (fun q => e q.2), u2_if, if_neg (fun q => e q.2), u2_if, if_neg (fun q => e q.2)]
  have LT3 : ∀ r i n f, (r = 8 ∨ r = 21 ∨ r = 22) → ¬ (r = 8 ∧ i = 2) → rU s r i = true → rLS (E 6) s r i n f → rLS (E 6) s4 r i n f := fun r i n f a b u hh =>
    rLS_lfr (rLS_efr hh e3 (by omega) P9) hl b (by omega) (fun w x y => b (by have := own3 r i 8 2 w a (Or.inl rfl) (by rw [(e3 r i (by omega)).2.1]; exact u) (us 8 2 rfl (by omega)) x y; omega))
  have LT4 : ∀ r i n f, (r = 8 ∨ r = 21 ∨ r = 22) → ¬ (r = 21 ∧ i = cl x) → rU s4 r i = true → rLS (E 6) s4 r i n f → rLS (E 6) s5 r i n f := fun r i n f a b u hh =>
    rLS_lfr hh hm b (by omega) (fun w x' y' => b (by have := own4 r i 21 (cl x) w a (Or.inr (Or.inl rfl)) u ux4 x' y'; omega))
  have LT : ∀ r i n f, (r = 8 ∨ r = 21 ∨ r = 22) → ¬ (r = 8 ∧ i = 2) → ¬ (r = 21 ∧ i = cl x) → rU s r i = true → rLS (E 6) s r i n f → rLS (E 6) s5 r i n f := fun r i n f a b c u hh =>
    LT4 r i n f a c (by rw [(l6 r i (by omega)).1, (e3 r i (by omega)).2.1]; exact u) (LT3 r i n f a b u hh)
  have ex : tT (u1 τ.1 3 (tN τ 3 + 1), u2 (u2 (u2 (u2 (u2 τ.2.1 21 (tN τ 3) x) 22 (tN τ 3) i) 23 (tN τ 3) t) 24 (tN τ 3) y) 25 (tN τ 3) a, τ.2.2) 21 (tN τ 3) = x := u2_self τ.2.1 21 (tN τ 3) x
  have hN' : tN (u1 τ.1 3 (tN τ 3 + 1), u2 (u2 (u2 (u2 (u2 τ.2.1 21 (tN τ 3) x) 22 (tN τ 3) i) 23 (tN τ 3) t) 24 (tN τ 3) y) 25 (tN τ 3) a, τ.2.2) 3 = tN τ 3 + 1 := rfl
  have hT' : ∀ k, k < tN τ 3 → tT (u1 τ.1 3 (tN τ 3 + 1), u2 (u2 (u2 (u2 (u2 τ.2.1 21 (tN τ 3) x) 22 (tN τ 3) i) 23 (tN τ 3) t) 24 (tN τ 3) y) 25 (tN τ 3) a, τ.2.2) 21 k = tT τ 21 k := fun k hk => T' 21 k (by omega)
  have exn : x = nI (cl x) := by
    obtain ⟨j, hj, rfl⟩ := nI_ofI hx0
    rw [show cl (nI j) = j from nI_clamp hj]
  refine ⟨fun r f q e => (X4 r 0 f (fun x => by rw [x] at e; cases e) (fun x => by rw [x.1] at e; cases e) (fun x => by rw [x.1] at e; cases e) (fun x => by rw [x.1] at e; cases e)).trans (h1 r f q e), ⟨(X4 3 0 5 (by omega) (by omega) (by omega) (by omega)).trans h2a, (X4 3 0 6 (by omega) (by omega) (by omega) (by omega)).trans h2b, (X4 3 0 7 (by omega) (by omega) (by omega) (by omega)).trans h2c⟩, ⟨LT 8 0 _ _ (Or.inl rfl) (by omega) (by omega) (hS _ _ rfl) h3a, LT 8 1 _ _ (Or.inl rfl) (by omega) (by omega) (hS _ _ rfl) h3b, LT4 8 2 _ _ (Or.inl rfl) (by omega) (l5 _ _ (us 8 2 rfl (by omega))) (by
    have : (fun j => if j = tN τ 3 then (25, tN τ 3) else (25, j)) = (fun j => ((25, j) : Nat × Nat)) := by
      funext j
      by_cases e : j = tN τ 3
      · rw [if_pos e, e]
      · rw [if_neg e]
    rw [this] at r4; exact r4), fun i' hi => ?_⟩, own5, fun i' hi => ?_, fun j hj => ?_, fun j hj => ?_, fun j hj => ?_, fun j hj => ?_, fun i' hi => ?_, fun j hj => ?_, fun j hj => ?_, n13, f13, hn13, LT 8 3 _ _ (Or.inl rfl) (by omega) (by omega) (hS _ _ rfl) h13⟩
  · have hi' : i' < tN τ 1 := hi
    by_cases e : i' = cl x
    · subst e
      have q5 := r5
      have en : rlN (u1 τ.1 3 (tN τ 3 + 1), u2 (u2 (u2 (u2 (u2 τ.2.1 21 (tN τ 3) x) 22 (tN τ 3) i) 23 (tN τ 3) t) 24 (tN τ 3) y) 25 (tN τ 3) a, τ.2.2) (cl x) = rlN τ (cl x) + 1 := by
        rw [rlN_add hN' hT', ex, ← exn]; simp
      rw [en]
      obtain ⟨q1, q2, q3, q4⟩ := q5
      have eg : ∀ j, j < rlN τ (cl x) + 1 → ((25, rlG (u1 τ.1 3 (tN τ 3 + 1), u2 (u2 (u2 (u2 (u2 τ.2.1 21 (tN τ 3) x) 22 (tN τ 3) i) 23 (tN τ 3) t) 24 (tN τ 3) y) 25 (tN τ 3) a, τ.2.2) (cl x) j) : Nat × Nat) = if j = rlN τ (cl x) then (25, tN τ 3) else (25, rlG τ (cl x) j) := fun j hj => by
        by_cases e : j = rlN τ (cl x)
        · rw [if_pos e, e, rlG_new hN' hT' (ex.trans exn)]
        · rw [if_neg e, rlG_old hN' hT' (by omega)]
      refine ⟨q1, q2, fun j hj => Or.inr (Or.inr (Or.inl rfl)), ?_⟩
      rcases q4 with q4 | ⟨w, p1, p2, p3, p4, p5, p6, p7⟩
      · exact Or.inl q4
      · exact Or.inr ⟨w, p1, p2, p3, p4, p5, fun j hj => (p6 j hj).trans (congrArg some (eg j hj).symm), p7⟩
    · have en : rlN (u1 τ.1 3 (tN τ 3 + 1), u2 (u2 (u2 (u2 (u2 τ.2.1 21 (tN τ 3) x) 22 (tN τ 3) i) 23 (tN τ 3) t) 24 (tN τ 3) y) 25 (tN τ 3) a, τ.2.2) i' = rlN τ i' := by
        rw [rlN_add hN' hT', ex]
        have : (x == nI i') = false := by
          cases e2 : x == nI i'
          · rfl
          · have e2 := beq_iff_eq.mp e2
            rw [e2] at e
            exact absurd (nI_clamp (by have := hV.1; omega)).symm e
        rw [this]; simp
      rw [en]
      obtain ⟨q1, q2, q3, q4⟩ := LT 21 i' _ _ (Or.inr (Or.inl rfl)) (by omega) (by omega) (h5 i' hi').2.1 (h3d i' hi')
      refine ⟨q1, q2, fun j hj => Or.inr (Or.inr (Or.inl rfl)), ?_⟩
      rcases q4 with q4 | ⟨w, p1, p2, p3, p4, p5, p6, p7⟩
      · exact Or.inl q4
      · exact Or.inr ⟨w, p1, p2, p3, p4, p5, fun j hj => (p6 j hj).trans (congrArg (fun q => some (25, q)) (rlG_old hN' hT' hj).symm), p7⟩
  · obtain ⟨g1, g2, g3, g4⟩ := h5 i' hi
    have Y : ∀ f, rX s5 20 i' f = rX s 20 i' f := fun f => X4 20 i' f (by omega) (by omega) (by omega) (by omega)
    exact ⟨(U4 20 i' (by omega) (by omega)).trans g1, (U4 21 i' (by omega) (by omega)).trans g2, fun f hf => (Y f).trans ((g3 f hf).trans (sfv_c (fun g hg => by rcases hg with e | e | e | e | e | e | e <;> subst e <;> rfl) f).symm), BY_fr g4 (Y 5) (Y 7) (U4 22 i' (by omega) (by omega)) (fun p => U4 23 _ (by omega) (by omega)) (fun p f => X4 23 _ f (by omega) (by omega) (by omega) (by omega)) (fun n f hh => LT 22 i' n f (Or.inr (Or.inr rfl)) (by omega) (by omega) (BY_u g4) hh) rfl (fun _ => rfl)⟩
  · exact ⟨(U4 24 j (by omega) (by omega)).trans (h6 j hj).1, fun f e => (X4 24 j f (by omega) (by omega) (by omega) (by omega)).trans (((h6 j hj).2 f e).trans (yfv_c (fun g hg => by rcases hg with e | e | e | e | e <;> subst e <;> rfl) f).symm)⟩
  · by_cases e : j = tN τ 3
    · subst e
      obtain ⟨s0, s1, s2, s3', s4'⟩ := fR
      have Y : ∀ f, rX s5 25 (tN τ 3) f = rX s3 25 (tN τ 3) f := fun f => (m4 25 (tN τ 3) f (by omega) (by omega)).trans (l4 25 (tN τ 3) f (by omega) (by omega))
      refine ⟨m5 25 _ (l5 25 _ u25), fun f hf => (Y f).trans ?_⟩
      have h11 : f = 0 ∨ f = 1 ∨ f = 2 ∨ f = 3 ∨ f = 4 := by omega
      rcases h11 with rfl | rfl | rfl | rfl | rfl
      · exact s0.trans (congrArg (fun q => Sum.inr (20, cl q)) ex.symm)
      · exact s1.trans (congrArg (fun q => Sum.inl (Value.int q)) (u2_self (u2 τ.2.1 21 (tN τ 3) x) 22 (tN τ 3) i).symm)
      · exact s2.trans (congrArg (fun q => Sum.inl (Value.ref (E (cl q)))) (u2_self (u2 (u2 τ.2.1 21 (tN τ 3) x) 22 (tN τ 3) i) 23 (tN τ 3) t).symm)
      · exact s3'.trans (congrArg (fun q => Sum.inr (24, cl q)) (u2_self (u2 (u2 (u2 τ.2.1 21 (tN τ 3) x) 22 (tN τ 3) i) 23 (tN τ 3) t) 24 (tN τ 3) y).symm)
      · exact s4'.trans (congrArg (fun q => Sum.inl (Value.int q)) (u2_self (u2 (u2 (u2 (u2 τ.2.1 21 (tN τ 3) x) 22 (tN τ 3) i) 23 (tN τ 3) t) 24 (tN τ 3) y) 25 (tN τ 3) a).symm)
    · have hj' : j < tN τ 3 := by have : j < tN τ 3 + 1 := hj; omega
      exact ⟨(U4 25 j (by omega) (by omega)).trans (h7 j hj').1, fun f hf => (X4 25 j f (by omega) (by omega) (by omega) (by omega)).trans (((h7 j hj').2 f hf).trans (rfv_c (fun g hg => T' g j e) f).symm)⟩
  · show rI s5 10 0 j = tT τ 27 j
    rw [m2, l2, (e3 10 0 (by omega)).2.2.2.2.1]; exact h8 j hj
  · show rI s5 10 1 j = tT τ 28 j
    rw [m2, l2, (e3 10 1 (by omega)).2.2.2.2.1]; exact h9 j hj
  · obtain ⟨q1, q2, q3, q4⟩ := h10 i' hi
    exact ⟨(U4 20 i' (by omega) (by omega)).trans q1, (U4 21 i' (by omega) (by omega)).trans q2, (U4 22 i' (by omega) (by omega)).trans q3, fun p hp => (U4 23 _ (by omega) (by omega)).trans (q4 p hp)⟩
  · exact (U4 24 j (by omega) (by omega)).trans (h11 j hj)
  · have hj' : tN τ 3 + 1 ≤ j := hj
    exact (U4 25 j (by omega) (by omega)).trans (h12 j (by omega))
