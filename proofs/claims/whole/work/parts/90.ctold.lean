/-! ===== The class's told commands ===== -/
theorem OWN_X {s : rx_S} (h : OWN s) {r i f : Nat} {v : rx_V} (h8 : r ≠ 8) (h21 : r ≠ 21) (h22 : r ≠ 22 := by omega) : OWN (sX s r i f v) := by
  intro a b a' b' c e e' u u' x x'
  rw [sX_p (by omega)] at x x'
  exact h a b a' b' c e e' u u' x x'
theorem rLS_X {E6 : Nat} {s : rx_S} {r i n : Nat} {f : Nat → Nat × Nat} (h : rLS E6 s r i n f) {r' i' g : Nat} {v : rx_V} (hne : r ≠ r') : rLS E6 (sX s r' i' g v) r i n f := by
  obtain ⟨⟨mc, h0⟩, h2, h3, h4⟩ := h
  refine ⟨⟨mc, (sX_p (by omega)).trans h0⟩, (sX_p (by omega)).trans h2, h3, ?_⟩
  rcases h4 with ⟨a, b⟩ | ⟨a, b, c⟩
  · exact Or.inl ⟨a, (sX_p (by omega)).trans b⟩
  · exact Or.inr ⟨a, (sX_p (by omega)).trans b, c⟩
theorem CT_X {E : Nat → Nat} {s : rx_S} {τ : tx_T} (h : CT E s τ) (hS : rx_in s) {r i f : Nat} {v : rx_V} (ht : tfk r f i = false := by rfl) (h8 : r ≠ 8 := by omega) : CT E (sX s r i f v) τ := by
  have h21 : r ≠ 21 := fun e => by rw [e] at ht; cases ht
  have h22 : r ≠ 22 := fun e => by rw [e] at ht; cases ht
  obtain ⟨n, g, hn, hl⟩ := h.2.2.2.2.2.2.2.2.2.2.2.2
  exact CT_tfr h hS ((tfr.rf s).X ht) (OWN_X h.2.2.2.1 h8 h21 h22) ⟨n, g, hn, rLS_X hl (by omega)⟩
def g_told (s : rx_S) : rx_S := sX (sX (sX s 2 0 5 (.inl (.int 0))) 2 0 6 (.inl (.int 0))) 2 0 7 (.inl (.int (-1)))
theorem CT_told {E : Nat → Nat} {s : rx_S} {τ : tx_T} (h : CT E s τ) (hS : rx_in s) : CT E (g_told s) τ := CT_X (CT_X (CT_X h hS) hS) hS
/-- nothing is linked -/
def GT (s : rx_S) : Prop := rX s 2 0 5 = .inl (.int 0) ∧ rX s 2 0 6 = .inl (.int 0) ∧ rX s 2 0 7 = .inl (.int (-1))
/-- the class has changed, not the reference -/
def gfp (s s' : rx_S) : Prop := (∀ r i, rU s r i = true → rU s' r i = true ∧ rA s' r i = rA s r i) ∧ (∀ f, rX s' 0 0 f = rX s 0 0 f) ∧ rI s' 1 = rI s 1 ∧ rL s' 1 = rL s 1 ∧ rL s' 26 = rL s 26
/-- no section has more than K patches -/
def pz (s : rx_S) (K : Nat) : Prop := ∀ i m, rU s 22 i = true → rX s 22 i 2 = .inl (.int m) → m.toInt ≤ K
def gfr (s s' : rx_S) : Prop := (∀ r i, rU s r i = true → rU s' r i = true ∧ rA s' r i = rA s r i) ∧ (∀ f, rX s' 0 0 f = rX s 0 0 f) ∧ rI s' 1 = rI s 1 ∧ rL s' 1 = rL s 1 ∧ rL s' 26 = rL s 26 ∧ ∀ K, pz s K → pz s' K
theorem gfr.p {s s' : rx_S} (h : gfr s s') : gfp s s' := ⟨h.1, h.2.1, h.2.2.1, h.2.2.2.1, h.2.2.2.2.1⟩
theorem gfp.inn {s s' : rx_S} (h : gfp s s') (hS : rx_in s) : rx_in s' := fun r i e => (h.1 r i (hS r i e)).1
theorem gfp.tr {s s' s'' : rx_S} (h : gfp s s') (h' : gfp s' s'') : gfp s s'' := ⟨fun r i u => ⟨(h'.1 r i (h.1 r i u).1).1, (h'.1 r i (h.1 r i u).1).2.trans (h.1 r i u).2⟩, fun f => (h'.2.1 f).trans (h.2.1 f), h'.2.2.1.trans h.2.2.1, h'.2.2.2.1.trans h.2.2.2.1, h'.2.2.2.2.trans h.2.2.2.2⟩
theorem gfp.X {s s' : rx_S} (h : gfp s s') {r i f : Nat} {v : rx_V} (hr : r ≠ 0 := by omega) : gfp s (sX s' r i f v) := ⟨h.1, fun g => (sX_p (by omega)).trans (h.2.1 g), h.2.2⟩
theorem pz_X {s : rx_S} {K : Nat} (h : pz s K) {r i f : Nat} {v : rx_V} (hr : r ≠ 22 := by omega) : pz (sX s r i f v) K := fun j m u x => h j m u (by rw [sX_p (by omega)] at x; exact x)
theorem pz_told {s : rx_S} {K : Nat} (h : pz s K) : pz (sX (sX (sX s 2 0 5 (.inl (.int 0))) 2 0 6 (.inl (.int 0))) 2 0 7 (.inl (.int (-1)))) K := pz_X (pz_X (pz_X h))
theorem gfr.rf (s : rx_S) : gfr s s := ⟨fun _ _ h => ⟨h, rfl⟩, fun _ => rfl, rfl, rfl, rfl, fun _ h => h⟩
theorem gfr.tr {s s' s'' : rx_S} (h : gfr s s') (h' : gfr s' s'') : gfr s s'' := ⟨fun r i u => ⟨(h'.1 r i (h.1 r i u).1).1, (h'.1 r i (h.1 r i u).1).2.trans (h.1 r i u).2⟩, fun f => (h'.2.1 f).trans (h.2.1 f), h'.2.2.1.trans h.2.2.1, h'.2.2.2.1.trans h.2.2.2.1, h'.2.2.2.2.1.trans h.2.2.2.2.1, fun K hK => h'.2.2.2.2.2 K (h.2.2.2.2.2 K hK)⟩
theorem gfr.inn {s s' : rx_S} (h : gfr s s') (hS : rx_in s) : rx_in s' := fun r i e => (h.1 r i (hS r i e)).1
theorem gfr.X {s s' : rx_S} (h : gfr s s') {r i f : Nat} {v : rx_V} (hr : r ≠ 0 := by omega) (h22 : r ≠ 22 := by omega) : gfr s (sX s' r i f v) := ⟨h.1, fun g => (sX_p (by omega)).trans (h.2.1 g), h.2.2.1, h.2.2.2.1, h.2.2.2.2.1, fun K hK => pz_X (h.2.2.2.2.2 K hK) h22⟩
theorem gfr.I {s s' : rx_S} (h : gfr s s') {r i f : Nat} {v : Int32} (hr : r ≠ 1 := by omega) : gfr s (sI s' r i f v) := ⟨h.1, h.2.1, by
  rw [← h.2.2.1]
  funext a b
  exact sI_p (by omega), h.2.2.2⟩
theorem gfr.told (s : rx_S) : gfr s (g_told s) := (((gfr.rf s).X).X).X
theorem sfv_c {τ τ' : tx_T} {i : Nat} (h : ∀ g, g = 3 ∨ g = 4 ∨ g = 5 ∨ g = 6 ∨ g = 8 ∨ g = 9 ∨ g = 10 → tT τ' g i = tT τ g i) (f : Nat) : sfv τ' i f = sfv τ i f := by
  unfold sfv
  split <;> first | rfl | (rw [h _ (by omega)])
theorem yfv_c {τ τ' : tx_T} {i : Nat} (h : ∀ g, g = 15 ∨ g = 16 ∨ g = 17 ∨ g = 18 ∨ g = 19 → tT τ' g i = tT τ g i) (f : Nat) : yfv τ' i f = yfv τ i f := by
  unfold yfv
  split <;> first | rfl | (rw [h _ (by omega)])
theorem rfv_c {E : Nat → Nat} {τ τ' : tx_T} {i : Nat} (h : ∀ g, g = 21 ∨ g = 22 ∨ g = 23 ∨ g = 24 ∨ g = 25 → tT τ' g i = tT τ g i) (f : Nat) : rfv E τ' i f = rfv E τ i f := by
  unfold rfv
  split <;> first | rfl | (rw [h _ (by omega)])
theorem CT_obj {E : Nat → Nat} {s : rx_S} {τ : tx_T} (h : CT E s τ) {n : Nat} : CT E (sX s 3 0 5 (.inl (.int (nI n)))) (u1 τ.1 0 n, τ.2) := by
  obtain ⟨h1, ⟨h2a, h2b, h2c⟩, h3, h4, h5, h6, h7, h8, h9, h10, h11, h12, h13⟩ := h
  refine ⟨fun r f q e => (sX_p (fun a => by rw [a.1, a.2.2] at e; cases e)).trans (h1 r f q e), ⟨rfl, h2b, h2c⟩, h3, OWN_X h4 (by omega) (by omega), h5, h6, h7, h8, h9, h10, h11, h12, h13⟩
theorem CT_root {E : Nat → Nat} {s : rx_S} {τ : tx_T} (h : CT E s τ) {n : Int32} : CT E (sX (sI s 10 0 (tN τ 4) n) 3 0 6 (.inl (.int (nI (tN τ 4 + 1))))) (u1 τ.1 4 (tN τ 4 + 1), u2 τ.2.1 27 (tN τ 4) n, τ.2.2) := by
  obtain ⟨h1, ⟨h2a, h2b, h2c⟩, h3, h4, h5, h6, h7, h8, h9, h10, h11, h12, h13⟩ := h
  refine ⟨fun r f q e => (sX_p (fun a => by rw [a.1, a.2.2] at e; cases e)).trans (h1 r f q e), ⟨h2a, rfl, h2c⟩, h3, OWN_X (s := sI s 10 0 (tN τ 4) n) h4 (by omega) (by omega), fun i hi => ?_, fun k hk => ?_, fun k hk => ?_, fun k hk => ?_, h9, h10, h11, h12, h13⟩
  · obtain ⟨g1, g2, g3, g4⟩ := h5 i hi
    exact ⟨g1, g2, fun f e => (g3 f e).trans (sfv_c (fun g hg => by rcases hg with e | e | e | e | e | e | e <;> subst e <;> rfl) f).symm, g4⟩
  · exact ⟨(h6 k hk).1, fun f e => ((h6 k hk).2 f e).trans (yfv_c (fun g hg => by rcases hg with e | e | e | e | e <;> subst e <;> rfl) f).symm⟩
  · exact ⟨(h7 k hk).1, fun f e => ((h7 k hk).2 f e).trans (rfv_c (fun g hg => by rcases hg with e | e | e | e | e <;> subst e <;> rfl) f).symm⟩
  · show w3 s.2.2.2.1 10 0 (tN τ 4) n 10 0 k = u2 τ.2.1 27 (tN τ 4) n 27 k
    rw [w3_if, u2_if]
    by_cases e : k = tN τ 4
    · rw [if_pos ⟨rfl, rfl, e⟩, if_pos ⟨rfl, e⟩]
    · rw [if_neg (fun q => e q.2.2), if_neg (fun q => e q.2)]
      exact h8 k (by have : k < tN τ 4 + 1 := hk; omega)
theorem CT_base {E : Nat → Nat} {s : rx_S} {τ : tx_T} (h : CT E s τ) {j : Nat} {p : Int32} : CT E (sI s 10 1 j p) (τ.1, u2 τ.2.1 28 j p, τ.2.2) := by
  obtain ⟨h1, h2, h3, h4, h5, h6, h7, h8, h9, h10, h11, h12, h13⟩ := h
  refine ⟨h1, h2, h3, h4, fun i hi => ?_, fun k hk => ?_, fun k hk => ?_, h8, fun k hk => ?_, h10, h11, h12, h13⟩
  · obtain ⟨g1, g2, g3, g4⟩ := h5 i hi
    exact ⟨g1, g2, fun f e => (g3 f e).trans (sfv_c (fun g hg => by rcases hg with e | e | e | e | e | e | e <;> subst e <;> rfl) f).symm, g4⟩
  · exact ⟨(h6 k hk).1, fun f e => ((h6 k hk).2 f e).trans (yfv_c (fun g hg => by rcases hg with e | e | e | e | e <;> subst e <;> rfl) f).symm⟩
  · exact ⟨(h7 k hk).1, fun f e => ((h7 k hk).2 f e).trans (rfv_c (fun g hg => by rcases hg with e | e | e | e | e <;> subst e <;> rfl) f).symm⟩
  · show w3 s.2.2.2.1 10 1 j p 10 1 k = u2 τ.2.1 28 j p 28 k
    rw [w3_if, u2_if]
    by_cases e : k = j
    · rw [if_pos ⟨rfl, rfl, e⟩, if_pos ⟨rfl, e⟩]
    · rw [if_neg (fun q => e q.2.2), if_neg (fun q => e q.2)]
      exact h9 k hk
/-- a mark: field 8, 9 or 10 -/
theorem CT_mark {E : Nat → Nat} {s : rx_S} {τ : tx_T} (h : CT E s τ) {j g : Nat} (hg : g = 8 ∨ g = 9 ∨ g = 10) {v : Int32} : CT E (sX s 20 j g (.inl (.int v))) (τ.1, u2 τ.2.1 g j v, τ.2.2) := by
  obtain ⟨h1, h2, h3, h4, h5, h6, h7, h8, h9, h10, h11, h12, n, f13, hn, h13⟩ := h
  have hu : ∀ f i, f ≠ g → u2 τ.2.1 g j v f i = tT τ f i := fun f i hf => by rw [u2_if, if_neg (fun e => hf e.1)]
  have hr : ∀ b : Nat, tT (τ.1, u2 τ.2.1 g j v, τ.2.2) 21 b = tT τ 21 b := fun b => hu 21 b (by omega)
  have hrl : ∀ x, rlB (τ.1, u2 τ.2.1 g j v, τ.2.2) x = rlB τ x := fun x => by funext k; unfold rlB; rw [hr k]
  have hrN : ∀ x, rlN (τ.1, u2 τ.2.1 g j v, τ.2.2) x = rlN τ x := fun x => by unfold rlN; rw [hrl]
  have hrG : ∀ x i, rlG (τ.1, u2 τ.2.1 g j v, τ.2.2) x i = rlG τ x i := fun x i => by unfold rlG rlO; rw [hrl]
  refine ⟨fun r f q e => (sX_p (fun a => by rw [a.1] at e; cases e)).trans (h1 r f q e), h2, ⟨rLS_X h3.1 (by omega), rLS_X h3.2.1 (by omega), rLS_X h3.2.2.1 (by omega), fun i hi => ?_⟩, OWN_X h4 (by omega) (by omega), fun i hi => ?_, fun k hk => ?_, fun k hk => ?_, fun k hk => ?_, fun k hk => ?_, h10, h11, h12, n, f13, hn, rLS_X h13 (by omega)⟩
  · rw [hrN]; simp only [hrG]; exact rLS_X (h3.2.2.2 i hi) (by omega)
  · obtain ⟨g1, g2, g3, g4⟩ := h5 i hi
    refine ⟨g1, g2, fun f e => ?_, ?_⟩
    · by_cases ee : i = j ∧ f = g
      · obtain ⟨rfl, rfl⟩ := ee
        refine sX_s.trans ?_
        rcases hg with rfl | rfl | rfl
        · show _ = Sum.inl (Value.int (u2 τ.2.1 8 i v 8 i)); rw [u2_if, if_pos ⟨rfl, rfl⟩]
        · show _ = Sum.inl (Value.int (u2 τ.2.1 9 i v 9 i)); rw [u2_if, if_pos ⟨rfl, rfl⟩]
        · show _ = Sum.inl (Value.int (u2 τ.2.1 10 i v 10 i)); rw [u2_if, if_pos ⟨rfl, rfl⟩]
      · refine (sX_p (fun a => ee ⟨a.2.1, a.2.2⟩)).trans ((g3 f e).trans ?_)
        by_cases e2 : i = j
        · have hfg : f ≠ g := fun a => ee ⟨e2, a⟩
          have hf11 : f < 11 := by
            unfold sfk at e
            simp only [Bool.and_eq_true] at e
            have := e.1.1
            exact blt_l this
          have h11 : f = 0 ∨ f = 1 ∨ f = 2 ∨ f = 3 ∨ f = 4 ∨ f = 5 ∨ f = 6 ∨ f = 7 ∨ f = 8 ∨ f = 9 ∨ f = 10 := by omega
          rcases h11 with rfl | rfl | rfl | rfl | rfl | rfl | rfl | rfl | rfl | rfl | rfl
          · rfl
          · exact congrArg (fun q => Sum.inl (Value.int q)) (hu 3 i (by omega)).symm
          · exact congrArg (fun q => Sum.inl (Value.int q)) (hu 4 i (by omega)).symm
          · exact congrArg (fun q => Sum.inl (Value.int q)) (hu 5 i (by omega)).symm
          · exact congrArg (fun q => Sum.inl (Value.int q)) (hu 6 i (by omega)).symm
          · cases e
          · rfl
          · cases e
          · exact congrArg (fun q => Sum.inl (Value.int q)) (hu 8 i (by omega)).symm
          · exact congrArg (fun q => Sum.inl (Value.int q)) (hu 9 i (by omega)).symm
          · exact congrArg (fun q => Sum.inl (Value.int q)) (hu 10 i (by omega)).symm
        · exact (sfv_c (fun a _ => by show u2 τ.2.1 g j v a i = _; rw [u2_if, if_neg (fun q => e2 q.2)]) f).symm
    · exact BY_fr g4 (sX_p (by omega)) (sX_p (by omega)) rfl (fun _ => rfl) (fun p f => sX_p (by omega)) (fun n f hl => rLS_X hl (by omega)) (hu 5 i (by omega)) (fun _ => rfl)
  · exact ⟨(h6 k hk).1, fun f e => (sX_p (by omega)).trans (((h6 k hk).2 f e).trans (yfv_c (fun a ha => hu a k (by omega)) f).symm)⟩
  · exact ⟨(h7 k hk).1, fun f e => (sX_p (by omega)).trans (((h7 k hk).2 f e).trans (rfv_c (fun a ha => hu a k (by omega)) f).symm)⟩
  · exact (h8 k hk).trans (hu 27 k (by omega)).symm
  · exact (h9 k hk).trans (hu 28 k (by omega)).symm
section
variable {b0 mi z1 z2 : Nat} {E : Nat → Nat} {O : Nat → Option mx_C} {s : rx_S} {G : mx_H} {Q : mx_O → mx_H → Prop}
theorem c9_inI {x l m : Int32} {b c : Int} (hl : l.toInt = b) (hm : m.toInt = c) (qt : b ≤ x.toInt → x.toInt ≤ c → Q (.inl (some (.int 1))) G) (qf : (b ≤ x.toInt → x.toInt ≤ c → False) → Q (.inl (some (.int 0))) G) : mx_W (gt_P b0 mi E) mX9_isWithin 0 (mx_en 0 [.int x, .int l, .int m]) [] G Q := by
  subst hl hm
  exact c9_in (fun h => qt h.1 h.2) (fun h => qf (fun a b => h ⟨a, b⟩))
theorem c9_forget (R : rx_R b0 O z1 z2 s G) (hS : rx_in s) (q : ∀ G', rx_R b0 O z1 z2 (g_told s) G' → Q (.inl none) G') : mx_W (gt_P b0 mi E) mX9_forgetLink 0 (mx_en 0 [.ref (rA s 2 0)]) [] G Q := by
  refine w_aload_n dX9_forgetLink_0 rfl ?_
  refine w_iconst (v := 0) dX9_forgetLink_1 (by decide) ?_
  refine r_puti  dX9_forgetLink_2 ft_8_176 R rfl (hS _ _ rfl) rfl (lb rfl) (fun h => by cases h) rfl rfl (fun G1 R1 => ?_)
  refine w_aload_n dX9_forgetLink_5 rfl ?_
  refine w_iconst (v := 0) dX9_forgetLink_6 (by decide) ?_
  refine r_puti  dX9_forgetLink_7 ft_8_190 R1 rfl (hS _ _ rfl) rfl (lb rfl) (fun h => by cases h) rfl rfl (fun G2 R2 => ?_)
  refine w_aload_n dX9_forgetLink_10 rfl ?_
  refine w_iconst (v := (-1)) dX9_forgetLink_11 (by decide) ?_
  refine r_puti  dX9_forgetLink_12 ft_8_44 R2 rfl (hS _ _ rfl) rfl (lb rfl) (fun h => by cases h) rfl rfl (fun G3 R3 => ?_)
  exact w_ret dX9_forgetLink_15 rfl (q _ R3)
theorem c7_hasObject (R : rx_R b0 O z1 z2 s G) (hS : rx_in s) {τ : tx_T} (hT : CT E s τ) (hV : TV τ) {x : Int32} (q1 : (0 ≤ x.toInt ∧ x.toInt < tN τ 0) → Q (.inl (some (.int 1))) G) (q0 : ¬ (0 ≤ x.toInt ∧ x.toInt < tN τ 0) → Q (.inl (some (.int 0))) G) : mx_W (gt_P b0 mi E) mX7_hasObject 0 (mx_en 0 [.ref (rA s 3 0), .int x]) [] G Q := by
  have hV0 := hV.1
  refine w_iload_n dX7_hasObject_0 rfl ?_
  refine r_if_lti (t := 16) dX7_hasObject_1 rfl (fun h1 => ?_) (fun h1 => ?_)
  ·
    refine w_iconst (v := 0) dX7_hasObject_16 (by decide) ?_
    exact w_iret dX7_hasObject_17 rfl rfl (q0 (fun h => by omega))
  ·
    refine w_iload_n dX7_hasObject_4 rfl ?_
    refine w_aload_n dX7_hasObject_5 rfl ?_
    refine r_geti  dX7_hasObject_6 ft_7_31 R rfl (hS _ _ rfl) rfl (lb rfl) hT.2.1.1 ?_
    refine r_icmp_gei (t := 16) dX7_hasObject_9 rfl (fun h9 => ?_) (fun h9 => ?_)
    ·
      refine w_iconst (v := 0) dX7_hasObject_16 (by decide) ?_
      refine w_iret dX7_hasObject_17 rfl rfl ?_
      rw [nI_toInt (by omega)] at h9
      exact q0 (fun h => by omega)
    ·
      refine w_iconst (v := 1) dX7_hasObject_12 (by decide) ?_
      refine w_goto (t := 17) dX7_hasObject_13 rfl ?_
      refine w_iret dX7_hasObject_17 rfl rfl ?_
      rw [nI_toInt (by omega)] at h9
      exact q1 ⟨by omega, by omega⟩
theorem c7_sectionAt (R : rx_R b0 O z1 z2 s G) (hS : rx_in s) {τ : tx_T} (hT : CT E s τ) (hV : TV τ) {x : Int32} (q0 : ¬ (0 ≤ x.toInt ∧ x.toInt < tN τ 1) → Q (.inl (some .null)) G) (q1 : ∀ j, j < tN τ 1 → x = nI j → Q (.inl (some (.ref (rA s 20 j)))) G) : mx_W (gt_P b0 mi E) mX7_sectionAt 0 (mx_en 0 [.ref (rA s 3 0), .int x]) [] G Q := by
  have hV0 := hV.1
  refine w_iload_n dX7_sectionAt_0 rfl ?_
  refine r_if_lti (t := 29) dX7_sectionAt_1 rfl (fun h1 => ?_) (fun h1 => ?_)
  ·
    refine w_null dX7_sectionAt_29 ?_
    exact w_aret (x := none) dX7_sectionAt_30 rfl (by first | exact Or.inl ⟨_, rfl⟩ | exact Or.inr ⟨_, rfl⟩) (q0 (fun h => by omega))
  ·
    refine w_iload_n dX7_sectionAt_4 rfl ?_
    refine w_aload_n dX7_sectionAt_5 rfl ?_
    refine r_getr  dX7_sectionAt_6 ft_7_12 R rfl (hS _ _ rfl) rfl (lb rfl) (cT_s hT 3 0 rfl) ?_
    refine r_inv0  dX7_sectionAt_9 mt_7_35 R rfl (hS _ _ rfl) rfl (lb rfl) (lb rfl) (lb rfl) (lb rfl) rfl (c_lsize R rfl (hS _ _ rfl) (cT_l0 hT).2.1 ⟨_, rfl, ?_⟩)
    refine r_icmp_gei (t := 29) dX7_sectionAt_12 rfl (fun h12 => ?_) (fun h12 => ?_)
    ·
      refine w_null dX7_sectionAt_29 ?_
      refine w_aret (x := none) dX7_sectionAt_30 rfl (by first | exact Or.inl ⟨_, rfl⟩ | exact Or.inr ⟨_, rfl⟩) ?_
      rw [nI_toInt (by omega)] at h12
      exact q0 (fun h => by omega)
    ·
      obtain ⟨j, hj, rfl⟩ := nI_ofI h1
      rw [nI_toInt hj, nI_toInt (by omega)] at h12
      have hjn : j < tN τ 1 := by omega
      refine w_aload_n dX7_sectionAt_15 rfl ?_
      refine r_getr  dX7_sectionAt_16 ft_7_12 R rfl (hS _ _ rfl) rfl (lb rfl) (cT_s hT 3 0 rfl) ?_
      refine w_iload_n dX7_sectionAt_19 rfl ?_
      refine r_inv1  dX7_sectionAt_20 mt_7_39 R rfl (hS _ _ rfl) rfl (lb rfl) (lb rfl) (lb rfl) (lb rfl) rfl (c_lget R rfl (hS _ _ rfl) (cT_l0 hT) hjn ⟨_, rfl, ?_⟩)
      refine r_cast dX7_sectionAt_23 qt_7_43 R rfl (cT_Su hT hjn) rfl (by decide) ?_
      refine w_goto (t := 30) dX7_sectionAt_26 rfl ?_
      exact w_aret (x := some _) dX7_sectionAt_30 rfl (by first | exact Or.inl ⟨_, rfl⟩ | exact Or.inr ⟨_, rfl⟩) (q1 j hjn rfl)
theorem c7_symbolAt (R : rx_R b0 O z1 z2 s G) (hS : rx_in s) {τ : tx_T} (hT : CT E s τ) (hV : TV τ) {x : Int32} (q0 : ¬ (0 ≤ x.toInt ∧ x.toInt < tN τ 2) → Q (.inl (some .null)) G) (q1 : ∀ j, j < tN τ 2 → x = nI j → Q (.inl (some (.ref (rA s 24 j)))) G) : mx_W (gt_P b0 mi E) mX7_symbolAt 0 (mx_en 0 [.ref (rA s 3 0), .int x]) [] G Q := by
  have hV0 := hV.1
  refine w_iload_n dX7_symbolAt_0 rfl ?_
  refine r_if_lti (t := 29) dX7_symbolAt_1 rfl (fun h1 => ?_) (fun h1 => ?_)
  ·
    refine w_null dX7_symbolAt_29 ?_
    exact w_aret (x := none) dX7_symbolAt_30 rfl (by first | exact Or.inl ⟨_, rfl⟩ | exact Or.inr ⟨_, rfl⟩) (q0 (fun h => by omega))
  ·
    refine w_iload_n dX7_symbolAt_4 rfl ?_
    refine w_aload_n dX7_symbolAt_5 rfl ?_
    refine r_getr  dX7_symbolAt_6 ft_7_18 R rfl (hS _ _ rfl) rfl (lb rfl) (cT_s hT 3 1 rfl) ?_
    refine r_inv0  dX7_symbolAt_9 mt_7_35 R rfl (hS _ _ rfl) rfl (lb rfl) (lb rfl) (lb rfl) (lb rfl) rfl (c_lsize R rfl (hS _ _ rfl) (cT_l1 hT).2.1 ⟨_, rfl, ?_⟩)
    refine r_icmp_gei (t := 29) dX7_symbolAt_12 rfl (fun h12 => ?_) (fun h12 => ?_)
    ·
      refine w_null dX7_symbolAt_29 ?_
      refine w_aret (x := none) dX7_symbolAt_30 rfl (by first | exact Or.inl ⟨_, rfl⟩ | exact Or.inr ⟨_, rfl⟩) ?_
      rw [nI_toInt (by omega)] at h12
      exact q0 (fun h => by omega)
    ·
      obtain ⟨j, hj, rfl⟩ := nI_ofI h1
      rw [nI_toInt hj, nI_toInt (by omega)] at h12
      have hjn : j < tN τ 2 := by omega
      refine w_aload_n dX7_symbolAt_15 rfl ?_
      refine r_getr  dX7_symbolAt_16 ft_7_18 R rfl (hS _ _ rfl) rfl (lb rfl) (cT_s hT 3 1 rfl) ?_
      refine w_iload_n dX7_symbolAt_19 rfl ?_
      refine r_inv1  dX7_symbolAt_20 mt_7_39 R rfl (hS _ _ rfl) rfl (lb rfl) (lb rfl) (lb rfl) (lb rfl) rfl (c_lget R rfl (hS _ _ rfl) (cT_l1 hT) hjn ⟨_, rfl, ?_⟩)
      refine r_cast dX7_symbolAt_23 qt_7_45 R rfl (cT_Yu hT hjn) rfl (by decide) ?_
      refine w_goto (t := 30) dX7_symbolAt_26 rfl ?_
      exact w_aret (x := some _) dX7_symbolAt_30 rfl (by first | exact Or.inl ⟨_, rfl⟩ | exact Or.inr ⟨_, rfl⟩) (q1 j hjn rfl)
theorem c9_object (R : rx_R b0 O z1 z2 s G) (hS : rx_in s) {τ : tx_T} (hT : CT E s τ) (hV : TV τ) (qn : ∀ r9, f_object τ = (r9, none) → Q (.inl (some (.int r9))) G) (qs : ∀ r9 τ', f_object τ = (r9, some τ') → ∀ s' G', rx_R b0 O z1 z2 s' G' → gfr s s' → CT E s' τ' → GT s' → Q (.inl (some (.int r9))) G') : mx_W (gt_P b0 mi E) mX9_object 0 (mx_en 0 [.ref (rA s 2 0)]) [] G Q := by
  have hV0 := hV.1
  refine w_aload_n dX9_object_0 rfl ?_
  refine r_getr  dX9_object_1 ft_8_10 R rfl (hS _ _ rfl) rfl (lb rfl) (cT_s hT 2 0 rfl) ?_
  refine r_geti  dX9_object_4 ft_8_48 R rfl (hS _ _ rfl) rfl (lb rfl) hT.2.1.1 ?_
  refine w_bipush (v := nI 12) dX9_object_7 (by decide) ?_
  refine r_icmp_ltn (t := 15) dX9_object_9 rfl (by omega) (by omega) (fun h9 => ?_) (fun h9 => ?_)
  ·
    refine w_aload_n dX9_object_15 rfl ?_
    refine r_inv0  dX9_object_16 mt_8_51 R rfl (hS _ _ rfl) rfl (lb rfl) (lb rfl) (lb rfl) (lb rfl) rfl (c9_forget R hS (fun _ Rt => ⟨_, rfl, ?_⟩))
    refine w_aload_n dX9_object_19 rfl ?_
    refine r_getr  dX9_object_20 ft_8_10 Rt rfl (hS _ _ rfl) rfl (lb rfl) (cT_s hT 2 0 rfl) ?_
    refine w_dup dX9_object_23 rfl ?_
    refine r_geti  dX9_object_24 ft_8_48 Rt rfl (hS _ _ rfl) rfl (lb rfl) hT.2.1.1 ?_
    refine w_iconst (v := 1) dX9_object_27 (by decide) ?_
    refine w_iadd dX9_object_28 ?_
    rw [nI_1]
    refine r_puti  dX9_object_29 ft_8_48 Rt rfl (hS _ _ rfl) rfl (lb rfl) (fun h => by cases h) rfl rfl (fun G1 R1 => ?_)
    refine w_aload_n dX9_object_32 rfl ?_
    refine r_getr  dX9_object_33 ft_8_10 R1 rfl (hS _ _ rfl) rfl (lb rfl) (cT_s hT 2 0 rfl) ?_
    refine r_geti  dX9_object_36 ft_8_48 R1 rfl (hS _ _ rfl) rfl (lb rfl) rfl ?_
    refine w_iconst (v := 1) dX9_object_39 (by decide) ?_
    refine w_isub dX9_object_40 ?_
    rw [nI_pred]
    refine w_iret dX9_object_41 rfl rfl ?_
    exact qs _ _ (by rw [f_object, if_neg (by omega)]) _ _ R1 (gfr.told s).X (CT_obj (CT_told hT hS)) ⟨rfl, rfl, rfl⟩
  ·
    refine w_bipush (v := (-104)) dX9_object_12 (by decide) ?_
    exact w_iret dX9_object_14 rfl rfl (qn _ (by rw [f_object, if_pos (by omega)]))
theorem c7_addRoot (R : rx_R b0 O z1 z2 s G) (hS : rx_in s) {τ : tx_T} (hT : CT E s τ) (hV : TV τ) {n : Int32} (q0 : tN τ 4 = 8 → Q (.inl (some (.int 0))) G) (q1 : ¬ tN τ 4 = 8 → ∀ G', rx_R b0 O z1 z2 (sX (sI s 10 0 (tN τ 4) n) 3 0 6 (.inl (.int (nI (tN τ 4 + 1))))) G' → Q (.inl (some (.int 1))) G') : mx_W (gt_P b0 mi E) mX7_addRoot 0 (mx_en 0 [.ref (rA s 3 0), .int n]) [] G Q := by
  have hV0 := hV.1
  refine w_aload_n dX7_addRoot_0 rfl ?_
  refine r_geti  dX7_addRoot_1 ft_7_47 R rfl (hS _ _ rfl) rfl (lb rfl) hT.2.1.2.1 ?_
  refine r_if_lti (t := 19) dX7_addRoot_4 rfl (fun h => by rw [nI_toInt (by omega)] at h; omega) (fun h4 => ?_)
  refine w_aload_n dX7_addRoot_7 rfl ?_
  refine r_geti  dX7_addRoot_8 ft_7_47 R rfl (hS _ _ rfl) rfl (lb rfl) hT.2.1.2.1 ?_
  refine w_aload_n dX7_addRoot_11 rfl ?_
  refine r_getr  dX7_addRoot_12 ft_7_24 R rfl (hS _ _ rfl) rfl (lb rfl) (cT_s hT 3 3 rfl) ?_
  refine r_alen  dX7_addRoot_15 R rfl (hS _ _ rfl) rfl rfl (lb rfl) ?_
  refine r_icmp_lti (t := 21) dX7_addRoot_16 rfl (fun h16 => ?_) (fun h16 => ?_)
  ·
    have e4 := nI_toInt (n := tN τ 4) (by omega)
    have e8 : (nI 8).toInt = 8 := rfl
    have h8 : tN τ 4 < 8 := by omega
    refine w_aload_n dX7_addRoot_21 rfl ?_
    refine r_getr  dX7_addRoot_22 ft_7_24 R rfl (hS _ _ rfl) rfl (lb rfl) (cT_s hT 3 3 rfl) ?_
    refine w_aload_n dX7_addRoot_25 rfl ?_
    refine r_geti  dX7_addRoot_26 ft_7_47 R rfl (hS _ _ rfl) rfl (lb rfl) hT.2.1.2.1 ?_
    refine w_iload_n dX7_addRoot_29 rfl ?_
    refine r_iast  dX7_addRoot_30 R rfl (hS _ _ rfl) rfl rfl h8 (lb rfl) (fun G1 R1 => ?_)
    refine w_aload_n dX7_addRoot_31 rfl ?_
    refine w_dup dX7_addRoot_32 rfl ?_
    refine r_geti  dX7_addRoot_33 ft_7_47 R1 rfl (hS _ _ rfl) rfl (lb rfl) hT.2.1.2.1 ?_
    refine w_iconst (v := 1) dX7_addRoot_36 (by decide) ?_
    refine w_iadd dX7_addRoot_37 ?_
    rw [nI_1]
    refine r_puti  dX7_addRoot_38 ft_7_47 R1 rfl (hS _ _ rfl) rfl (lb rfl) (fun h => by cases h) rfl rfl (fun G2 R2 => ?_)
    refine w_iconst (v := 1) dX7_addRoot_41 (by decide) ?_
    exact w_iret dX7_addRoot_42 rfl rfl (q1 (by omega) _ R2)
  ·
    refine w_iconst (v := 0) dX7_addRoot_19 (by decide) ?_
    refine w_iret dX7_addRoot_20 rfl rfl ?_
    have e4 := nI_toInt (n := tN τ 4) (by omega)
    have e8 : (nI 8).toInt = 8 := rfl
    exact q0 (by omega)
theorem c9_root (R : rx_R b0 O z1 z2 s G) (hS : rx_in s) {τ : tx_T} (hT : CT E s τ) (hV : TV τ) {n : Int32} (qn : ∀ r9, f_root τ n = (r9, none) → Q (.inl (some (.int r9))) G) (qs : ∀ r9 τ', f_root τ n = (r9, some τ') → ∀ s' G', rx_R b0 O z1 z2 s' G' → gfr s s' → CT E s' τ' → GT s' → Q (.inl (some (.int r9))) G') : mx_W (gt_P b0 mi E) mX9_root 0 (mx_en 0 [.ref (rA s 2 0), .int n]) [] G Q := by
  have hV0 := hV.1
  refine w_iload_n dX9_root_0 rfl ?_
  refine w_iconst (v := 0) dX9_root_1 (by decide) ?_
  refine w_bipush (v := nI 63) dX9_root_2 (by decide) ?_
  refine r_stat3 dX9_root_4 mt_8_58 (lb rfl) (lb rfl) (lb rfl) (lb rfl) rfl (c9_inI (b := 0) (by decide) (c := 63) (by decide) (fun i4a i4b => ⟨_, rfl, ?_⟩) (fun i4 => ⟨_, rfl, ?_⟩))
  ·
    refine w_if_ne (t := 13) dX9_root_7 rfl (fun _ => ?_) (fun h => absurd (by decide) h)
    refine w_aload_n dX9_root_13 rfl ?_
    refine r_getr  dX9_root_14 ft_8_10 R rfl (hS _ _ rfl) rfl (lb rfl) (cT_s hT 2 0 rfl) ?_
    refine w_iload_n dX9_root_17 rfl ?_
    refine r_inv1  dX9_root_18 mt_8_154 R rfl (hS _ _ rfl) rfl (lb rfl) (lb rfl) (lb rfl) (lb rfl) rfl (c7_addRoot R hS hT hV (fun e8 => ⟨_, rfl, ?_⟩) (fun e8 G1 R1 => ⟨_, rfl, ?_⟩))
    ·
      refine w_if_ne (t := 27) dX9_root_21 rfl (fun h => absurd h (by decide)) (fun _ => ?_)
      refine w_bipush (v := (-104)) dX9_root_24 (by decide) ?_
      exact w_iret dX9_root_26 rfl rfl (qn _ (by rw [f_root, if_neg (Classical.not_not.mpr ⟨i4a, i4b⟩), if_pos e8]))
    ·
      refine w_if_ne (t := 27) dX9_root_21 rfl (fun _ => ?_) (fun h => absurd (by decide) h)
      refine w_aload_n dX9_root_27 rfl ?_
      refine r_inv0  dX9_root_28 mt_8_51 R1 rfl (hS _ _ rfl) rfl (lb rfl) (lb rfl) (lb rfl) (lb rfl) rfl (c9_forget (s := sX (sI s 10 0 (tN τ 4) n) 3 0 6 (.inl (.int (nI (tN τ 4 + 1))))) R1 hS (fun _ Rt => ⟨_, rfl, ?_⟩))
      refine w_aload_n dX9_root_31 rfl ?_
      refine r_getr  dX9_root_32 ft_8_10 Rt rfl (hS _ _ rfl) rfl (lb rfl) (cT_s hT 2 0 rfl) ?_
      refine r_geti  dX9_root_35 ft_8_157 Rt rfl (hS _ _ rfl) rfl (lb rfl) rfl ?_
      refine w_iret dX9_root_38 rfl rfl ?_
      exact qs _ _ (by rw [f_root, if_neg (Classical.not_not.mpr ⟨i4a, i4b⟩), if_neg e8]) _ _ Rt (gfr.tr ((gfr.rf s).I.X) (gfr.told _)) (CT_told (CT_root hT) hS) ⟨rfl, rfl, rfl⟩
  ·
    refine w_if_ne (t := 13) dX9_root_7 rfl (fun h => absurd h (by decide)) (fun _ => ?_)
    refine w_bipush (v := (-102)) dX9_root_10 (by decide) ?_
    exact w_iret dX9_root_12 rfl rfl (qn _ (by rw [f_root, if_pos (fun e => i4 e.1 e.2)]))
theorem c9_base (R : rx_R b0 O z1 z2 s G) (hS : rx_in s) {τ : tx_T} (hT : CT E s τ) (hV : TV τ) {k p : Int32} (qn : ∀ r9, f_base τ k p = (r9, none) → Q (.inl (some (.int r9))) G) (qs : ∀ r9 τ', f_base τ k p = (r9, some τ') → ∀ s' G', rx_R b0 O z1 z2 s' G' → gfr s s' → CT E s' τ' → GT s' → Q (.inl (some (.int r9))) G') : mx_W (gt_P b0 mi E) mX9_base 0 (mx_en 0 [.ref (rA s 2 0), .int k, .int p]) [] G Q := by
  have hV0 := hV.1
  refine w_iload_n dX9_base_0 rfl ?_
  refine w_iconst (v := 0) dX9_base_1 (by decide) ?_
  refine w_iconst (v := nI 3) dX9_base_2 (by decide) ?_
  refine r_stat3 dX9_base_3 mt_8_58 (lb rfl) (lb rfl) (lb rfl) (lb rfl) rfl (c9_inI (b := 0) (by decide) (c := 3) (by decide) (fun i3a i3b => ⟨_, rfl, ?_⟩) (fun i3 => ⟨_, rfl, ?_⟩))
  ·
    refine w_if_eq (t := 19) dX9_base_6 rfl (fun h => absurd h (by decide)) (fun _ => ?_)
    refine w_iload_n dX9_base_9 rfl ?_
    refine w_iconst (v := (-1)) dX9_base_10 (by decide) ?_
    refine w_ldc dX9_base_11 ct_8_160 ?_
    refine r_stat3 dX9_base_13 mt_8_58 (lb rfl) (lb rfl) (lb rfl) (lb rfl) rfl (c9_inI (b := -1) (by decide) (c := 2000000000) (by decide) (fun i13a i13b => ⟨_, rfl, ?_⟩) (fun i13 => ⟨_, rfl, ?_⟩))
    ·
      refine w_if_ne (t := 22) dX9_base_16 rfl (fun _ => ?_) (fun h => absurd (by decide) h)
      obtain ⟨j, hj, rfl⟩ := nI_ofI i3a
      rw [nI_toInt hj] at i3a i3b
      have hj4 : j < 4 := by omega
      refine w_aload_n dX9_base_22 rfl ?_
      refine r_inv0  dX9_base_23 mt_8_51 R rfl (hS _ _ rfl) rfl (lb rfl) (lb rfl) (lb rfl) (lb rfl) rfl (c9_forget R hS (fun _ Rt => ⟨_, rfl, ?_⟩))
      refine w_aload_n dX9_base_26 rfl ?_
      refine r_getr  dX9_base_27 ft_8_10 Rt rfl (hS _ _ rfl) rfl (lb rfl) (cT_s hT 2 0 rfl) ?_
      refine r_getr  dX9_base_30 ft_8_161 Rt rfl (hS _ _ rfl) rfl (lb rfl) (cT_s hT 3 4 rfl) ?_
      refine w_iload_n dX9_base_33 rfl ?_
      refine r_iald  dX9_base_34 Rt rfl (hS _ _ rfl) rfl rfl hj4 (lb rfl) (hT.2.2.2.2.2.2.2.2.1 j hj4) ?_
      refine w_istore_n dX9_base_35 (lb rfl) ?_
      refine w_aload_n dX9_base_36 rfl ?_
      refine r_getr  dX9_base_37 ft_8_10 Rt rfl (hS _ _ rfl) rfl (lb rfl) (cT_s hT 2 0 rfl) ?_
      refine r_getr  dX9_base_40 ft_8_161 Rt rfl (hS _ _ rfl) rfl (lb rfl) (cT_s hT 3 4 rfl) ?_
      refine w_iload_n dX9_base_43 rfl ?_
      refine w_iload_n dX9_base_44 rfl ?_
      refine r_iast  dX9_base_45 Rt rfl (hS _ _ rfl) rfl rfl hj4 (lb rfl) (fun G1 R1 => ?_)
      refine w_iload_n dX9_base_46 rfl ?_
      refine w_iret dX9_base_47 rfl rfl ?_
      exact qs _ _ (by rw [f_base, if_neg (Classical.not_not.mpr ⟨⟨by rw [nI_toInt hj]; omega, by rw [nI_toInt hj]; omega⟩, i13a, i13b⟩), show cl (nI j) = j from nI_clamp hj]) _ _ R1 (gfr.told s).I (CT_base (CT_told hT hS)) ⟨rfl, rfl, rfl⟩
    ·
      refine w_if_ne (t := 22) dX9_base_16 rfl (fun h => absurd h (by decide)) (fun _ => ?_)
      refine w_bipush (v := (-102)) dX9_base_19 (by decide) ?_
      exact w_iret dX9_base_21 rfl rfl (qn _ (by rw [f_base, if_pos (fun e => i13 e.2.1 e.2.2)]))
  ·
    refine w_if_eq (t := 19) dX9_base_6 rfl (fun _ => ?_) (fun h => absurd (by decide) h)
    refine w_bipush (v := (-102)) dX9_base_19 (by decide) ?_
    exact w_iret dX9_base_21 rfl rfl (qn _ (by rw [f_base, if_pos (fun e => i3 e.1.1 e.1.2)]))
theorem c9_isMark {w v : Int32} (q0 : w = 0 → (iw v 0 1 → Q (.inl (some (.int 1))) G) ∧ (¬ iw v 0 1 → Q (.inl (some (.int 0))) G)) (q1 : w = 1 → (iw v (-1) 7 → Q (.inl (some (.int 1))) G) ∧ (¬ iw v (-1) 7 → Q (.inl (some (.int 0))) G)) (q2 : w = 2 → (iw v (-1) 15 → Q (.inl (some (.int 1))) G) ∧ (¬ iw v (-1) 15 → Q (.inl (some (.int 0))) G)) (q3 : ¬ w = 0 → ¬ w = 1 → ¬ w = 2 → Q (.inl (some (.int 0))) G) : mx_W (gt_P b0 mi E) mX9_isMark 0 (mx_en 0 [.int w, .int v]) [] G Q := by
  refine w_iload_n dX9_isMark_0 rfl ?_
  by_cases hsw : w.toInt < 0 ∨ 2 < w.toInt
  ·
    refine w_tblOut (t := 51) dX9_isMark_1 hsw rfl ?_
    refine w_iconst (v := 0) dX9_isMark_51 (by decide) ?_
    exact w_iret dX9_isMark_52 rfl rfl (q3 (fun e => by rw [e] at hsw; revert hsw; decide) (fun e => by rw [e] at hsw; revert hsw; decide) (fun e => by rw [e] at hsw; revert hsw; decide))
  by_cases hs0 : w = 0
  ·
    refine w_tblIn (off := 27) (t := 28) dX9_isMark_1 hsw (by rw [hs0]; rfl) rfl ?_
    refine w_iload_n dX9_isMark_28 rfl ?_
    refine w_iconst (v := 0) dX9_isMark_29 (by decide) ?_
    refine w_iconst (v := 1) dX9_isMark_30 (by decide) ?_
    refine r_stat3 dX9_isMark_31 mt_8_58 (lb rfl) (lb rfl) (lb rfl) (lb rfl) rfl (c9_inI (b := 0) (by decide) (c := 1) (by decide) (fun i31a i31b => ⟨_, rfl, ?_⟩) (fun i31 => ⟨_, rfl, ?_⟩))
    ·
      exact w_iret dX9_isMark_34 rfl rfl ((q0 hs0).1 ⟨i31a, i31b⟩)
    ·
      exact w_iret dX9_isMark_34 rfl rfl ((q0 hs0).2 (fun e => i31 e.1 e.2))
  by_cases hs1 : w = 1
  ·
    refine w_tblIn (off := 34) (t := 35) dX9_isMark_1 hsw (by rw [hs1]; rfl) rfl ?_
    refine w_iload_n dX9_isMark_35 rfl ?_
    refine w_iconst (v := (-1)) dX9_isMark_36 (by decide) ?_
    refine w_bipush (v := nI 7) dX9_isMark_37 (by decide) ?_
    refine r_stat3 dX9_isMark_39 mt_8_58 (lb rfl) (lb rfl) (lb rfl) (lb rfl) rfl (c9_inI (b := -1) (by decide) (c := 7) (by decide) (fun i39a i39b => ⟨_, rfl, ?_⟩) (fun i39 => ⟨_, rfl, ?_⟩))
    ·
      exact w_iret dX9_isMark_42 rfl rfl ((q1 hs1).1 ⟨i39a, i39b⟩)
    ·
      exact w_iret dX9_isMark_42 rfl rfl ((q1 hs1).2 (fun e => i39 e.1 e.2))
  have hs2 : w = 2 := by
    apply Int32.toInt_inj.mp; show w.toInt = 2
    have e0 : w.toInt ≠ 0 := fun e => hs0 (Int32.toInt_inj.mp e)
    have e1 : w.toInt ≠ 1 := fun e => hs1 (Int32.toInt_inj.mp e)
    omega
  refine w_tblIn (off := 42) (t := 43) dX9_isMark_1 hsw (by rw [hs2]; rfl) rfl ?_
  refine w_iload_n dX9_isMark_43 rfl ?_
  refine w_iconst (v := (-1)) dX9_isMark_44 (by decide) ?_
  refine w_bipush (v := nI 15) dX9_isMark_45 (by decide) ?_
  refine r_stat3 dX9_isMark_47 mt_8_58 (lb rfl) (lb rfl) (lb rfl) (lb rfl) rfl (c9_inI (b := -1) (by decide) (c := 15) (by decide) (fun i47a i47b => ⟨_, rfl, ?_⟩) (fun i47 => ⟨_, rfl, ?_⟩))
  ·
    exact w_iret dX9_isMark_50 rfl rfl ((q2 hs2).1 ⟨i47a, i47b⟩)
  ·
    exact w_iret dX9_isMark_50 rfl rfl ((q2 hs2).2 (fun e => i47 e.1 e.2))
theorem c5_xmark (R : rx_R b0 O z1 z2 s G) (hS : rx_in s) {τ : tx_T} (hT : CT E s τ) (hV : TV τ) {j : Nat} (hj : j < tN τ 1) {w v : Int32} (hw : w = 0 ∨ w = 1 ∨ w = 2) (q0 : w = 0 → ∀ G', rx_R b0 O z1 z2 (sX s 20 j 8 (.inl (.int (if v = 1 then 1 else 0)))) G' → Q (.inl (some (.int (tT τ 8 j)))) G') (q1 : w = 1 → ∀ G', rx_R b0 O z1 z2 (sX s 20 j 9 (.inl (.int v))) G' → Q (.inl (some (.int (tT τ 9 j)))) G') (q2 : w = 2 → ∀ G', rx_R b0 O z1 z2 (sX s 20 j 10 (.inl (.int v))) G' → Q (.inl (some (.int (tT τ 10 j)))) G')  : mx_W (gt_P b0 mi E) mX5_exchangeMark 0 (mx_en 0 [.ref (rA s 20 j), .int w, .int v]) [] G Q := by
  refine w_iload_n dX5_exchangeMark_0 rfl ?_
  refine r_if_neP (t := 34) dX5_exchangeMark_1 rfl (fun h1 => ?_) (fun h1 => ?_)
  ·
    refine w_iload_n dX5_exchangeMark_34 rfl ?_
    refine w_iconst (v := 1) dX5_exchangeMark_35 (by decide) ?_
    refine r_icmp_neP (t := 52) dX5_exchangeMark_36 rfl (fun h36 => ?_) (fun h36 => ?_)
    ·
      refine w_aload_n dX5_exchangeMark_52 rfl ?_
      refine r_geti  dX5_exchangeMark_53 ft_5_25 R rfl (cT_Su hT hj) rfl (lb rfl) (cT_S hT hj 10 rfl) ?_
      refine w_istore_n dX5_exchangeMark_56 (lb rfl) ?_
      refine w_aload_n dX5_exchangeMark_57 rfl ?_
      refine w_iload_n dX5_exchangeMark_58 rfl ?_
      refine r_puti  dX5_exchangeMark_59 ft_5_25 R rfl (cT_Su hT hj) rfl (lb rfl) (fun h => by cases h) rfl rfl (fun G1 R1 => ?_)
      refine w_iload_n dX5_exchangeMark_62 rfl ?_
      exact w_iret dX5_exchangeMark_63 rfl rfl (q2 (hw.elim (fun e => absurd e h1) (fun e => e.elim (fun e => absurd e h36) id)) _ R1)
    ·
      refine w_aload_n dX5_exchangeMark_39 rfl ?_
      refine r_geti  dX5_exchangeMark_40 ft_5_21 R rfl (cT_Su hT hj) rfl (lb rfl) (cT_S hT hj 9 rfl) ?_
      refine w_istore_n dX5_exchangeMark_43 (lb rfl) ?_
      refine w_aload_n dX5_exchangeMark_44 rfl ?_
      refine w_iload_n dX5_exchangeMark_45 rfl ?_
      refine r_puti  dX5_exchangeMark_46 ft_5_21 R rfl (cT_Su hT hj) rfl (lb rfl) (fun h => by cases h) rfl rfl (fun G2 R2 => ?_)
      refine w_goto (t := 62) dX5_exchangeMark_49 rfl ?_
      refine w_iload_n dX5_exchangeMark_62 rfl ?_
      exact w_iret dX5_exchangeMark_63 rfl rfl (q1 h36 _ R2)
  ·
    refine w_aload_n dX5_exchangeMark_4 rfl ?_
    refine r_geti  dX5_exchangeMark_5 ft_5_79 R rfl (cT_Su hT hj) rfl (lb rfl) (cT_S hT hj 8 rfl) ?_
    refine r_if_eqi (t := 15) dX5_exchangeMark_8 rfl (fun h8 => ?_) (fun h8 => ?_)
    ·
      refine w_iconst (v := 0) dX5_exchangeMark_15 (by decide) ?_
      refine w_istore_n dX5_exchangeMark_16 (lb rfl) ?_
      refine w_aload_n dX5_exchangeMark_17 rfl ?_
      refine w_iload_n dX5_exchangeMark_18 rfl ?_
      refine w_iconst (v := 1) dX5_exchangeMark_19 (by decide) ?_
      refine r_icmp_neP (t := 27) dX5_exchangeMark_20 rfl (fun h20 => ?_) (fun h20 => ?_)
      ·
        refine w_iconst (v := 0) dX5_exchangeMark_27 (by decide) ?_
        refine r_puti  dX5_exchangeMark_28 ft_5_79 R rfl (cT_Su hT hj) rfl (lb rfl) (fun h => by cases h) rfl rfl (fun G3 R3 => ?_)
        refine w_goto (t := 62) dX5_exchangeMark_31 rfl ?_
        refine w_iload_n dX5_exchangeMark_62 rfl ?_
        refine w_iret dX5_exchangeMark_63 rfl rfl ?_
        have h8v := (hV.2.1 j hj).2.2.2.2.1
        rw [if_neg h20] at q0
        have e8 : tT τ 8 j = 0 := Int32.toInt_inj.mp (by show (tT τ 8 j).toInt = 0; omega)
        rw [e8] at q0
        exact q0 h1 _ R3
      ·
        refine w_iconst (v := 1) dX5_exchangeMark_23 (by decide) ?_
        refine w_goto (t := 28) dX5_exchangeMark_24 rfl ?_
        refine r_puti  dX5_exchangeMark_28 ft_5_79 R rfl (cT_Su hT hj) rfl (lb rfl) (fun h => by cases h) rfl rfl (fun G4 R4 => ?_)
        refine w_goto (t := 62) dX5_exchangeMark_31 rfl ?_
        refine w_iload_n dX5_exchangeMark_62 rfl ?_
        refine w_iret dX5_exchangeMark_63 rfl rfl ?_
        have h8v := (hV.2.1 j hj).2.2.2.2.1
        rw [if_pos h20] at q0
        have e8 : tT τ 8 j = 0 := Int32.toInt_inj.mp (by show (tT τ 8 j).toInt = 0; omega)
        rw [e8] at q0
        exact q0 h1 _ R4
    ·
      refine w_iconst (v := 1) dX5_exchangeMark_11 (by decide) ?_
      refine w_goto (t := 16) dX5_exchangeMark_12 rfl ?_
      refine w_istore_n dX5_exchangeMark_16 (lb rfl) ?_
      refine w_aload_n dX5_exchangeMark_17 rfl ?_
      refine w_iload_n dX5_exchangeMark_18 rfl ?_
      refine w_iconst (v := 1) dX5_exchangeMark_19 (by decide) ?_
      refine r_icmp_neP (t := 27) dX5_exchangeMark_20 rfl (fun h20 => ?_) (fun h20 => ?_)
      ·
        refine w_iconst (v := 0) dX5_exchangeMark_27 (by decide) ?_
        refine r_puti  dX5_exchangeMark_28 ft_5_79 R rfl (cT_Su hT hj) rfl (lb rfl) (fun h => by cases h) rfl rfl (fun G5 R5 => ?_)
        refine w_goto (t := 62) dX5_exchangeMark_31 rfl ?_
        refine w_iload_n dX5_exchangeMark_62 rfl ?_
        refine w_iret dX5_exchangeMark_63 rfl rfl ?_
        have h8v := (hV.2.1 j hj).2.2.2.2.1
        rw [if_neg h20] at q0
        have e8 : tT τ 8 j = 1 := Int32.toInt_inj.mp (by show (tT τ 8 j).toInt = 1; omega)
        rw [e8] at q0
        exact q0 h1 _ R5
      ·
        refine w_iconst (v := 1) dX5_exchangeMark_23 (by decide) ?_
        refine w_goto (t := 28) dX5_exchangeMark_24 rfl ?_
        refine r_puti  dX5_exchangeMark_28 ft_5_79 R rfl (cT_Su hT hj) rfl (lb rfl) (fun h => by cases h) rfl rfl (fun G6 R6 => ?_)
        refine w_goto (t := 62) dX5_exchangeMark_31 rfl ?_
        refine w_iload_n dX5_exchangeMark_62 rfl ?_
        refine w_iret dX5_exchangeMark_63 rfl rfl ?_
        have h8v := (hV.2.1 j hj).2.2.2.2.1
        rw [if_pos h20] at q0
        have e8 : tT τ 8 j = 1 := Int32.toInt_inj.mp (by show (tT τ 8 j).toInt = 1; omega)
        rw [e8] at q0
        exact q0 h1 _ R6
theorem c9_mark (R : rx_R b0 O z1 z2 s G) (hS : rx_in s) {τ : tx_T} (hT : CT E s τ) (hV : TV τ) {x w v : Int32} (qn : ∀ r9, f_mark τ x w v = (r9, none) → Q (.inl (some (.int r9))) G) (qs : ∀ r9 τ', f_mark τ x w v = (r9, some τ') → ∀ s' G', rx_R b0 O z1 z2 s' G' → gfr s s' → CT E s' τ' → GT s' → Q (.inl (some (.int r9))) G') : mx_W (gt_P b0 mi E) mX9_mark 0 (mx_en 0 [.ref (rA s 2 0), .int x, .int w, .int v]) [] G Q := by
  have hV0 := hV.1
  refine w_aload_n dX9_mark_0 rfl ?_
  refine r_getr  dX9_mark_1 ft_8_10 R rfl (hS _ _ rfl) rfl (lb rfl) (cT_s hT 2 0 rfl) ?_
  refine w_iload_n dX9_mark_4 rfl ?_
  refine r_inv1  dX9_mark_5 mt_8_88 R rfl (hS _ _ rfl) rfl (lb rfl) (lb rfl) (lb rfl) (lb rfl) rfl (c7_sectionAt R hS hT hV (fun e5 => ⟨_, rfl, ?_⟩) (fun j hj e5 => ⟨_, rfl, ?_⟩))
  ·
    refine w_astoreN dX9_mark_8 (lb rfl) ?_
    refine w_aloadN dX9_mark_10 rfl ?_
    refine r_nnF (t := 18) dX9_mark_12 rfl ?_
    refine w_bipush (v := (-101)) dX9_mark_15 (by decide) ?_
    exact w_iret dX9_mark_17 rfl rfl (qn _ (by rw [f_mark, if_pos e5]))
  ·
    subst e5
    have hj2 : j < 2 ^ 31 := by omega
    have ej : cl (nI j) = j := nI_clamp hj2
    have en : ¬ ¬ (0 ≤ (nI j).toInt ∧ (nI j).toInt < tN τ 1) := Classical.not_not.mpr ⟨by rw [nI_toInt hj2]; omega, by rw [nI_toInt hj2]; omega⟩
    refine w_astore dX9_mark_8 (lb rfl) ?_
    refine w_aload dX9_mark_10 rfl ?_
    refine r_nnT (t := 18) dX9_mark_12 rfl ?_
    refine w_iload_n dX9_mark_18 rfl ?_
    refine w_iload_n dX9_mark_19 rfl ?_
    refine r_stat2 dX9_mark_20 mt_8_105 (lb rfl) (lb rfl) (lb rfl) (lb rfl) rfl (c9_isMark (fun w0 => ⟨fun e => ⟨_, rfl, ?_⟩, fun e => ⟨_, rfl, ?_⟩⟩) (fun w1 => ⟨fun e => ⟨_, rfl, ?_⟩, fun e => ⟨_, rfl, ?_⟩⟩) (fun w2 => ⟨fun e => ⟨_, rfl, ?_⟩, fun e => ⟨_, rfl, ?_⟩⟩) (fun w0 w1 w2 => ⟨_, rfl, ?_⟩))
    ·
      refine w_if_ne (t := 29) dX9_mark_23 rfl (fun _ => ?_) (fun h => absurd (by decide) h)
      refine w_aload_n dX9_mark_29 rfl ?_
      refine r_inv0  dX9_mark_30 mt_8_51 R rfl (hS _ _ rfl) rfl (lb rfl) (lb rfl) (lb rfl) (lb rfl) rfl (c9_forget R hS (fun _ Rt => ⟨_, rfl, ?_⟩))
      refine w_aload dX9_mark_33 rfl ?_
      refine w_iload_n dX9_mark_35 rfl ?_
      refine w_iload_n dX9_mark_36 rfl ?_
      refine r_inv2  dX9_mark_37 mt_8_109 Rt rfl (cT_Su hT hj) rfl (lb rfl) (lb rfl) (lb rfl) (lb rfl) rfl (c5_xmark Rt hS (CT_told hT hS) hV hj (Or.inl w0) (fun x0 Gm Rm => ⟨_, rfl, ?_⟩) (fun x1 Gm Rm => ⟨_, rfl, ?_⟩) (fun x2 Gm Rm => ⟨_, rfl, ?_⟩))
      ·
        refine w_iret dX9_mark_40 rfl rfl ?_
        subst w0
        exact qs _ _ (by rw [f_mark, if_neg en, if_pos rfl, if_pos e, ej]) _ _ Rm (gfr.told s).X (CT_mark (CT_told hT hS) (Or.inl rfl)) ⟨rfl, rfl, rfl⟩
      ·
        refine w_iret dX9_mark_40 rfl rfl ?_
        exact absurd (w0.symm.trans x1) (by decide)
      ·
        refine w_iret dX9_mark_40 rfl rfl ?_
        exact absurd (w0.symm.trans x2) (by decide)
    ·
      refine w_if_ne (t := 29) dX9_mark_23 rfl (fun h => absurd h (by decide)) (fun _ => ?_)
      refine w_bipush (v := (-102)) dX9_mark_26 (by decide) ?_
      exact w_iret dX9_mark_28 rfl rfl (qn _ (by subst w0; rw [f_mark, if_neg en, if_pos rfl, if_neg e]))
    ·
      refine w_if_ne (t := 29) dX9_mark_23 rfl (fun _ => ?_) (fun h => absurd (by decide) h)
      refine w_aload_n dX9_mark_29 rfl ?_
      refine r_inv0  dX9_mark_30 mt_8_51 R rfl (hS _ _ rfl) rfl (lb rfl) (lb rfl) (lb rfl) (lb rfl) rfl (c9_forget R hS (fun _ Rt => ⟨_, rfl, ?_⟩))
      refine w_aload dX9_mark_33 rfl ?_
      refine w_iload_n dX9_mark_35 rfl ?_
      refine w_iload_n dX9_mark_36 rfl ?_
      refine r_inv2  dX9_mark_37 mt_8_109 Rt rfl (cT_Su hT hj) rfl (lb rfl) (lb rfl) (lb rfl) (lb rfl) rfl (c5_xmark Rt hS (CT_told hT hS) hV hj (Or.inr (Or.inl w1)) (fun x0 Gm Rm => ⟨_, rfl, ?_⟩) (fun x1 Gm Rm => ⟨_, rfl, ?_⟩) (fun x2 Gm Rm => ⟨_, rfl, ?_⟩))
      ·
        refine w_iret dX9_mark_40 rfl rfl ?_
        exact absurd (w1.symm.trans x0) (by decide)
      ·
        refine w_iret dX9_mark_40 rfl rfl ?_
        subst w1
        exact qs _ _ (by rw [f_mark, if_neg en, if_neg (by decide), if_pos rfl, if_pos e, ej]) _ _ Rm (gfr.told s).X (CT_mark (CT_told hT hS) (Or.inr (Or.inl rfl))) ⟨rfl, rfl, rfl⟩
      ·
        refine w_iret dX9_mark_40 rfl rfl ?_
        exact absurd (w1.symm.trans x2) (by decide)
    ·
      refine w_if_ne (t := 29) dX9_mark_23 rfl (fun h => absurd h (by decide)) (fun _ => ?_)
      refine w_bipush (v := (-102)) dX9_mark_26 (by decide) ?_
      exact w_iret dX9_mark_28 rfl rfl (qn _ (by subst w1; rw [f_mark, if_neg en, if_neg (by decide), if_pos rfl, if_neg e]))
    ·
      refine w_if_ne (t := 29) dX9_mark_23 rfl (fun _ => ?_) (fun h => absurd (by decide) h)
      refine w_aload_n dX9_mark_29 rfl ?_
      refine r_inv0  dX9_mark_30 mt_8_51 R rfl (hS _ _ rfl) rfl (lb rfl) (lb rfl) (lb rfl) (lb rfl) rfl (c9_forget R hS (fun _ Rt => ⟨_, rfl, ?_⟩))
      refine w_aload dX9_mark_33 rfl ?_
      refine w_iload_n dX9_mark_35 rfl ?_
      refine w_iload_n dX9_mark_36 rfl ?_
      refine r_inv2  dX9_mark_37 mt_8_109 Rt rfl (cT_Su hT hj) rfl (lb rfl) (lb rfl) (lb rfl) (lb rfl) rfl (c5_xmark Rt hS (CT_told hT hS) hV hj (Or.inr (Or.inr w2)) (fun x0 Gm Rm => ⟨_, rfl, ?_⟩) (fun x1 Gm Rm => ⟨_, rfl, ?_⟩) (fun x2 Gm Rm => ⟨_, rfl, ?_⟩))
      ·
        refine w_iret dX9_mark_40 rfl rfl ?_
        exact absurd (w2.symm.trans x0) (by decide)
      ·
        refine w_iret dX9_mark_40 rfl rfl ?_
        exact absurd (w2.symm.trans x1) (by decide)
      ·
        refine w_iret dX9_mark_40 rfl rfl ?_
        subst w2
        exact qs _ _ (by rw [f_mark, if_neg en, if_neg (by decide), if_neg (by decide), if_pos rfl, if_pos e, ej]) _ _ Rm (gfr.told s).X (CT_mark (CT_told hT hS) (Or.inr (Or.inr rfl))) ⟨rfl, rfl, rfl⟩
    ·
      refine w_if_ne (t := 29) dX9_mark_23 rfl (fun h => absurd h (by decide)) (fun _ => ?_)
      refine w_bipush (v := (-102)) dX9_mark_26 (by decide) ?_
      exact w_iret dX9_mark_28 rfl rfl (qn _ (by subst w2; rw [f_mark, if_neg en, if_neg (by decide), if_neg (by decide), if_pos rfl, if_neg e]))
    ·
      refine w_if_ne (t := 29) dX9_mark_23 rfl (fun h => absurd h (by decide)) (fun _ => ?_)
      refine w_bipush (v := (-102)) dX9_mark_26 (by decide) ?_
      exact w_iret dX9_mark_28 rfl rfl (qn _ (by rw [f_mark, if_neg en, if_neg w0, if_neg w1, if_neg w2]))
end
