/-! ===== A byte is patched ===== -/
theorem CT_pv {E : Nat → Nat} {s : rx_S} {τ : tx_T} (h : CT E s τ) (hV : TV τ) {j m n p : Nat} {a : Nat → Nat} {sd v : Int32} (hj : j < tN τ 1) (hb : BP E s τ j sd n a) (hp : p < n) (ep : a p = m) : CT E (sX s 23 (64 * p + j) 1 (.inl (.int v))) (τ.1, τ.2.1, u2 τ.2.2 j m v) := by
  obtain ⟨h1, h2, h3, h4, h5, h6, h7, h8, h9, h10, h11, h12, n13, f13, hn13, h13⟩ := h
  have h60 : tN τ 1 ≤ 60 := hV.1.2.1
  refine ⟨fun r f q e => (sX_p (fun x => by rw [x.1] at e; cases e)).trans (h1 r f q e), h2, ⟨rLS_X h3.1 (by omega), rLS_X h3.2.1 (by omega), rLS_X h3.2.2.1 (by omega), fun i hi => rLS_X (h3.2.2.2 i hi) (by omega)⟩, OWN_X h4 (by omega) (by omega), fun i hi => ?_, h6, h7, h8, h9, h10, h11, h12, n13, f13, hn13, rLS_X h13 (by omega)⟩
  have hi' : i < tN τ 1 := hi
  obtain ⟨g1, g2, g3, g4⟩ := h5 i hi
  refine ⟨g1, g2, g3, ?_⟩
  by_cases e : i = j
  · subst e
    obtain ⟨b1, b2, b3, b4, b5, b6, b7, b8⟩ := hb
    refine ⟨sd, n, a, b1, b2, b3, rLS_X b4 (by omega), fun p' hp' => ?_, b6, b7, fun k hk hn => ?_⟩
    · obtain ⟨c1, c2, c3, c4⟩ := b5 p' hp'
      refine ⟨c1, c2, (sX_p (by omega)).trans c3, ?_⟩
      show _ = Sum.inl (Value.int (u2 τ.2.2 i m v i (a p')))
      by_cases e2 : p' = p
      · rw [e2, ep, u2_self]; exact sX_s
      · rw [u2_if, if_neg (fun q => e2 (b7 p' p hp' hp (q.2.trans ep.symm)))]; exact (sX_p (by omega)).trans c4
    · show u2 τ.2.2 i m v i k = _
      rw [u2_if, if_neg (fun q => hn p hp (ep.trans q.2.symm))]; exact b8 k hk hn
  · exact BY_fr g4 rfl rfl rfl (fun _ => rfl) (fun p' f => sX_p (by omega)) (fun n' f hh => rLS_X hh (by omega)) rfl (fun k => by
      show u2 τ.2.2 j m v i k = _
      rw [u2_if, if_neg (fun q => e q.1)])
theorem CT_pn {b0 z1 z2 : Nat} {O : Nat → Option mx_C} {E : Nat → Nat} {s s3 s4 : rx_S} {G3 : mx_H} {τ : tx_T} (h : CT E s τ) (hV : TV τ) (hS : rx_in s) (R3 : rx_R b0 O z1 z2 s3 G3) {j m n : Nat} {a : Nat → Nat} {sd v : Int32} (hj : j < tN τ 1) (hm : m < cl (tT τ 5 j)) (hb : BP E s τ j sd n a) (hnm : ∀ p, p < n → a p ≠ m) (e3 : efr s s3 (fun r i => r = 23 ∧ i = 64 * n + j)) (u23 : rU s3 23 (64 * n + j) = true) (f0 : rX s3 23 (64 * n + j) 0 = .inl (.int (nI m))) (f1 : rX s3 23 (64 * n + j) 1 = .inl (.int v)) (hl : lfr s3 s4 22 j) (r4 : rLS (E 6) s4 22 j (n + 1) (fun p => if p = n then (23, 64 * n + j) else (23, 64 * p + j))) : CT E s4 (τ.1, τ.2.1, u2 τ.2.2 j m v) := by
  obtain ⟨h1, ⟨h2a, h2b, h2c⟩, ⟨h3a, h3b, h3c, h3d⟩, h4, h5, h6, h7, h8, h9, h10, h11, h12, n13, f13, hn13, h13⟩ := h
  obtain ⟨l1, l2, l3, l4, l5, l6, l7, l8⟩ := id hl
  have h60 : tN τ 1 ≤ 60 := hV.1.2.1
  have X4 : ∀ r i f, r ≠ 9 → ¬ (r = 22 ∧ i = j) → ¬ (r = 23 ∧ i = 64 * n + j) → rX s4 r i f = rX s r i f := fun r i f a b c => (l4 r i f a b).trans (congrFun ((e3 r i c).2.2.2.1) f)
  have U4 : ∀ r i, r ≠ 9 → ¬ (r = 23 ∧ i = 64 * n + j) → rU s4 r i = rU s r i := fun r i a b => ((l6 r i a).1).trans (e3 r i b).2.1
  have P9 : ∀ a, ¬ (9 = 23 ∧ a = 64 * n + j) := fun a => by omega
  have own3 : OWN s3 := OWN_efr h4 e3 (fun r i hr hp b => by omega)
  have u22 : rU s3 22 j = true := by rw [(e3 22 j (by omega)).2.1]; exact hb.2.2.1
  have own4 : OWN s4 := OWN_lfr own3 R3 (Or.inr (Or.inr rfl)) hl u22
  have LT : ∀ r i n' f, (r = 8 ∨ r = 21 ∨ r = 22) → ¬ (r = 22 ∧ i = j) → rU s r i = true → rLS (E 6) s r i n' f → rLS (E 6) s4 r i n' f := fun r i n' f a b u hh =>
    rLS_lfr (rLS_efr hh e3 (by omega) P9) hl b (by omega) (fun w x y => b (by have := own3 r i 22 j w a (Or.inr (Or.inr rfl)) (by rw [(e3 r i (by omega)).2.1]; exact u) u22 x y; omega))
  refine ⟨fun r f q e => (X4 r 0 f (fun x => by rw [x] at e; cases e) (fun x => by rw [x.1] at e; cases e) (fun x => by rw [x.1] at e; cases e)).trans (h1 r f q e), ⟨(X4 3 0 5 (by omega) (by omega) (by omega)).trans h2a, (X4 3 0 6 (by omega) (by omega) (by omega)).trans h2b, (X4 3 0 7 (by omega) (by omega) (by omega)).trans h2c⟩, ⟨LT 8 0 _ _ (Or.inl rfl) (by omega) (hS _ _ rfl) h3a, LT 8 1 _ _ (Or.inl rfl) (by omega) (hS _ _ rfl) h3b, LT 8 2 _ _ (Or.inl rfl) (by omega) (hS _ _ rfl) h3c, fun i hi => LT 21 i _ _ (Or.inr (Or.inl rfl)) (by omega) (h5 i hi).2.1 (h3d i hi)⟩, own4, fun i hi => ?_, fun k hk => ?_, fun k hk => ?_, fun k hk => ?_, fun k hk => ?_, fun i hi => ?_, fun k hk => ?_, fun k hk => ?_, n13, f13, hn13, LT 8 3 _ _ (Or.inl rfl) (by omega) (hS _ _ rfl) h13⟩
  · have hi' : i < tN τ 1 := hi
    obtain ⟨g1, g2, g3, g4⟩ := h5 i hi
    refine ⟨(U4 20 i (by omega) (by omega)).trans g1, (U4 21 i (by omega) (by omega)).trans g2, fun f hf => (X4 20 i f (by omega) (by omega) (by omega)).trans (g3 f hf), ?_⟩
    by_cases e : i = j
    · subst e
      obtain ⟨b1, b2, b3, b4, b5, b6, b7, b8⟩ := hb
      refine ⟨sd, n + 1, fun p => if p = n then m else a p, (X4 20 i 5 (by omega) (by omega) (by omega)).trans b1, (X4 20 i 7 (by omega) (by omega) (by omega)).trans b2, (U4 22 i (by omega) (by omega)).trans b3, ?_, fun p hp => ?_, fun p hp => (U4 23 (64 * p + i) (by omega) (by omega)).trans (b6 p (by omega)), fun p p' hp hp' e => ?_, fun k hk hn => ?_⟩
      · have : (fun p => if p = n then (23, 64 * n + i) else (23, 64 * p + i)) = (fun p => ((23, 64 * p + i) : Nat × Nat)) := by
          funext p
          by_cases e : p = n
          · rw [if_pos e, e]
          · rw [if_neg e]
        rw [this] at r4; exact r4
      · by_cases e : p = n
        · rw [e]
          refine ⟨l5 _ _ u23, ?_, ?_, ?_⟩
          · show (if n = n then m else a n) < _
            rw [if_pos rfl]; exact hm
          · show _ = Sum.inl (Value.int (nI (if n = n then m else a n)))
            rw [if_pos rfl]; exact (l4 23 _ 0 (by omega) (by omega)).trans f0
          · show _ = Sum.inl (Value.int (u2 τ.2.2 i m v i (if n = n then m else a n)))
            rw [if_pos rfl, u2_self]; exact (l4 23 _ 1 (by omega) (by omega)).trans f1
        · obtain ⟨c1, c2, c3, c4⟩ := b5 p (by omega)
          refine ⟨(U4 23 (64 * p + i) (by omega) (by omega)).trans c1, ?_, ?_, ?_⟩
          · show (if p = n then m else a p) < _
            rw [if_neg e]; exact c2
          · show _ = Sum.inl (Value.int (nI (if p = n then m else a p)))
            rw [if_neg e]; exact (X4 23 _ 0 (by omega) (by omega) (by omega)).trans c3
          · show _ = Sum.inl (Value.int (u2 τ.2.2 i m v i (if p = n then m else a p)))
            rw [if_neg e, u2_if, if_neg (fun q => hnm p (by omega) q.2)]; exact (X4 23 _ 1 (by omega) (by omega) (by omega)).trans c4
      · have e' : (if p = n then m else a p) = (if p' = n then m else a p') := e
        by_cases e1 : p = n
        · by_cases e2 : p' = n
          · omega
          · rw [if_pos e1, if_neg e2] at e'; exact absurd e'.symm (hnm p' (by omega))
        · by_cases e2 : p' = n
          · rw [if_neg e1, if_pos e2] at e'; exact absurd e' (hnm p (by omega))
          · rw [if_neg e1, if_neg e2] at e'; exact b7 p p' (by omega) (by omega) e'
      · have hmk : m ≠ k := fun e => hn n (Nat.lt_succ_self n) ((if_pos rfl).trans e)
        show u2 τ.2.2 i m v i k = _
        rw [u2_if, if_neg (fun q => hmk q.2.symm)]
        exact b8 k hk (fun p hp e => hn p (by omega) ((if_neg (by omega)).trans e))
    · exact BY_fr g4 (X4 20 i 5 (by omega) (by omega) (by omega)) (X4 20 i 7 (by omega) (by omega) (by omega)) (U4 22 i (by omega) (by omega)) (fun p => U4 23 _ (by omega) (by omega)) (fun p f => X4 23 _ f (by omega) (by omega) (by omega)) (fun n' f hh => LT 22 i n' f (Or.inr (Or.inr rfl)) (by omega) (BY_u g4) hh) rfl (fun k => by
        show u2 τ.2.2 j m v i k = _
        rw [u2_if, if_neg (fun q => e q.1)])
  · exact ⟨(U4 24 k (by omega) (by omega)).trans (h6 k hk).1, fun f e => (X4 24 k f (by omega) (by omega) (by omega)).trans ((h6 k hk).2 f e)⟩
  · exact ⟨(U4 25 k (by omega) (by omega)).trans (h7 k hk).1, fun f e => (X4 25 k f (by omega) (by omega) (by omega)).trans ((h7 k hk).2 f e)⟩
  · show rI s4 10 0 k = tT τ 27 k
    rw [l2, (e3 10 0 (by omega)).2.2.2.2.1]; exact h8 k hk
  · show rI s4 10 1 k = tT τ 28 k
    rw [l2, (e3 10 1 (by omega)).2.2.2.2.1]; exact h9 k hk
  · have hi' : tN τ 1 ≤ i := hi
    obtain ⟨q1, q2, q3, q4⟩ := h10 i hi
    exact ⟨(U4 20 i (by omega) (by omega)).trans q1, (U4 21 i (by omega) (by omega)).trans q2, (U4 22 i (by omega) (by omega)).trans q3, fun p hp => (U4 23 _ (by omega) (by omega)).trans (q4 p hp)⟩
  · exact (U4 24 k (by omega) (by omega)).trans (h11 k hk)
  · exact (U4 25 k (by omega) (by omega)).trans (h12 k hk)
theorem pz_pn {s s3 s4 : rx_S} {j n K : Nat} (hP : pz s K) (hn : n ≤ K) (hK : K ≤ 600) (e3 : efr s s3 (fun r i => r = 23 ∧ i = 64 * n + j)) (hl : lfr s3 s4 22 j) (h2 : rX s4 22 j 2 = .inl (.int (nI (n + 1)))) : pz s4 (K + 1) := by
  intro i m u x
  by_cases e : i = j
  · subst e
    rw [h2] at x
    injection x with x
    injection x with x
    rw [← x, nI_toInt (by omega)]; omega
  · have x' : rX s 22 i 2 = .inl (.int m) := (congrFun (e3 22 i (by omega)).2.2.2.1 2).symm.trans ((hl.2.2.2.1 22 i 2 (by omega) (by omega)).symm.trans x)
    have u' : rU s 22 i = true := (e3 22 i (by omega)).2.1.symm.trans ((hl.2.2.2.2.2.1 22 i (by omega)).1.symm.trans u)
    have := hP i m u' x'
    omega
theorem gfp_pn {s s3 s4 : rx_S} {j n : Nat} (hfr : rU s 23 (64 * n + j) = false) (e3 : efr s s3 (fun r i => r = 23 ∧ i = 64 * n + j)) (hl : lfr s3 s4 22 j) : gfp s s4 := by
  refine ⟨fun r i u => ?_, fun f => (hl.2.2.2.1 0 0 f (by omega) (by omega)).trans (congrFun (e3 0 0 (by omega)).2.2.2.1 f), ?_, ?_, ?_⟩
  · have hne : ¬ (r = 23 ∧ i = 64 * n + j) := fun q => by rw [q.1, q.2, hfr] at u; cases u
    exact ⟨hl.2.2.2.2.1 r i (by rw [(e3 r i hne).2.1]; exact u), (congrFun (congrFun hl.1 r) i).trans (e3 r i hne).1⟩
  · rw [hl.2.1]; funext i; exact (e3 1 i (by omega)).2.2.2.2.1
  · rw [hl.2.2.1]; funext i; exact (e3 1 i (by omega)).2.2.2.2.2.1
  · rw [hl.2.2.1]; funext i; exact (e3 26 i (by omega)).2.2.2.2.2.1
section
variable {b0 mi z1 z2 : Nat} {E : Nat → Nat} {O : Nat → Option mx_C} {s : rx_S} {G : mx_H} {Q : mx_O → mx_H → Prop}
theorem c5_setByte_l {s : rx_S} {G : mx_H} (R : rx_R b0 O z1 z2 s G) {j m n : Nat} {a : Nat → Nat} {y : Nat → Int32} (hus : rU s 20 j = true) (h7 : rX s 20 j 7 = .inr (22, j)) (hu2 : rU s 22 j = true) (hl : rLS (E 6) s 22 j n (fun p => (23, 64 * p + j))) (hp : ∀ p, p < n → rU s 23 (64 * p + j) = true ∧ a p < 2 ^ 31 ∧ rX s 23 (64 * p + j) 0 = .inl (.int (nI (a p))) ∧ rX s 23 (64 * p + j) 1 = .inl (.int (y (a p)))) (hm : m < 2 ^ 31) {w : Int32} (q1 : ∀ p G', p < n → a p = m → rx_R b0 O z1 z2 (sX s 23 (64 * p + j) 1 (.inl (.int w))) G' → Q (.inl none) G') (q0 : (∀ p, p < n → a p ≠ m) → ∀ L' : mx_L, L' 0 = some (.ref (rA s 20 j)) → L' 1 = some (.int (nI m)) → L' 3 = some (.int w) → mx_W (gt_P b0 mi E) mX5_setByte 63 L' [] G Q) : ∀ (d : Nat) (t : Nat) (L : mx_L), n - t < d → t ≤ n → (∀ p, p < t → a p ≠ m) → L 0 = some (.ref (rA s 20 j)) → L 1 = some (.int (nI m)) → L 3 = some (.int w) → L 4 = some (.int (nI t)) → mx_W (gt_P b0 mi E) mX5_setByte 9 L [] G Q := by
  intro d
  induction d with
  | zero => intro t L hd; exact absurd hd (Nat.not_lt_zero _)
  | succ d ih =>
    intro t L hd ht hb h0 h1 h3 h4
    have hn := rLS_n hl
    refine w_iload dX5_setByte_9 h4 ?_
    refine w_aload_n dX5_setByte_11 h0 ?_
    refine r_getr  dX5_setByte_12 ft_5_18 R rfl hus rfl (lb rfl) h7 ?_
    refine r_inv0  dX5_setByte_15 mt_5_49 R rfl hu2 rfl (lb rfl) (lb rfl) (lb rfl) (lb rfl) rfl (c_lsize R rfl hu2 (hl).2.1 ⟨_, rfl, ?_⟩)
    refine r_icmp_gen (t := 63) dX5_setByte_18 rfl (by omega) (by omega) (fun h18 => ?_) (fun h18 => ?_)
    ·
      exact q0 (fun p hp => hb p (by omega)) _ h0 h1 h3
    ·
      have htn : t < n := by omega
      obtain ⟨c1, c2, c3, c4⟩ := hp t htn
      refine w_aload_n dX5_setByte_21 h0 ?_
      refine r_getr  dX5_setByte_22 ft_5_18 R rfl hus rfl (lb rfl) h7 ?_
      refine w_iload dX5_setByte_25 h4 ?_
      refine r_inv1  dX5_setByte_27 mt_5_52 R rfl hu2 rfl (lb rfl) (lb rfl) (lb rfl) (lb rfl) rfl (c_lget R rfl hu2 (hl) htn ⟨_, rfl, ?_⟩)
      show mx_W _ _ _ _ (.ref (rA s 23 (64 * t + j)) :: _) _ _
      refine r_cast dX5_setByte_30 qt_5_56 R rfl c1 rfl (by decide) ?_
      refine r_geti  dX5_setByte_33 ft_5_58 R rfl c1 rfl (lb rfl) c3 ?_
      refine w_iload_n dX5_setByte_36 h1 ?_
      refine r_icmp_nen (t := 57) dX5_setByte_37 rfl (by omega) (by omega) (fun h37 => ?_) (fun h37 => ?_)
      ·
        refine w_iinc dX5_setByte_57 h4 (nI_1 _) (lb rfl) ?_
        refine w_goto (t := 9) dX5_setByte_60 rfl ?_
        exact ih (t + 1) _ (by omega) (by omega) (fun p hp => by
          by_cases e : p = t
          · rw [e]; assumption
          · exact hb p (by omega)) h0 h1 h3 rfl
      ·
        refine w_aload_n dX5_setByte_40 h0 ?_
        refine r_getr  dX5_setByte_41 ft_5_18 R rfl hus rfl (lb rfl) h7 ?_
        refine w_iload dX5_setByte_44 h4 ?_
        refine r_inv1  dX5_setByte_46 mt_5_52 R rfl hu2 rfl (lb rfl) (lb rfl) (lb rfl) (lb rfl) rfl (c_lget R rfl hu2 (hl) htn ⟨_, rfl, ?_⟩)
        show mx_W _ _ _ _ (.ref (rA s 23 (64 * t + j)) :: _) _ _
        refine r_cast dX5_setByte_49 qt_5_56 R rfl c1 rfl (by decide) ?_
        refine w_iload_n dX5_setByte_52 h3 ?_
        refine r_puti (r := 23) (i := 64 * t + j) dX5_setByte_53 ft_5_61 R rfl c1 rfl (lb rfl) (fun h => by cases h) rfl rfl (fun G1 R1 => ?_)
        refine w_ret dX5_setByte_56 rfl ?_
        exact q1 t _ htn h37 R1
theorem c5_setNew (R : rx_R b0 O z1 z2 s G) (hE : WE b0 O E) {j n : Nat} (hus : rU s 20 j = true) (h7 : rX s 20 j 7 = .inr (22, j)) (hu2 : rU s 22 j = true) (hl : rLS (E 6) s 22 j n (fun p => (23, 64 * p + j))) (hn : n ≤ 600) (hfr : rU s 23 (64 * n + j) = false) {x w : Int32} {L : mx_L} (l0 : L 0 = some (.ref (rA s 20 j))) (l1 : L 1 = some (.int x)) (l3 : L 3 = some (.int w)) (q : ∀ s3 s4 G3 G4, rx_R b0 O (z1 + 1) (z2 + 2) s3 G3 → efr s s3 (fun r i => r = 23 ∧ i = 64 * n + j) → rU s3 23 (64 * n + j) = true → rX s3 23 (64 * n + j) 0 = .inl (.int x) → rX s3 23 (64 * n + j) 1 = .inl (.int w) → lfr s3 s4 22 j → rLS (E 6) s4 22 j (n + 1) (fun p => if p = n then (23, 64 * n + j) else (23, 64 * p + j)) → rx_R b0 O (z1 + 2) (z2 + 1000) s4 G4 → Q (.inl none) G4) : mx_W (gt_P b0 mi E) mX5_setByte 63 L [] G Q := by
  refine w_aload_n dX5_setByte_63 l0 ?_
  refine r_getr  dX5_setByte_64 ft_5_18 R rfl hus rfl (lb rfl) h7 ?_
  refine r_new 23 (64 * n + j) gPat dX5_setByte_67 nt_5_56 R (lb9 rfl) hfr ((rx_c_o rfl).trans rfl) (fun G1 R1 => ?_)
  refine w_dup dX5_setByte_70 rfl ?_
  refine w_iload_n dX5_setByte_71 l1 ?_
  refine w_iload_n dX5_setByte_72 l3 ?_
  refine r_spec2 dX5_setByte_73 mt_5_64 (by decide) (lb rfl) (lb rfl) (lb rfl) (lb rfl) rfl (c12_init (s := (sNw s 23 (64 * n + j) G.2.1 0 gPat)) R1 (show rU (sNw s 23 (64 * n + j) G.2.1 0 gPat) 23 (64 * n + j) = true from Nw_s) (fun s3 G3 R3 e3 u3 f3 => ⟨_, rfl, ?_⟩))
  have e3t : efr s s3 (fun r i => r = 23 ∧ i = 64 * n + j) := fun r i hp => by
    obtain ⟨a1, a2, a3, a4, a5, a6, a7⟩ := e3 r i hp
    obtain ⟨b1, b2, b3, b4, b5, b6, b7⟩ := (efr.N (efr.rf s (fun r i => r = 23 ∧ i = 64 * n + j)) ⟨rfl, rfl⟩ : efr s (sNw s 23 (64 * n + j) G.2.1 0 gPat) (fun r i => r = 23 ∧ i = 64 * n + j)) r i hp
    exact ⟨a1.trans b1, a2.trans b2, a3.trans b3, a4.trans b4, a5.trans b5, a6.trans b6, a7.trans b7⟩
  have u22 : rU s3 22 j = true := by rw [(e3t 22 j (by omega)).2.1]; exact hu2
  have e22 : rA s3 22 j = rA s 22 j := (e3t 22 j (by omega)).1
  have L3 : rLS (E 6) s3 22 j n (fun p => (23, 64 * p + j)) := rLS_efr hl e3t (by omega) (fun a => by omega)
  obtain ⟨⟨h6, c6, hO6⟩, _⟩ := id hE
  show mx_W _ _ _ _ (.ref (rA (sNw s 23 (64 * n + j) G.2.1 0 gPat) 23 (64 * n + j)) :: .ref (rA s 22 j) :: []) _ _
  rw [← u3.2, ← e22]
  refine r_inv1 (r := 22) (i := j) dX5_setByte_76 mt_5_67 R3 rfl u22 rfl (lb rfl) (lb rfl) (lb rfl) (lb rfl) rfl (c_ladd (s := s3) (r := 22) (i := j) R3 rfl u22 L3 hn (e := (23, 64 * n + j)) u3.1 (Or.inr (Or.inr (Or.inr rfl))) h6 hO6 (fun s4 G4 R4 l4 r4 => ⟨_, rfl, ?_⟩))
  refine w_pop dX5_setByte_79 rfl ?_
  refine w_ret dX5_setByte_80 rfl ?_
  exact q s3 s4 G3 G4 R3 e3t u3.1 f3.1 f3.2 l4 r4 (rx_w R4 (by omega) (by show z2 + 2 + _ ≤ z2 + 1000; omega))
theorem c5_setByte (R : rx_R b0 O z1 z2 s G) (hS : rx_in s) {τ : tx_T} (hT : CT E s τ) (hV : TV τ) (hE : WE b0 O E) {K : Nat} (hP : pz s K) (hK : K ≤ 600) {j m : Nat} {v : Int32} (hj : j < tN τ 1) (hm : m < cl (tT τ 5 j)) (q : ∀ s' G', rx_R b0 O (z1 + 2) (z2 + 1000) s' G' → gfp s s' → CT E s' (τ.1, τ.2.1, u2 τ.2.2 j m (v &&& 255)) → (∀ f, rX s' 2 0 f = rX s 2 0 f) → pz s' (K + 1) → Q (.inl none) G') : mx_W (gt_P b0 mi E) mX5_setByte 0 (mx_en 0 [.ref (rA s 20 j), .int (nI m), .int v]) [] G Q := by
  have hV0 := hV.1
  have hz := (hV.2.1 j hj).2.2.1
  have hz2 := clI hz.1
  have hus := cT_Su hT hj
  obtain ⟨sd, n, a, b1, b2, b3, b4, b5, b6, b7, b8⟩ := cT_B hT hj
  have hn1 := rLS_n b4
  have hnK : n ≤ K := by
    have := hP j (nI n) b3 b4.2.1
    rw [nI_toInt (by omega)] at this; omega
  refine w_iload_n dX5_setByte_0 rfl ?_
  refine w_sipush (v := 255) dX5_setByte_1 (by decide) ?_
  refine w_iand dX5_setByte_4 ?_
  refine w_istore_n dX5_setByte_5 (lb rfl) ?_
  refine w_iconst (v := nI 0) dX5_setByte_6 (by decide) ?_
  refine w_istore dX5_setByte_7 (lb rfl) ?_
  refine c5_setByte_l (y := tY τ j) R hus b2 b3 b4 (fun p hp => ⟨(b5 p hp).1, by have := (b5 p hp).2.1; omega, (b5 p hp).2.2.1, (b5 p hp).2.2.2⟩) (by omega) (fun p G' hp e R' => ?_) (fun h L' m0 m1 m3 => ?_) _ 0 _ (Nat.lt_succ_self _) (Nat.zero_le _) (fun p hp => absurd hp (Nat.not_lt_zero _)) rfl rfl rfl rfl
  · exact q _ _ (rx_w R' (by omega) (by omega)) (gfr.X (gfr.rf s)).p (CT_pv hT hV hj ⟨b1, b2, b3, b4, b5, b6, b7, b8⟩ hp e) (fun f => sX_p (by omega)) (pz_mono (pz_X hP) (by omega))
  · exact c5_setNew R hE hus b2 b3 b4 (by omega) (b6 n (Nat.le_refl _)) m0 m1 m3 (fun s3 s4 G3 G4 R3 e3 u3 f0 f1 l4 r4 R4 => q s4 G4 R4 (gfp_pn (b6 n (Nat.le_refl _)) e3 l4) (CT_pn hT hV hS R3 hj hm ⟨b1, b2, b3, b4, b5, b6, b7, b8⟩ h e3 u3 f0 f1 l4 r4) (fun f => (l4.2.2.2.1 2 0 f (by omega) (by omega)).trans (congrFun (e3 2 0 (by omega)).2.2.2.1 f)) (pz_pn hP hnK hK e3 l4 r4.2.1))
theorem c9_patch (R : rx_R b0 O z1 z2 s G) (hS : rx_in s) {τ : tx_T} (hT : CT E s τ) (hV : TV τ) (hE : WE b0 O E) {K : Nat} (hP : pz s K) (hK : K ≤ 600) {x i v : Int32} (qn : ∀ r9, f_patch τ x i v = (r9, none) → Q (.inl (some (.int r9))) G) (qs : ∀ r9 τ', f_patch τ x i v = (r9, some τ') → ∀ s' G', rx_R b0 O (z1 + 2) (z2 + 1000) s' G' → gfp s s' → CT E s' τ' → GT s' → pz s' (K + 1) → Q (.inl (some (.int r9))) G') : mx_W (gt_P b0 mi E) mX9_patch 0 (mx_en 0 [.ref (rA s 2 0), .int x, .int i, .int v]) [] G Q := by
  have hV0 := hV.1
  refine w_aload_n dX9_patch_0 rfl ?_
  refine r_getr  dX9_patch_1 ft_8_10 R rfl (hS _ _ rfl) rfl (lb rfl) (cT_s hT 2 0 rfl) ?_
  refine w_iload_n dX9_patch_4 rfl ?_
  refine r_inv1  dX9_patch_5 mt_8_88 R rfl (hS _ _ rfl) rfl (lb rfl) (lb rfl) (lb rfl) (lb rfl) rfl (c7_sectionAt R hS hT hV (fun e5 => ⟨_, rfl, ?_⟩) (fun j hj e5 => ⟨_, rfl, ?_⟩))
  ·
    refine w_astoreN dX9_patch_8 (lb rfl) ?_
    refine w_aloadN dX9_patch_10 rfl ?_
    refine r_nullT (t := 24) dX9_patch_12 rfl ?_
    refine w_bipush (v := (-101)) dX9_patch_24 (by decide) ?_
    exact w_iret dX9_patch_26 rfl rfl (qn _ (by rw [f_patch, if_pos (fun e => e5 ⟨e.1, e.2.1⟩)]))
  ·
    subst e5
    have hj2 : j < 2 ^ 31 := by omega
    have ej : cl (nI j) = j := nI_clamp hj2
    have hz := (hV.2.1 j hj).2.2.1
    have hz2 := clI hz.1
    have hk3 := (hV.2.1 j hj).2.1
    have n3 : (nI 3).toInt = 3 := rfl
    refine w_astore dX9_patch_8 (lb rfl) ?_
    refine w_aload dX9_patch_10 rfl ?_
    refine r_nullF (t := 24) dX9_patch_12 rfl ?_
    refine w_aload dX9_patch_15 rfl ?_
    refine r_geti  dX9_patch_17 ft_8_92 R rfl (cT_Su hT hj) rfl (lb rfl) (cT_S hT hj 2 rfl) ?_
    refine w_iconst (v := nI 3) dX9_patch_20 (by decide) ?_
    refine r_icmp_nei (t := 27) dX9_patch_21 rfl (fun h21 => ?_) (fun h21 => ?_)
    ·
      refine w_iload_n dX9_patch_27 rfl ?_
      refine w_iconst (v := 0) dX9_patch_28 (by decide) ?_
      refine w_aload dX9_patch_29 rfl ?_
      refine r_geti  dX9_patch_31 ft_8_95 R rfl (cT_Su hT hj) rfl (lb rfl) (cT_S hT hj 3 rfl) ?_
      refine w_iconst (v := 1) dX9_patch_34 (by decide) ?_
      refine w_isub dX9_patch_35 ?_
      refine r_stat3 dX9_patch_36 mt_8_58 (lb rfl) (lb rfl) (lb rfl) (lb rfl) rfl (c9_inI (b := 0) (by decide) (t_sub hz.1 (by decide)) (fun i36a i36b => ⟨_, rfl, ?_⟩) (fun i36 => ⟨_, rfl, ?_⟩))
      ·
        refine w_if_ne (t := 45) dX9_patch_39 rfl (fun _ => ?_) (fun h => absurd (by decide) h)
        have o1 : (1 : Int32).toInt = 1 := rfl
        obtain ⟨m, hm, rfl⟩ := nI_ofI i36a
        rw [nI_toInt hm] at i36a i36b
        have hmz : m < cl (tT τ 5 j) := by omega
        have em : cl (nI m) = m := nI_clamp hm
        refine w_aload_n dX9_patch_45 rfl ?_
        refine r_inv0  dX9_patch_46 mt_8_51 R rfl (hS _ _ rfl) rfl (lb rfl) (lb rfl) (lb rfl) (lb rfl) rfl (c9_forget R hS (fun _ Rt => ⟨_, rfl, ?_⟩))
        refine w_aload dX9_patch_49 rfl ?_
        refine w_iload_n dX9_patch_51 rfl ?_
        refine r_inv1  dX9_patch_52 mt_8_97 Rt rfl (cT_Su hT hj) rfl (lb rfl) (lb rfl) (lb rfl) (lb rfl) rfl (c5_byteAt Rt hS (CT_told hT hS) hV hj hmz ⟨_, rfl, ?_⟩)
        refine w_istore dX9_patch_55 (lb rfl) ?_
        refine w_aload dX9_patch_57 rfl ?_
        refine w_iload_n dX9_patch_59 rfl ?_
        refine w_iload_n dX9_patch_60 rfl ?_
        refine r_inv2  dX9_patch_61 mt_8_101 Rt rfl (cT_Su hT hj) rfl (lb rfl) (lb rfl) (lb rfl) (lb rfl) rfl (c5_setByte Rt hS (CT_told hT hS) hV hE (pz_told hP) hK hj hmz (fun s2 G2 R2 f2 T2 g2 p2 => ⟨_, rfl, ?_⟩))
        refine w_iload dX9_patch_64 rfl ?_
        refine w_iret dX9_patch_66 rfl rfl ?_
        exact qs _ _ (by rw [f_patch, if_neg (Classical.not_not.mpr ⟨by rw [nI_toInt hj2]; omega, by rw [nI_toInt hj2]; omega, by rw [ej]; omega⟩), if_neg (Classical.not_not.mpr ⟨by rw [nI_toInt hm]; omega, by rw [nI_toInt hm, ej]; omega⟩), ej, em]) _ _ R2 ((gfr.told s).p.tr f2) T2 ⟨g2 5, g2 6, g2 7⟩ p2
      ·
        refine w_if_ne (t := 45) dX9_patch_39 rfl (fun h => absurd h (by decide)) (fun _ => ?_)
        refine w_bipush (v := (-102)) dX9_patch_42 (by decide) ?_
        refine w_iret dX9_patch_44 rfl rfl ?_
        have o1 : (1 : Int32).toInt = 1 := rfl
        exact qn _ (by rw [f_patch, if_neg (Classical.not_not.mpr ⟨by rw [nI_toInt hj2]; omega, by rw [nI_toInt hj2]; omega, by rw [ej]; omega⟩), if_pos (fun e => by rw [ej] at e; exact i36 e.1 (by omega))])
    ·
      refine w_bipush (v := (-101)) dX9_patch_24 (by decide) ?_
      exact w_iret dX9_patch_26 rfl rfl (qn _ (by rw [f_patch, if_pos (fun e => by rw [ej] at e; omega)]))
end
