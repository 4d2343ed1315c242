/-! ===== Bytes of the class ===== -/
theorem b255 (x : Int32) : x.toInt8.toInt32 &&& 255 = x &&& 255 := by
  apply Int32.toBitVec_inj.mp
  have h : ∀ i : Nat, i < 32 → (255#32).getLsbD i = decide (i < 8) := by decide
  apply BitVec.eq_of_getLsbD_eq
  intro i hi
  rw [Int32.toBitVec_and, Int32.toBitVec_and, BitVec.getLsbD_and, BitVec.getLsbD_and]
  have e : (255 : Int32).toBitVec = 255#32 := rfl
  rw [e, h i hi]
  by_cases h8 : i < 8
  · have : x.toInt8.toInt32.toBitVec.getLsbD i = x.toBitVec.getLsbD i := by
      rw [Int8.toBitVec_toInt32, Int32.toBitVec_toInt8, BitVec.getLsbD_signExtend, BitVec.getLsbD_signExtend]
      simp [h8, hi]
    rw [this]
  · simp [h8]
theorem nar_nar (x : Int32) : x.toInt8.toInt32.toInt8.toInt32 = x.toInt8.toInt32 := by
  rw [Int8.toInt8_toInt32]
theorem rx_c_b {s : rx_S} {j a n : Nat} {g : Nat → Value} : rx_c (sNw s 23 j a n g) 23 j = .inl (2, n, .inl (fun _ => 0)) := by
  show Sum.inl (2, rY (sNw s 23 j a n g) 23 j, Sum.inl (rI (sNw s 23 j a n g) 23 j)) = _
  have e : rI (sNw s 23 j a n g) 23 j = fun _ => 0 := by funext k; rw [Nw_I, if_pos ⟨rfl, rfl⟩]
  rw [Nw_Y, if_pos ⟨rfl, rfl⟩, e]
theorem rx_c_o {s : rx_S} {r i a m c n : Nat} {g : Nat → Value} (hk : rx_k r = some (c, n)) : rx_c (sNw s r i a m g) r i = .inr (c, (List.range n).map g) := by
  simp only [rx_c, hk]
  congr 2
  apply List.map_congr_left
  intro f _
  rw [Nw_X, if_pos ⟨rfl, rfl⟩]; rfl
/-- the first n bytes by the seed -/
def sB (s : rx_S) (j n : Nat) (sd : Int32) : rx_S := (s.1, s.2.1, s.2.2.1, (fun a b c => if a = 23 ∧ b = j ∧ c < n then (sd + nI c).toInt8.toInt32 else rI s a b c), s.2.2.2.2)
theorem sB_0 (s : rx_S) (j : Nat) (sd : Int32) : sB s j 0 sd = s := by
  have : (fun a b c => if a = 23 ∧ b = j ∧ c < 0 then (sd + nI c).toInt8.toInt32 else rI s a b c) = rI s := by funext a b c; rw [if_neg (by omega)]
  unfold sB; rw [this]
theorem sB_s (s : rx_S) (j n : Nat) (sd : Int32) : sI (sB s j n sd) 23 j n (sd + nI n).toInt8.toInt32 = sB s j (n + 1) sd := by
  have : w3 (fun a b c => if a = 23 ∧ b = j ∧ c < n then (sd + nI c).toInt8.toInt32 else rI s a b c) 23 j n (sd + nI n).toInt8.toInt32 = (fun a b c => if a = 23 ∧ b = j ∧ c < n + 1 then (sd + nI c).toInt8.toInt32 else rI s a b c) := by
    funext a b c
    rw [w3_if]
    by_cases h : a = 23 ∧ b = j ∧ c = n
    · rw [if_pos h, if_pos (by omega), h.2.2]
    · rw [if_neg h]
      by_cases h2 : a = 23 ∧ b = j ∧ c < n
      · rw [if_pos h2, if_pos (by omega)]
      · rw [if_neg h2, if_neg (by omega)]
  unfold sI sB; exact congrArg (fun q => (s.1, s.2.1, s.2.2.1, q, s.2.2.2.2)) this
theorem CT_patch {E : Nat → Nat} {s : rx_S} {τ : tx_T} (h : CT E s τ) {j m : Nat} (hj : j < tN τ 1) (hp : rX s 20 j 7 = .inr (23, j)) {u v : Int32} (hu : u &&& 255 = v) : CT E (sI s 23 j m u) (τ.1, τ.2.1, u2 τ.2.2 j m v) := by
  obtain ⟨h1, h2, h3, h4, h5, h6, h7, h8, h9, h10, h11, h12, h13⟩ := h
  refine ⟨h1, h2, h3, h4, fun i hi => ?_, h6, h7, h8, h9, h10, h11, h12, h13⟩
  obtain ⟨g1, g2, g3, sd, g4, g5⟩ := h5 i hi
  refine ⟨g1, g2, g3, sd, g4, ?_⟩
  by_cases e : i = j
  · subst e
    rcases g5 with ⟨a1, _⟩ | ⟨a1, a2, a3, a4⟩
    · have a1' : rX s 20 i 7 = .inl .null := a1
      rw [hp] at a1'; cases a1'
    · refine Or.inr ⟨a1, a2, a3, fun k hk => ?_⟩
      show w3 s.2.2.2.1 23 i m u 23 i k &&& 255 = u2 τ.2.2 i m v i k
      rw [w3_if, u2_if]
      by_cases ek : k = m
      · rw [if_pos ⟨rfl, rfl, ek⟩, if_pos ⟨rfl, ek⟩]; exact hu
      · rw [if_neg (fun q => ek q.2.2), if_neg (fun q => ek q.2)]; exact a4 k hk
  · have ey : ∀ k, u2 τ.2.2 j m v i k = tY τ i k := fun k => by rw [u2_if, if_neg (fun q => e q.1)]
    rcases g5 with ⟨a1, a2, a3⟩ | ⟨a1, a2, a3, a4⟩
    · exact Or.inl ⟨a1, a2, fun k hk => (ey k).trans (a3 k hk)⟩
    · refine Or.inr ⟨a1, a2, a3, fun k hk => ?_⟩
      show w3 s.2.2.2.1 23 j m u 23 i k &&& 255 = u2 τ.2.2 j m v i k
      rw [w3_if, if_neg (fun q => e q.2.1), ey]; exact a4 k hk
theorem CT_seed {E : Nat → Nat} {s : rx_S} {τ : tx_T} (h : CT E s τ) {j a : Nat} {sd : Int32} (hj : j < tN τ 1) (hp : rX s 20 j 7 = .inl .null) (hsd : rX s 20 j 5 = .inl (.int sd)) : CT E (sX (sB (sNw s 23 j a (cl (tT τ 5 j)) (fun _ => .null)) j (cl (tT τ 5 j)) sd) 20 j 7 (.inr (23, j))) τ := by
  obtain ⟨h1, h2, h3, h4, h5, h6, h7, h8, h9, h10, h11, h12, n13, f13, hn13, h13⟩ := h
  have eX : ∀ r i f, rX (sNw s 23 j a (cl (tT τ 5 j)) (fun _ => .null)) r i f = if r = 23 ∧ i = j then .inl .null else rX s r i f := fun r i f => Nw_X r i f
  have eY : ∀ r i, rY (sNw s 23 j a (cl (tT τ 5 j)) (fun _ => .null)) r i = if r = 23 ∧ i = j then cl (tT τ 5 j) else rY s r i := fun r i => Nw_Y r i
  have eU : ∀ r i, rU (sNw s 23 j a (cl (tT τ 5 j)) (fun _ => .null)) r i = if r = 23 ∧ i = j then true else rU s r i := fun r i => Nw_U r i
  refine ⟨fun r f q e => (sX_p (fun x => by rw [x.1] at e; cases e)).trans ((eX r 0 f).trans ((if_neg (fun x => by rw [x.1] at e; cases e)).trans (h1 r f q e))), h2, ⟨rLS_X (s := sB (sNw s 23 j a (cl (tT τ 5 j)) (fun _ => .null)) j (cl (tT τ 5 j)) sd) h3.1 (by omega), rLS_X (s := sB (sNw s 23 j a (cl (tT τ 5 j)) (fun _ => .null)) j (cl (tT τ 5 j)) sd) h3.2.1 (by omega), rLS_X (s := sB (sNw s 23 j a (cl (tT τ 5 j)) (fun _ => .null)) j (cl (tT τ 5 j)) sd) h3.2.2.1 (by omega), fun i hi => rLS_X (s := sB (sNw s 23 j a (cl (tT τ 5 j)) (fun _ => .null)) j (cl (tT τ 5 j)) sd) (h3.2.2.2 i hi) (by omega)⟩, OWN_X (s := sB (sNw s 23 j a (cl (tT τ 5 j)) (fun _ => .null)) j (cl (tT τ 5 j)) sd) ?_ (by omega) (by omega), fun i hi => ?_, h6, h7, h8, h9, fun i hi => ⟨(h10 i hi).1, (h10 i hi).2.1, ?_⟩, h11, h12, n13, f13, hn13, rLS_X (s := sB (sNw s 23 j a (cl (tT τ 5 j)) (fun _ => .null)) j (cl (tT τ 5 j)) sd) h13 (by omega)⟩
  · intro r i r' i' b e e' u u' x x'
    have u1 : rU s r i = true := by rw [← u]; exact ((eU r i).trans (if_neg (by omega))).symm
    have u2' : rU s r' i' = true := by rw [← u']; exact ((eU r' i').trans (if_neg (by omega))).symm
    have x1 : rX s r i 1 = .inr (9, b) := by rw [← x]; exact ((eX r i 1).trans (if_neg (by omega))).symm
    have x2 : rX s r' i' 1 = .inr (9, b) := by rw [← x']; exact ((eX r' i' 1).trans (if_neg (by omega))).symm
    exact h4 r i r' i' b e e' u1 u2' x1 x2
  · obtain ⟨g1, g2, g3, sd2, g4, g5⟩ := h5 i hi
    refine ⟨g1, g2, fun f e => ?_, sd2, ?_, ?_⟩
    · refine (sX_p (fun x => by rw [x.2.2] at e; cases e)).trans ?_
      exact g3 f e
    · exact (sX_p (by omega)).trans g4
    · by_cases e : i = j
      · subst e
        have es : sd2 = sd := by
          have g4' : rX s 20 i 5 = .inl (.int sd2) := g4
          rw [hsd] at g4'; injection g4' with q; injection q with q; exact q.symm
        refine Or.inr ⟨sX_s, (eU 23 i).trans (if_pos ⟨rfl, rfl⟩), (eY 23 i).trans (if_pos ⟨rfl, rfl⟩), fun k hk => ?_⟩
        show (if 23 = 23 ∧ i = i ∧ k < cl (tT τ 5 i) then (sd + nI k).toInt8.toInt32 else _) &&& 255 = _
        rw [if_pos ⟨rfl, rfl, hk⟩, b255]
        rcases g5 with ⟨a1, a2, a3⟩ | ⟨a1, a2, a3, a4⟩
        · rw [a3 k hk, es]
        · have a1' : rX s 20 i 7 = .inr (23, i) := a1
          rw [hp] at a1'; cases a1'
      · rcases g5 with ⟨a1, a2, a3⟩ | ⟨a1, a2, a3, a4⟩
        · exact Or.inl ⟨(sX_p (by omega)).trans a1, (eU 23 i).trans ((if_neg (by omega)).trans a2), a3⟩
        · refine Or.inr ⟨(sX_p (by omega)).trans a1, (eU 23 i).trans ((if_neg (by omega)).trans a2), (eY 23 i).trans ((if_neg (by omega)).trans a3), fun k hk => ?_⟩
          show (if 23 = 23 ∧ i = j ∧ k < cl (tT τ 5 j) then (sd + nI k).toInt8.toInt32 else rI (sNw s 23 j a (cl (tT τ 5 j)) (fun _ => .null)) 23 i k) &&& 255 = _
          rw [if_neg (fun q => e q.2.1), Nw_I, if_neg (fun q => e q.2)]; exact a4 k hk
  · exact (eU 23 i).trans ((if_neg (by omega)).trans (h10 i hi).2.2)
/-- how many sections have bytes of their own -/
def ptN (s : rx_S) (τ : tx_T) : Nat := cnt (fun i => rU s 23 i) (tN τ 1)
section
variable {b0 mi z1 z2 : Nat} {E : Nat → Nat} {O : Nat → Option mx_C} {s : rx_S} {G : mx_H} {Q : mx_O → mx_H → Prop}
theorem c5_byteAt (R : rx_R b0 O z1 z2 s G) (hS : rx_in s) {τ : tx_T} (hT : CT E s τ) (hV : TV τ) {j m : Nat} (hj : j < tN τ 1) (hm : m < cl (tT τ 5 j)) (q : Q (.inl (some (.int (tY τ j m)))) G) : mx_W (gt_P b0 mi E) mX5_byteAt 0 (mx_en 0 [.ref (rA s 20 j), .int (nI m)]) [] G Q := by
  have hV0 := hV.1
  obtain ⟨sd, h5, hb⟩ := cT_B hT hj
  have hz := (hV.2.1 j hj).2.2.1
  have hz2 := clI hz.1
  have hus := cT_Su hT hj
  rcases hb with ⟨h7, hu3, hy⟩ | ⟨h7, hu3, hY, hy⟩
  ·
    refine w_aload_n dX5_byteAt_0 rfl ?_
    refine r_geti  dX5_byteAt_1 ft_5_46 R rfl hus rfl (lb rfl) h7 ?_
    refine r_nullT (t := 31) dX5_byteAt_4 rfl ?_
    refine w_aload_n dX5_byteAt_31 rfl ?_
    refine r_geti  dX5_byteAt_32 ft_5_43 R rfl hus rfl (lb rfl) h5 ?_
    refine w_iload_n dX5_byteAt_35 rfl ?_
    refine w_iadd dX5_byteAt_36 ?_
    refine w_sipush (v := 255) dX5_byteAt_37 (by decide) ?_
    refine w_iand dX5_byteAt_40 ?_
    refine w_iret dX5_byteAt_41 rfl rfl ?_
    rw [hy m hm] at q; exact q
  ·
    refine w_aload_n dX5_byteAt_0 rfl ?_
    refine r_getr  dX5_byteAt_1 ft_5_46 R rfl hus rfl (lb rfl) h7 ?_
    refine r_nullF (t := 31) dX5_byteAt_4 rfl ?_
    refine w_iload_n dX5_byteAt_7 rfl ?_
    refine r_if_lti (t := 31) dX5_byteAt_8 rfl (fun h => by rw [nI_toInt (by omega)] at h; omega) (fun h8 => ?_)
    refine w_iload_n dX5_byteAt_11 rfl ?_
    refine w_aload_n dX5_byteAt_12 rfl ?_
    refine r_getr  dX5_byteAt_13 ft_5_46 R rfl hus rfl (lb rfl) h7 ?_
    refine r_alen  dX5_byteAt_16 R rfl hu3 rfl rfl (lb rfl) ?_
    refine r_icmp_gen (t := 31) dX5_byteAt_17 rfl (by omega) (by omega) (fun h => by omega) (fun h17 => ?_)
    refine w_aload_n dX5_byteAt_20 rfl ?_
    refine r_getr  dX5_byteAt_21 ft_5_46 R rfl hus rfl (lb rfl) h7 ?_
    refine w_iload_n dX5_byteAt_24 rfl ?_
    refine r_bald  dX5_byteAt_25 R rfl hu3 rfl rfl (by show m < rY s 23 j; omega) (by show rY s 23 j < 2 ^ 31; omega) rfl ?_
    refine w_sipush (v := 255) dX5_byteAt_26 (by decide) ?_
    refine w_iand dX5_byteAt_29 ?_
    refine w_iret dX5_byteAt_30 rfl rfl ?_
    rw [hy m hm]; exact q
theorem c5_seeded_l {s0 : rx_S} {j n : Nat} {sd : Int32} (hus : rU s0 20 j = true) (hu3 : rU s0 23 j = true) (hY : rY s0 23 j = n) (hn : n ≤ 20000) (h5 : rX s0 20 j 5 = .inl (.int sd))  : ∀ (d : Nat) (k : Nat) (L : mx_L) (s : rx_S) (G : mx_H), n - k < d → rx_R b0 O z1 z2 s G → k ≤ n → s = sB s0 j k sd → L 0 = some (.ref (rA s0 20 j)) → L 1 = some (.ref (rA s0 23 j)) → L 2 = some (.int (nI k)) → (∀ G', rx_R b0 O z1 z2 (sB s0 j n sd) G' → Q (.inl (some (.ref (rA s0 23 j)))) G') → mx_W (gt_P b0 mi E) mX5_seededBytes 20 L [] G Q := by
  intro d
  induction d with
  | zero => intro k L s G hd; exact absurd hd (Nat.not_lt_zero _)
  | succ d ih =>
    intro k L s G hd R hk hs h0 h1 h2 kx
    subst hs
    have hY2 : rY (sB s0 j k sd) 23 j = n := hY
    refine w_iload_n dX5_seededBytes_20 h2 ?_
    refine w_aload_n dX5_seededBytes_21 h1 ?_
    refine r_alen  dX5_seededBytes_22 R rfl hu3 rfl rfl (lb rfl) ?_
    refine r_icmp_gen (t := 42) dX5_seededBytes_23 rfl (by omega) (by omega) (fun h23 => ?_) (fun h23 => ?_)
    ·
      refine w_aload_n dX5_seededBytes_42 h1 ?_
      refine w_aret (x := some _) dX5_seededBytes_43 rfl (by first | exact Or.inl ⟨_, rfl⟩ | exact Or.inr ⟨_, rfl⟩) ?_
      obtain rfl : k = n := by omega
      exact kx _ R
    ·
      refine w_aload_n dX5_seededBytes_26 h1 ?_
      refine w_iload_n dX5_seededBytes_27 h2 ?_
      refine w_aload_n dX5_seededBytes_28 h0 ?_
      refine r_geti  dX5_seededBytes_29 ft_5_43 R rfl hus rfl (lb rfl) h5 ?_
      refine w_iload_n dX5_seededBytes_32 h2 ?_
      refine w_iadd dX5_seededBytes_33 ?_
      refine w_i2b dX5_seededBytes_34 ?_
      refine r_bast  dX5_seededBytes_35 R rfl hu3 rfl rfl (by show k < rY s0 23 j; omega) (by show rY s0 23 j < 2 ^ 31; omega) (show vp_nar .byte _ = _ from nar_nar _) (fun G1 R1 => ?_)
      refine w_iinc dX5_seededBytes_36 h2 (nI_1 _) (lb rfl) ?_
      refine w_goto (t := 20) dX5_seededBytes_39 rfl ?_
      exact ih (k + 1) _ _ _ (by omega) R1 (by omega) (sB_s _ _ _ _) h0 h1 rfl kx
theorem c5_seeded (R : rx_R b0 O z1 z2 s G) (hS : rx_in s) {τ : tx_T} (hT : CT E s τ) (hV : TV τ) {j : Nat} (hj : j < tN τ 1) {sd : Int32} (h5 : rX s 20 j 5 = .inl (.int sd)) (hu3 : rU s 23 j = false) (q : ∀ G', rx_R b0 O (z1 + 1) (z2 + cl (tT τ 5 j)) (sB (sNw s 23 j G.2.1 (cl (tT τ 5 j)) (fun _ => .null)) j (cl (tT τ 5 j)) sd) G' → Q (.inl (some (.ref (rA (sNw s 23 j G.2.1 (cl (tT τ 5 j)) (fun _ => .null)) 23 j)))) G') : mx_W (gt_P b0 mi E) mX5_seededBytes 0 (mx_en 0 [.ref (rA s 20 j)]) [] G Q := by
  have hV0 := hV.1
  have hz := (hV.2.1 j hj).2.2.1
  have hz2 := clI hz.1
  have hus := cT_Su hT hj
  refine w_aload_n dX5_seededBytes_0 rfl ?_
  refine r_geti  dX5_seededBytes_1 ft_5_37 R rfl (cT_Su hT hj) rfl (lb rfl) (cT_S hT hj 3 rfl) ?_
  refine r_if_gei (t := 11) dX5_seededBytes_4 rfl (fun h4 => ?_) (fun h => by omega)
  refine w_aload_n dX5_seededBytes_11 rfl ?_
  refine r_geti  dX5_seededBytes_12 ft_5_37 R rfl (cT_Su hT hj) rfl (lb rfl) (cT_S hT hj 3 rfl) ?_
  obtain ⟨z, hz3, hz4⟩ := nI_ofI hz.1
  have ez : cl (tT τ 5 j) = z := by rw [hz4]; exact nI_clamp hz3
  rw [ez] at q
  rw [hz4]
  refine r_newb 23 j dX5_seededBytes_15 (by omega) R (lb9 rfl) hu3 rx_c_b (fun G1 R1 => ?_)
  refine w_astore_n dX5_seededBytes_17 (lb rfl) ?_
  refine w_iconst (v := nI 0) dX5_seededBytes_18 (by decide) ?_
  refine w_istore_n dX5_seededBytes_19 (lb rfl) ?_
  exact c5_seeded_l (show rU (sNw s 23 j G.2.1 z (fun _ => .null)) 20 j = true from Nw_mono hus) (show rU (sNw s 23 j G.2.1 z (fun _ => .null)) 23 j = true from Nw_s) (show rY (sNw s 23 j G.2.1 z (fun _ => .null)) 23 j = z from (Nw_Y 23 j).trans (if_pos ⟨rfl, rfl⟩)) (by omega) h5 (z + 1) 0 _ _ _ (by omega) R1 (Nat.zero_le _) (sB_0 _ _ _).symm rfl rfl rfl q
theorem c5_setByte (R : rx_R b0 O z1 z2 s G) (hS : rx_in s) {τ : tx_T} (hT : CT E s τ) (hV : TV τ) {j m : Nat} {v : Int32} (hj : j < tN τ 1) (hm : m < cl (tT τ 5 j)) (q : ∀ d s' G', rx_R b0 O (z1 + d) (z2 + 20000 * d) s' G' → gfr s s' → CT E s' (τ.1, τ.2.1, u2 τ.2.2 j m (v &&& 255)) → (∀ f, rX s' 2 0 f = rX s 2 0 f) → ptN s' (τ.1, τ.2.1, u2 τ.2.2 j m (v &&& 255)) = ptN s τ + d → Q (.inl none) G') : mx_W (gt_P b0 mi E) mX5_setByte 0 (mx_en 0 [.ref (rA s 20 j), .int (nI m), .int v]) [] G Q := by
  have hV0 := hV.1
  obtain ⟨sd, h5, hb⟩ := cT_B hT hj
  have hz := (hV.2.1 j hj).2.2.1
  have hz2 := clI hz.1
  have hus := cT_Su hT hj
  rcases hb with ⟨h7, hu3, hy⟩ | ⟨h7, hu3, hY, hy⟩
  ·
    refine w_iload_n dX5_setByte_0 rfl ?_
    refine r_if_lti (t := 12) dX5_setByte_1 rfl (fun h => by rw [nI_toInt (by omega)] at h; omega) (fun h1 => ?_)
    refine w_iload_n dX5_setByte_4 rfl ?_
    refine w_aload_n dX5_setByte_5 rfl ?_
    refine r_geti  dX5_setByte_6 ft_5_37 R rfl (cT_Su hT hj) rfl (lb rfl) (cT_S hT hj 3 rfl) ?_
    refine r_icmp_lti (t := 13) dX5_setByte_9 rfl (fun h9 => ?_) (fun h => by rw [nI_toInt (by omega)] at h; omega)
    refine w_aload_n dX5_setByte_13 rfl ?_
    refine r_geti  dX5_setByte_14 ft_5_46 R rfl hus rfl (lb rfl) h7 ?_
    refine r_nnF (t := 28) dX5_setByte_17 rfl ?_
    refine w_aload_n dX5_setByte_20 rfl ?_
    refine w_aload_n dX5_setByte_21 rfl ?_
    refine r_inv0 dX5_setByte_22 mt_5_50 R rfl hus rfl (lb rfl) (lb rfl) (lb rfl) (lb rfl) rfl (c5_seeded R hS hT hV hj h5 hu3 (fun G1 R1 => ⟨_, rfl, ?_⟩))
    refine r_putr (r := 20) (i := j) (q1 := 23) (q2 := j) dX5_setByte_25 ft_5_46 R1 rfl (show rU (sNw s 23 j G.2.1 (cl (tT τ 5 j)) (fun _ => .null)) 20 j = true from Nw_mono hus) rfl (lb rfl) (fun h => by cases h) rfl rfl rfl (show rU (sNw s 23 j G.2.1 (cl (tT τ 5 j)) (fun _ => .null)) 23 j = true from Nw_s) (fun G1 R1 => ?_)
    have hT2 : CT E (sX (sB (sNw s 23 j G.2.1 (cl (tT τ 5 j)) (fun _ => .null)) j (cl (tT τ 5 j)) sd) 20 j 7 (.inr (23, j))) τ := CT_seed hT hj h7 h5
    have hu4 : rU (sX (sB (sNw s 23 j G.2.1 (cl (tT τ 5 j)) (fun _ => .null)) j (cl (tT τ 5 j)) sd) 20 j 7 (.inr (23, j))) 23 j = true := (show rU (sNw s 23 j G.2.1 (cl (tT τ 5 j)) (fun _ => .null)) 23 j = true from Nw_s)
    have hY4 : rY (sX (sB (sNw s 23 j G.2.1 (cl (tT τ 5 j)) (fun _ => .null)) j (cl (tT τ 5 j)) sd) 20 j 7 (.inr (23, j))) 23 j = cl (tT τ 5 j) := (show rY (sNw s 23 j G.2.1 (cl (tT τ 5 j)) (fun _ => .null)) 23 j = _ from (Nw_Y 23 j).trans (if_pos ⟨rfl, rfl⟩))
    have hx4 : rX (sX (sB (sNw s 23 j G.2.1 (cl (tT τ 5 j)) (fun _ => .null)) j (cl (tT τ 5 j)) sd) 20 j 7 (.inr (23, j))) 20 j 7 = .inr (23, j) := sX_s
    have hus4 : rU (sX (sB (sNw s 23 j G.2.1 (cl (tT τ 5 j)) (fun _ => .null)) j (cl (tT τ 5 j)) sd) 20 j 7 (.inr (23, j))) 20 j = true := (show rU (sNw s 23 j G.2.1 (cl (tT τ 5 j)) (fun _ => .null)) 20 j = true from Nw_mono hus)
    refine w_iload_n dX5_setByte_28 rfl ?_
    refine w_aload_n dX5_setByte_29 rfl ?_
    refine r_getr (r := 20) (i := j) dX5_setByte_30 ft_5_46 R1 rfl hus4 rfl (lb rfl) hx4 ?_
    refine r_alen (r := 23) (i := j) dX5_setByte_33 R1 rfl hu4 rfl rfl (lb rfl) ?_
    refine r_icmp_gen (t := 45) dX5_setByte_34 rfl (by omega) (by omega) (fun h => by omega) (fun h34 => ?_)
    refine w_aload_n dX5_setByte_37 rfl ?_
    refine r_getr (r := 20) (i := j) dX5_setByte_38 ft_5_46 R1 rfl hus4 rfl (lb rfl) hx4 ?_
    refine w_iload_n dX5_setByte_41 rfl ?_
    refine w_iload_n dX5_setByte_42 rfl ?_
    refine w_i2b dX5_setByte_43 ?_
    refine r_bast (r := 23) (i := j) dX5_setByte_44 R1 rfl hu4 rfl rfl (by show m < rY (sX (sB (sNw s 23 j G.2.1 (cl (tT τ 5 j)) (fun _ => .null)) j (cl (tT τ 5 j)) sd) 20 j 7 (.inr (23, j))) 23 j; omega) (by show rY (sX (sB (sNw s 23 j G.2.1 (cl (tT τ 5 j)) (fun _ => .null)) j (cl (tT τ 5 j)) sd) 20 j 7 (.inr (23, j))) 23 j < 2 ^ 31; omega) (show vp_nar .byte _ = _ from nar_nar _) (fun G2 R2 => ?_)
    refine w_ret dX5_setByte_45 rfl ?_
    refine q 1 _ _ (rx_w R2 (by omega) (by omega)) ?_ (CT_patch hT2 hj hx4 (b255 v)) (fun f => ?_) ?_
    · refine ⟨fun r i u => ⟨(show rU (sNw s 23 j G.2.1 (cl (tT τ 5 j)) (fun _ => .null)) r i = true from Nw_mono u), (show rA (sNw s 23 j G.2.1 (cl (tT τ 5 j)) (fun _ => .null)) r i = rA s r i from (Nw_A r i).trans (if_neg (fun e => by rw [e.1, e.2, hu3] at u; cases u)))⟩, fun f => rfl, ?_, ?_, ?_⟩
      · funext a b
        refine (sI_p (by omega)).trans ?_
        show (if 1 = 23 ∧ a = j ∧ b < cl (tT τ 5 j) then (sd + nI b).toInt8.toInt32 else rI s 1 a b) = rI s 1 a b
        rw [if_neg (by omega)]
      · rfl
      · rfl
    · exact (show rX (sX (sB (sNw s 23 j G.2.1 (cl (tT τ 5 j)) (fun _ => .null)) j (cl (tT τ 5 j)) sd) 20 j 7 (.inr (23, j))) 2 0 f = rX s 2 0 f from sX_p (by omega))
    · show cnt (fun i => rU (sNw s 23 j G.2.1 (cl (tT τ 5 j)) (fun _ => .null)) 23 i) (tN τ 1) = _
      exact cnt_add hj hu3 (show rU (sNw s 23 j G.2.1 (cl (tT τ 5 j)) (fun _ => .null)) 23 j = true from Nw_s) (fun k hk => (show rU (sNw s 23 j G.2.1 (cl (tT τ 5 j)) (fun _ => .null)) 23 k = rU s 23 k from (Nw_U 23 k).trans (if_neg (fun e => hk e.2))))
  ·
    refine w_iload_n dX5_setByte_0 rfl ?_
    refine r_if_lti (t := 12) dX5_setByte_1 rfl (fun h => by rw [nI_toInt (by omega)] at h; omega) (fun h1 => ?_)
    refine w_iload_n dX5_setByte_4 rfl ?_
    refine w_aload_n dX5_setByte_5 rfl ?_
    refine r_geti  dX5_setByte_6 ft_5_37 R rfl (cT_Su hT hj) rfl (lb rfl) (cT_S hT hj 3 rfl) ?_
    refine r_icmp_lti (t := 13) dX5_setByte_9 rfl (fun h9 => ?_) (fun h => by rw [nI_toInt (by omega)] at h; omega)
    refine w_aload_n dX5_setByte_13 rfl ?_
    refine r_getr  dX5_setByte_14 ft_5_46 R rfl hus rfl (lb rfl) h7 ?_
    refine r_nnT (t := 28) dX5_setByte_17 rfl ?_
    refine w_iload_n dX5_setByte_28 rfl ?_
    refine w_aload_n dX5_setByte_29 rfl ?_
    refine r_getr  dX5_setByte_30 ft_5_46 R rfl hus rfl (lb rfl) h7 ?_
    refine r_alen  dX5_setByte_33 R rfl hu3 rfl rfl (lb rfl) ?_
    refine r_icmp_gen (t := 45) dX5_setByte_34 rfl (by omega) (by omega) (fun h => by omega) (fun h34 => ?_)
    refine w_aload_n dX5_setByte_37 rfl ?_
    refine r_getr  dX5_setByte_38 ft_5_46 R rfl hus rfl (lb rfl) h7 ?_
    refine w_iload_n dX5_setByte_41 rfl ?_
    refine w_iload_n dX5_setByte_42 rfl ?_
    refine w_i2b dX5_setByte_43 ?_
    refine r_bast  dX5_setByte_44 R rfl hu3 rfl rfl (by show m < rY s 23 j; omega) (by show rY s 23 j < 2 ^ 31; omega) (show vp_nar .byte _ = _ from nar_nar _) (fun G1 R1 => ?_)
    refine w_ret dX5_setByte_45 rfl ?_
    exact q 0 _ _ R1 (gfr.rf s).I (CT_patch hT hj h7 (b255 v)) (fun f => rfl) rfl
theorem c9_patch (R : rx_R b0 O z1 z2 s G) (hS : rx_in s) {τ : tx_T} (hT : CT E s τ) (hV : TV τ) {x i v : Int32} (qn : ∀ r9, f_patch τ x i v = (r9, none) → Q (.inl (some (.int r9))) G) (qs : ∀ r9 τ', f_patch τ x i v = (r9, some τ') → ∀ d s' G', rx_R b0 O (z1 + d) (z2 + 20000 * d) s' G' → gfr s s' → CT E s' τ' → GT s' → ptN s' τ' = ptN s τ + d → Q (.inl (some (.int r9))) G') : mx_W (gt_P b0 mi E) mX9_patch 0 (mx_en 0 [.ref (rA s 2 0), .int x, .int i, .int v]) [] G Q := by
  have hV0 := hV.1
  refine w_aload_n dX9_patch_0 rfl ?_
  refine r_getr  dX9_patch_1 ft_8_10 R rfl (hS _ _ rfl) rfl (lb rfl) (cT_s hT 2 0 rfl) ?_
  refine w_iload_n dX9_patch_4 rfl ?_
  refine r_inv1 dX9_patch_5 mt_8_88 R rfl (hS _ _ rfl) rfl (lb rfl) (lb rfl) (lb rfl) (lb rfl) rfl (c7_sectionAt R hS hT hV (fun e5 => ⟨_, rfl, ?_⟩) (fun j hj e5 => ⟨_, rfl, ?_⟩))
  ·
    refine w_astoreN dX9_patch_8 (lb rfl) ?_
    refine w_aloadN dX9_patch_10 rfl ?_
    refine r_nullT (t := 24) dX9_patch_12 rfl ?_
    refine w_bipush (v := (-101)) dX9_patch_24 (by decide) ?_
    exact w_iret dX9_patch_26 rfl rfl (qn _ (by rw [f_patch, if_pos (fun e => e5 ⟨e.1, e.2.1⟩)]))
  ·
    subst e5
    have hj2 : j < 2 ^ 31 := by omega
    have ej : cl (nI j) = j := nI_clamp hj2
    have hz := (hV.2.1 j hj).2.2.1
    have hz2 := clI hz.1
    have hk3 := (hV.2.1 j hj).2.1
    have n3 : (nI 3).toInt = 3 := rfl
    refine w_astore dX9_patch_8 (lb rfl) ?_
    refine w_aload dX9_patch_10 rfl ?_
    refine r_nullF (t := 24) dX9_patch_12 rfl ?_
    refine w_aload dX9_patch_15 rfl ?_
    refine r_geti  dX9_patch_17 ft_8_92 R rfl (cT_Su hT hj) rfl (lb rfl) (cT_S hT hj 2 rfl) ?_
    refine w_iconst (v := nI 3) dX9_patch_20 (by decide) ?_
    refine r_icmp_nei (t := 27) dX9_patch_21 rfl (fun h21 => ?_) (fun h21 => ?_)
    ·
      refine w_iload_n dX9_patch_27 rfl ?_
      refine w_iconst (v := 0) dX9_patch_28 (by decide) ?_
      refine w_aload dX9_patch_29 rfl ?_
      refine r_geti  dX9_patch_31 ft_8_95 R rfl (cT_Su hT hj) rfl (lb rfl) (cT_S hT hj 3 rfl) ?_
      refine w_iconst (v := 1) dX9_patch_34 (by decide) ?_
      refine w_isub dX9_patch_35 ?_
      refine r_stat3 dX9_patch_36 mt_8_58 (lb rfl) (lb rfl) (lb rfl) (lb rfl) rfl (c9_inI (b := 0) (by decide) (t_sub hz.1 (by decide)) (fun i36a i36b => ⟨_, rfl, ?_⟩) (fun i36 => ⟨_, rfl, ?_⟩))
      ·
        refine w_if_ne (t := 45) dX9_patch_39 rfl (fun _ => ?_) (fun h => absurd (by decide) h)
        have o1 : (1 : Int32).toInt = 1 := rfl
        obtain ⟨m, hm, rfl⟩ := nI_ofI i36a
        rw [nI_toInt hm] at i36a i36b
        have hmz : m < cl (tT τ 5 j) := by omega
        have em : cl (nI m) = m := nI_clamp hm
        refine w_aload_n dX9_patch_45 rfl ?_
        refine r_inv0 dX9_patch_46 mt_8_51 R rfl (hS _ _ rfl) rfl (lb rfl) (lb rfl) (lb rfl) (lb rfl) rfl (c9_forget R hS (fun _ Rt => ⟨_, rfl, ?_⟩))
        refine w_aload dX9_patch_49 rfl ?_
        refine w_iload_n dX9_patch_51 rfl ?_
        refine r_inv1 dX9_patch_52 mt_8_97 Rt rfl (cT_Su hT hj) rfl (lb rfl) (lb rfl) (lb rfl) (lb rfl) rfl (c5_byteAt Rt hS (CT_told hT hS) hV hj hmz ⟨_, rfl, ?_⟩)
        refine w_istore dX9_patch_55 (lb rfl) ?_
        refine w_aload dX9_patch_57 rfl ?_
        refine w_iload_n dX9_patch_59 rfl ?_
        refine w_iload_n dX9_patch_60 rfl ?_
        refine r_inv2 dX9_patch_61 mt_8_101 Rt rfl (cT_Su hT hj) rfl (lb rfl) (lb rfl) (lb rfl) (lb rfl) rfl (c5_setByte Rt hS (CT_told hT hS) hV hj hmz (fun d s2 G2 R2 f2 T2 g2 p2 => ⟨_, rfl, ?_⟩))
        refine w_iload dX9_patch_64 rfl ?_
        refine w_iret dX9_patch_66 rfl rfl ?_
        exact qs _ _ (by rw [f_patch, if_neg (Classical.not_not.mpr ⟨by rw [nI_toInt hj2]; omega, by rw [nI_toInt hj2]; omega, by rw [ej]; omega⟩), if_neg (Classical.not_not.mpr ⟨by rw [nI_toInt hm]; omega, by rw [nI_toInt hm, ej]; omega⟩), ej, em]) _ _ _ R2 ((gfr.told s).tr f2) T2 ⟨g2 5, g2 6, g2 7⟩ p2
      ·
        refine w_if_ne (t := 45) dX9_patch_39 rfl (fun h => absurd h (by decide)) (fun _ => ?_)
        refine w_bipush (v := (-102)) dX9_patch_42 (by decide) ?_
        refine w_iret dX9_patch_44 rfl rfl ?_
        have o1 : (1 : Int32).toInt = 1 := rfl
        exact qn _ (by rw [f_patch, if_neg (Classical.not_not.mpr ⟨by rw [nI_toInt hj2]; omega, by rw [nI_toInt hj2]; omega, by rw [ej]; omega⟩), if_pos (fun e => by rw [ej] at e; exact i36 e.1 (by omega))])
    ·
      refine w_bipush (v := (-101)) dX9_patch_24 (by decide) ?_
      exact w_iret dX9_patch_26 rfl rfl (qn _ (by rw [f_patch, if_pos (fun e => by rw [ej] at e; omega)]))
end
