/-- the five types: width, whether relative, least, most -/
def tyW : Nat → Int32
  | 0 => 4
  | 1 => 2
  | 2 => 4
  | 3 => 2
  | _ => 1
def tyR : Nat → Int32
  | 2 => 1
  | 3 => 1
  | _ => 0
def tyL : Nat → Int64
  | 0 => 0
  | 1 => 0
  | 2 => -2147483648
  | 3 => -32768
  | _ => -128
def tyM : Nat → Int64
  | 0 => 4294967295
  | 1 => 65535
  | 2 => 2147483647
  | 3 => 32767
  | _ => 255
theorem ev_at {E : Nat → Nat} (hE : ∀ i j, i < 5 → j < 5 → E i = E j → i = j) {t : Nat} (ht : t < 5) : (List.range 5).find? (fun k => Nat.beq (E k) (E t)) = some t := by
  have nb : ∀ k, k < 5 → k ≠ t → Nat.beq (E k) (E t) = false := fun k hk hne => by
    cases h : Nat.beq (E k) (E t)
    · rfl
    · exact absurd (hE k t hk ht (Nat.eq_of_beq_eq_true h)) hne
  have sb : ∀ x, Nat.beq x x = true := fun x => by simp
  have hr : List.range 5 = [0, 1, 2, 3, 4] := rfl
  rw [hr]
  rcases (show t = 0 ∨ t = 1 ∨ t = 2 ∨ t = 3 ∨ t = 4 by omega) with rfl | rfl | rfl | rfl | rfl
  · simp only [List.find?, sb]
  · simp only [List.find?, sb, nb 0 (by omega) (by omega)]
  · simp only [List.find?, sb, nb 0 (by omega) (by omega), nb 1 (by omega) (by omega)]
  · simp only [List.find?, sb, nb 0 (by omega) (by omega), nb 1 (by omega) (by omega), nb 2 (by omega) (by omega)]
  · simp only [List.find?, sb, nb 0 (by omega) (by omega), nb 1 (by omega) (by omega), nb 2 (by omega) (by omega), nb 3 (by omega) (by omega)]
theorem ev_W {E : Nat → Nat} (hE : ∀ i j, i < 5 → j < 5 → E i = E j → i = j) {t : Nat} (ht : t < 5) : gt_ev E 0 (E t) = some (.int (tyW t)) := by
  unfold gt_ev; rw [ev_at hE ht]
  rcases (show t = 0 ∨ t = 1 ∨ t = 2 ∨ t = 3 ∨ t = 4 by omega) with rfl | rfl | rfl | rfl | rfl <;> rfl
theorem ev_R {E : Nat → Nat} (hE : ∀ i j, i < 5 → j < 5 → E i = E j → i = j) {t : Nat} (ht : t < 5) : gt_ev E 1 (E t) = some (.int (tyR t)) := by
  unfold gt_ev; rw [ev_at hE ht]
  rcases (show t = 0 ∨ t = 1 ∨ t = 2 ∨ t = 3 ∨ t = 4 by omega) with rfl | rfl | rfl | rfl | rfl <;> rfl
theorem ev_L {E : Nat → Nat} (hE : ∀ i j, i < 5 → j < 5 → E i = E j → i = j) {t : Nat} (ht : t < 5) : gt_ev E 2 (E t) = some (.long (tyL t)) := by
  unfold gt_ev; rw [ev_at hE ht]
  rcases (show t = 0 ∨ t = 1 ∨ t = 2 ∨ t = 3 ∨ t = 4 by omega) with rfl | rfl | rfl | rfl | rfl <;> rfl
theorem ev_M {E : Nat → Nat} (hE : ∀ i j, i < 5 → j < 5 → E i = E j → i = j) {t : Nat} (ht : t < 5) : gt_ev E 3 (E t) = some (.long (tyM t)) := by
  unfold gt_ev; rw [ev_at hE ht]
  rcases (show t = 0 ∨ t = 1 ∨ t = 2 ∨ t = 3 ∨ t = 4 by omega) with rfl | rfl | rfl | rfl | rfl <;> rfl
theorem eo_at {E : Nat → Nat} (hE : ∀ i j, i < 5 → j < 5 → E i = E j → i = j) {t : Nat} (ht : t < 5) : gt_eo E (E t) = some 13 := by
  unfold gt_eo; rw [ev_at hE ht]; rfl
section
variable {b0 mi : Nat} {E : Nat → Nat} {M : mx_M} {pc : Nat} {L : mx_L} {st : List Value} {G : mx_H} {Q : mx_O → mx_H → Prop}
theorem r_invE1 {j t : Nat} {v1 : Value} {M' : mx_M} (hd : decode (mx_mb M) pc = .ok (.invokevirtual j, 3)) (ht : mx_tm (gt_P b0 mi E) (mx_mc M) j = some (0, 1, M')) (hE : ∀ i j, i < 5 → j < 5 → E i = E j → i = j) (h5 : t < 5) (hc : mx_mc M' = 13) (hs : (st.map fun v => v.category).sum ≤ 8) (hl : (lg_sl (.ref (E t) :: [v1])).length ≤ mx_ml M') (hf : mx_mf M' + 1 ≤ mx_mf M) (hw : 8 + (mx_ml M' + 11) + mx_mw M' ≤ mx_mw M) (he : mx_eg (mx_mg M') 0 (.ref (E t) :: [v1]) = true) (k9 : mx_W (gt_P b0 mi E) M' 0 (mx_en 0 (.ref (E t) :: [v1])) [] G (fun o G' => ∃ v, o = .inl v ∧ mx_W (gt_P b0 mi E) M (pc + 3) L (v.toList ++ st) G' Q)) : mx_W (gt_P b0 mi E) M pc L (v1 :: .ref (E t) :: st) G Q := w_invE [v1] hd ht (by rw [hc]; exact eo_at hE h5) rfl rfl hs hl hf hw he k9
end
theorem oV_rf (s : rx_S) (o : Option Nat) : rx_v (rA s) (oV o) = va_rf (o.map (rA s 20)) := by cases o <;> rfl
section
variable {b0 mi z1 z2 : Nat} {E : Nat → Nat} {O : Nat → Option mx_C} {s : rx_S} {M : mx_M} {pc : Nat} {L : mx_L} {st : List Value} {G : mx_H} {Q : mx_O → mx_H → Prop}
theorem r_getv {j r i f c n a : Nat} {t : FieldType} {b : Bool} {v : rx_V} (hd : decode (mx_mb M) pc = .ok (.getfield j, 3)) (ht : mx_tf (gt_P b0 mi E) (mx_mc M) j = some (c, f, t, b)) (R : rx_R b0 O z1 z2 s G) (ha : rA s r i = a) (hu : rU s r i = true) (hk : rx_k r = some (c, n)) (hf : f < n) (hv : rX s r i f = v) (k9 : mx_W (gt_P b0 mi E) M (pc + 3) L (rx_v (rA s) v :: st) G Q) : mx_W (gt_P b0 mi E) M pc L (.ref a :: st) G Q := by
  cases v with
  | inl v => exact r_geti hd ht R ha hu hk hf hv k9
  | inr q => exact r_getr hd ht R ha hu hk hf hv k9
end
section
variable {b0 mi z1 z2 : Nat} {E : Nat → Nat} {O : Nat → Option mx_C} {s : rx_S} {G : mx_H} {Q : mx_O → mx_H → Prop}
theorem c9_in {x l m : Int32} (q1 : (l.toInt ≤ x.toInt ∧ x.toInt ≤ m.toInt) → Q (.inl (some (.int 1))) G) (q0 : ¬ (l.toInt ≤ x.toInt ∧ x.toInt ≤ m.toInt) → Q (.inl (some (.int 0))) G) : mx_W (gt_P b0 mi E) mX9_isWithin 0 (mx_en 0 [.int x, .int l, .int m]) [] G Q := by
  refine w_iload_n dX9_isWithin_0 rfl ?_
  refine w_iload_n dX9_isWithin_1 rfl ?_
  refine r_icmp_lti (t := 14) dX9_isWithin_2 rfl (fun h2 => ?_) (fun h2 => ?_)
  ·
    refine w_iconst (v := 0) dX9_isWithin_14 (by decide) ?_
    exact w_iret dX9_isWithin_15 rfl rfl (q0 (fun h => by omega))
  ·
    refine w_iload_n dX9_isWithin_5 rfl ?_
    refine w_iload_n dX9_isWithin_6 rfl ?_
    refine r_icmp_gti (t := 14) dX9_isWithin_7 rfl (fun h7 => ?_) (fun h7 => ?_)
    ·
      refine w_iconst (v := 0) dX9_isWithin_14 (by decide) ?_
      exact w_iret dX9_isWithin_15 rfl rfl (q0 (fun h => by omega))
    ·
      refine w_iconst (v := 1) dX9_isWithin_10 (by decide) ?_
      refine w_goto (t := 15) dX9_isWithin_11 rfl ?_
      exact w_iret dX9_isWithin_15 rfl rfl (q1 ⟨by omega, by omega⟩)
theorem c5_isKept (R : rx_R b0 O z1 z2 s G) {i : Nat} (hu : rU s 20 i = true) {v : Int32} (h : rX s 20 i 12 = .inl (.int v)) (q1 : (¬ v = -1) → Q (.inl (some (.int 1))) G) (q0 : ¬ (¬ v = -1) → Q (.inl (some (.int 0))) G) : mx_W (gt_P b0 mi E) mX5_isKept 0 (mx_en 0 [.ref (rA s 20 i)]) [] G Q := by
  refine w_aload_n dX5_isKept_0 rfl ?_
  refine r_geti  dX5_isKept_1 ft_5_28 R rfl hu rfl (lb rfl) h ?_
  refine w_iconst (v := (-1)) dX5_isKept_4 (by decide) ?_
  refine w_icmp_eq (t := 12) dX5_isKept_5 rfl (fun h5 => ?_) (fun h5 => ?_)
  ·
    refine w_iconst (v := 0) dX5_isKept_12 (by decide) ?_
    exact w_iret dX5_isKept_13 rfl rfl (q0 (fun h => h h5))
  ·
    refine w_iconst (v := 1) dX5_isKept_8 (by decide) ?_
    refine w_goto (t := 13) dX5_isKept_9 rfl ?_
    exact w_iret dX5_isKept_13 rfl rfl (q1 h5)
theorem c5_isPlaced (R : rx_R b0 O z1 z2 s G) {i : Nat} (hu : rU s 20 i = true) {v : Int32} (h : rX s 20 i 12 = .inl (.int v)) {o : Option Nat} (h2 : rX s 20 i 17 = oV o) (q1 : (¬ v = -1 ∧ o = none) → Q (.inl (some (.int 1))) G) (q0 : ¬ (¬ v = -1 ∧ o = none) → Q (.inl (some (.int 0))) G) : mx_W (gt_P b0 mi E) mX5_isPlaced 0 (mx_en 0 [.ref (rA s 20 i)]) [] G Q := by
  cases o with
  | none =>
    refine w_aload_n dX5_isPlaced_0 rfl ?_
    refine r_inv0  dX5_isPlaced_1 mt_5_83 R rfl hu rfl (lb rfl) (lb rfl) (lb rfl) (lb rfl) rfl (c5_isKept R hu h (fun e => ⟨_, rfl, ?_⟩) (fun e => ⟨_, rfl, ?_⟩))
    ·
      refine w_if_eq (t := 18) dX5_isPlaced_4 rfl (fun h => absurd h (by decide)) (fun _ => ?_)
      refine w_aload_n dX5_isPlaced_7 rfl ?_
      refine r_geti  dX5_isPlaced_8 ft_5_87 R rfl hu rfl (lb rfl) h2 ?_
      refine r_nnF (t := 18) dX5_isPlaced_11 rfl ?_
      refine w_iconst (v := 1) dX5_isPlaced_14 (by decide) ?_
      refine w_goto (t := 19) dX5_isPlaced_15 rfl ?_
      exact w_iret dX5_isPlaced_19 rfl rfl (q1 ⟨e, rfl⟩)
    ·
      refine w_if_eq (t := 18) dX5_isPlaced_4 rfl (fun _ => ?_) (fun h => absurd (by decide) h)
      refine w_iconst (v := 0) dX5_isPlaced_18 (by decide) ?_
      exact w_iret dX5_isPlaced_19 rfl rfl (q0 (fun h => e h.1))
  | some j =>
    refine w_aload_n dX5_isPlaced_0 rfl ?_
    refine r_inv0  dX5_isPlaced_1 mt_5_83 R rfl hu rfl (lb rfl) (lb rfl) (lb rfl) (lb rfl) rfl (c5_isKept R hu h (fun e => ⟨_, rfl, ?_⟩) (fun e => ⟨_, rfl, ?_⟩))
    ·
      refine w_if_eq (t := 18) dX5_isPlaced_4 rfl (fun h => absurd h (by decide)) (fun _ => ?_)
      refine w_aload_n dX5_isPlaced_7 rfl ?_
      refine r_getr  dX5_isPlaced_8 ft_5_87 R rfl hu rfl (lb rfl) h2 ?_
      refine r_nnT (t := 18) dX5_isPlaced_11 rfl ?_
      refine w_iconst (v := 0) dX5_isPlaced_18 (by decide) ?_
      exact w_iret dX5_isPlaced_19 rfl rfl (q0 (fun h => by cases h.2))
    ·
      refine w_if_eq (t := 18) dX5_isPlaced_4 rfl (fun _ => ?_) (fun h => absurd (by decide) h)
      refine w_iconst (v := 0) dX5_isPlaced_18 (by decide) ?_
      exact w_iret dX5_isPlaced_19 rfl rfl (q0 (fun h => e h.1))
theorem c5_finalPlace (R : rx_R b0 O z1 z2 s G) {i : Nat} (hu : rU s 20 i = true) {o : Option Nat} (h2 : rX s 20 i 17 = oV o) {p : Int64} (hp : rX s 20 (o.getD i) 18 = .inl (.long p)) (hq : rU s 20 (o.getD i) = true) (q : Q (.inl (some (.long p))) G) : mx_W (gt_P b0 mi E) mX5_finalPlace 0 (mx_en 0 [.ref (rA s 20 i)]) [] G Q := by
  cases o with
  | none =>
    refine w_aload_n dX5_finalPlace_0 rfl ?_
    refine r_geti  dX5_finalPlace_1 ft_5_87 R rfl hu rfl (lb rfl) h2 ?_
    refine r_nnF (t := 14) dX5_finalPlace_4 rfl ?_
    refine w_aload_n dX5_finalPlace_7 rfl ?_
    refine r_geti  dX5_finalPlace_8 ft_5_91 R rfl hq rfl (lb rfl) hp ?_
    refine w_goto (t := 21) dX5_finalPlace_11 rfl ?_
    exact w_lret dX5_finalPlace_21 rfl q
  | some j =>
    refine w_aload_n dX5_finalPlace_0 rfl ?_
    refine r_getr  dX5_finalPlace_1 ft_5_87 R rfl hu rfl (lb rfl) h2 ?_
    refine r_nnT (t := 14) dX5_finalPlace_4 rfl ?_
    refine w_aload_n dX5_finalPlace_14 rfl ?_
    refine r_getr  dX5_finalPlace_15 ft_5_87 R rfl hu rfl (lb rfl) h2 ?_
    refine r_geti  dX5_finalPlace_18 ft_5_91 R rfl hq rfl (lb rfl) hp ?_
    exact w_lret dX5_finalPlace_21 rfl q
theorem c5_endWo (R : rx_R b0 O z1 z2 s G) {i : Nat} (hu : rU s 20 i = true) {p : Int64} {z : Int32} (hp : rX s 20 i 18 = .inl (.long p)) (hz : rX s 20 i 3 = .inl (.int z)) (q : Q (.inl (some (.long (p + z.toInt64)))) G) : mx_W (gt_P b0 mi E) mX5_endWithoutVeneers 0 (mx_en 0 [.ref (rA s 20 i)]) [] G Q := by
  refine w_aload_n dX5_endWithoutVeneers_0 rfl ?_
  refine r_geti  dX5_endWithoutVeneers_1 ft_5_91 R rfl hu rfl (lb rfl) hp ?_
  refine w_aload_n dX5_endWithoutVeneers_4 rfl ?_
  refine r_geti  dX5_endWithoutVeneers_5 ft_5_40 R rfl hu rfl (lb rfl) hz ?_
  refine w_i2l dX5_endWithoutVeneers_8 ?_
  refine w_ladd dX5_endWithoutVeneers_9 ?_
  exact w_lret dX5_endWithoutVeneers_10 rfl q
theorem c5_up {p : Int64} {a : Int32} (q : Q (.inl (some (.long ((p + (((1 : Int64) <<< (a.toInt64 &&& 63)) - 1)) &&& ((((1 : Int64) <<< (a.toInt64 &&& 63)) - 1) ^^^ (-1)))))) G) : mx_W (gt_P b0 mi E) mX5_alignedUp 0 (mx_en 0 [.long p, .int a]) [] G Q := by
  refine w_lconst (v := 1) dX5_alignedUp_0 (by decide) ?_
  refine w_iload_n dX5_alignedUp_1 rfl ?_
  refine w_lshl dX5_alignedUp_2 ?_
  refine w_lconst (v := 1) dX5_alignedUp_3 (by decide) ?_
  refine w_lsub dX5_alignedUp_4 ?_
  refine w_lstore_n dX5_alignedUp_5 (lb rfl) rfl ?_
  refine w_lload_n dX5_alignedUp_6 rfl ?_
  refine w_lload_n dX5_alignedUp_7 rfl ?_
  refine w_ladd dX5_alignedUp_8 ?_
  refine w_lload_n dX5_alignedUp_9 rfl ?_
  refine w_ldc2 dX5_alignedUp_10 ct_5_112 ?_
  refine w_lxor dX5_alignedUp_13 ?_
  refine w_land dX5_alignedUp_14 ?_
  exact w_lret dX5_alignedUp_15 rfl q
theorem c5_pv (R : rx_R b0 O z1 z2 s G) {i : Nat} (hu : rU s 20 i = true) {p : Int64} {z : Int32} (hp : rX s 20 i 18 = .inl (.long p)) (hz : rX s 20 i 3 = .inl (.int z)) {v : Int32} (q : Q (.inl (some (.long (((p + z.toInt64 + (((1 : Int64) <<< ((2 : Int32).toInt64 &&& 63)) - 1)) &&& ((((1 : Int64) <<< ((2 : Int32).toInt64 &&& 63)) - 1) ^^^ (-1))) + v.toInt64 * 8)))) G) : mx_W (gt_P b0 mi E) mX5_placeOfVeneer 0 (mx_en 0 [.ref (rA s 20 i), .int v]) [] G Q := by
  refine w_aload_n dX5_placeOfVeneer_0 rfl ?_
  refine r_inv0  dX5_placeOfVeneer_1 mt_5_95 R rfl hu rfl (lb rfl) (lb rfl) (lb rfl) (lb rfl) rfl (c5_endWo R hu hp hz ⟨_, rfl, ?_⟩)
  refine w_iconst (v := 2) dX5_placeOfVeneer_4 (by decide) ?_
  refine r_stat2 dX5_placeOfVeneer_5 mt_5_99 (lb rfl) (lb rfl) (lb rfl) (lb rfl) rfl (c5_up ⟨_, rfl, ?_⟩)
  refine w_iload_n dX5_placeOfVeneer_8 rfl ?_
  refine w_i2l dX5_placeOfVeneer_9 ?_
  refine w_ldc2 dX5_placeOfVeneer_10 ct_5_103 ?_
  refine w_lmul dX5_placeOfVeneer_13 ?_
  refine w_ladd dX5_placeOfVeneer_14 ?_
  exact w_lret dX5_placeOfVeneer_15 rfl q
theorem c5_endV (R : rx_R b0 O z1 z2 s G) {i : Nat} (hu : rU s 20 i = true) {p : Int64} {z : Int32} (hp : rX s 20 i 18 = .inl (.long p)) (hz : rX s 20 i 3 = .inl (.int z)) {v : Int32} (hv : rX s 20 i 19 = .inl (.int v)) (q0 : v = 0 → Q (.inl (some (.long (p + z.toInt64)))) G) (q1 : ¬ v = 0 → Q (.inl (some (.long (((p + z.toInt64 + (((1 : Int64) <<< ((2 : Int32).toInt64 &&& 63)) - 1)) &&& ((((1 : Int64) <<< ((2 : Int32).toInt64 &&& 63)) - 1) ^^^ (-1))) + v.toInt64 * 8)))) G) : mx_W (gt_P b0 mi E) mX5_endWithVeneers 0 (mx_en 0 [.ref (rA s 20 i)]) [] G Q := by
  refine w_aload_n dX5_endWithVeneers_0 rfl ?_
  refine r_geti  dX5_endWithVeneers_1 ft_5_105 R rfl hu rfl (lb rfl) hv ?_
  refine r_if_neP (t := 14) dX5_endWithVeneers_4 rfl (fun h4 => ?_) (fun h4 => ?_)
  ·
    refine w_aload_n dX5_endWithVeneers_14 rfl ?_
    refine w_aload_n dX5_endWithVeneers_15 rfl ?_
    refine r_geti  dX5_endWithVeneers_16 ft_5_105 R rfl hu rfl (lb rfl) hv ?_
    refine r_inv1  dX5_endWithVeneers_19 mt_5_108 R rfl hu rfl (lb rfl) (lb rfl) (lb rfl) (lb rfl) rfl (c5_pv R hu hp hz ⟨_, rfl, ?_⟩)
    exact w_lret dX5_endWithVeneers_22 rfl (q1 h4)
  ·
    refine w_aload_n dX5_endWithVeneers_7 rfl ?_
    refine r_inv0  dX5_endWithVeneers_8 mt_5_95 R rfl hu rfl (lb rfl) (lb rfl) (lb rfl) (lb rfl) rfl (c5_endWo R hu hp hz ⟨_, rfl, ?_⟩)
    refine w_goto (t := 22) dX5_endWithVeneers_11 rfl ?_
    exact w_lret dX5_endWithVeneers_22 rfl (q0 h4)
theorem c6_set (R : rx_R b0 O z1 z2 s G) {k : Nat} (hu : rU s 24 k = true) {a b : Int32} (g5 : rX s 24 k 5 = .inl (.int a)) (h6 : rX s 24 k 6 = .inl (.int b)) (q : Q (.inl (some (.int (if a = -1 then b else a)))) G) : mx_W (gt_P b0 mi E) mX6_targetSet 0 (mx_en 0 [.ref (rA s 24 k)]) [] G Q := by
  refine w_aload_n dX6_targetSet_0 rfl ?_
  refine r_geti  dX6_targetSet_1 ft_6_28 R rfl hu rfl (lb rfl) g5 ?_
  refine w_iconst (v := (-1)) dX6_targetSet_4 (by decide) ?_
  refine w_icmp_eq (t := 15) dX6_targetSet_5 rfl (fun h5 => ?_) (fun h5 => ?_)
  ·
    refine w_aload_n dX6_targetSet_15 rfl ?_
    refine r_geti  dX6_targetSet_16 ft_6_31 R rfl hu rfl (lb rfl) h6 ?_
    refine w_iret dX6_targetSet_19 rfl rfl ?_
    rw [if_pos h5] at q; exact q
  ·
    refine w_aload_n dX6_targetSet_8 rfl ?_
    refine r_geti  dX6_targetSet_9 ft_6_28 R rfl hu rfl (lb rfl) g5 ?_
    refine w_goto (t := 19) dX6_targetSet_12 rfl ?_
    refine w_iret dX6_targetSet_19 rfl rfl ?_
    rw [if_neg h5] at q; exact q
theorem c6_nowhere (R : rx_R b0 O z1 z2 s G) {k : Nat} (hu : rU s 24 k = true) {a b : Int32} (g5 : rX s 24 k 5 = .inl (.int a)) (g6 : rX s 24 k 6 = .inl (.int b)) {o : Option Nat} (h7 : rX s 24 k 7 = oV o) (q1 : (o = none ∧ (if a = -1 then b else a) = -1) → Q (.inl (some (.int 1))) G) (q0 : ¬ (o = none ∧ (if a = -1 then b else a) = -1) → Q (.inl (some (.int 0))) G) : mx_W (gt_P b0 mi E) mX6_isNowhere 0 (mx_en 0 [.ref (rA s 24 k)]) [] G Q := by
  cases o with
  | none =>
    refine w_aload_n dX6_isNowhere_0 rfl ?_
    refine r_geti  dX6_isNowhere_1 ft_6_40 R rfl hu rfl (lb rfl) h7 ?_
    refine r_nnF (t := 19) dX6_isNowhere_4 rfl ?_
    refine w_aload_n dX6_isNowhere_7 rfl ?_
    refine r_inv0  dX6_isNowhere_8 mt_6_43 R rfl hu rfl (lb rfl) (lb rfl) (lb rfl) (lb rfl) rfl (c6_set R hu g5 g6 ⟨_, rfl, ?_⟩)
    refine w_iconst (v := (-1)) dX6_isNowhere_11 (by decide) ?_
    refine r_icmp_neP (t := 19) dX6_isNowhere_12 rfl (fun h12 => ?_) (fun h12 => ?_)
    ·
      refine w_iconst (v := 0) dX6_isNowhere_19 (by decide) ?_
      exact w_iret dX6_isNowhere_20 rfl rfl (q0 (fun h => h12 h.2))
    ·
      refine w_iconst (v := 1) dX6_isNowhere_15 (by decide) ?_
      refine w_goto (t := 20) dX6_isNowhere_16 rfl ?_
      exact w_iret dX6_isNowhere_20 rfl rfl (q1 ⟨rfl, h12⟩)
  | some j =>
    refine w_aload_n dX6_isNowhere_0 rfl ?_
    refine r_getr  dX6_isNowhere_1 ft_6_40 R rfl hu rfl (lb rfl) h7 ?_
    refine r_nnT (t := 19) dX6_isNowhere_4 rfl ?_
    refine w_iconst (v := 0) dX6_isNowhere_19 (by decide) ?_
    exact w_iret dX6_isNowhere_20 rfl rfl (q0 (fun h => by cases h.1))
theorem c6_sao (R : rx_R b0 O z1 z2 s G) {k l : Nat} (hu : rU s 24 k = true) (hu2 : rU s 24 l = true) {a b c a2 b2 c2 : Int32} (g5 : rX s 24 k 5 = .inl (.int a)) (g6 : rX s 24 k 6 = .inl (.int b)) (g8 : rX s 24 k 8 = .inl (.int c)) (f5 : rX s 24 l 5 = .inl (.int a2)) (f6 : rX s 24 l 6 = .inl (.int b2)) (f8 : rX s 24 l 8 = .inl (.int c2)) (q1 : (a = a2 ∧ b = b2 ∧ c = c2) → Q (.inl (some (.int 1))) G) (q0 : ¬ (a = a2 ∧ b = b2 ∧ c = c2) → Q (.inl (some (.int 0))) G) : mx_W (gt_P b0 mi E) mX6_hasSetAndOffsetOf 0 (mx_en 0 [.ref (rA s 24 k), .ref (rA s 24 l)]) [] G Q := by
  refine w_aload_n dX6_hasSetAndOffsetOf_0 rfl ?_
  refine r_geti  dX6_hasSetAndOffsetOf_1 ft_6_28 R rfl hu rfl (lb rfl) g5 ?_
  refine w_aload_n dX6_hasSetAndOffsetOf_4 rfl ?_
  refine r_geti  dX6_hasSetAndOffsetOf_5 ft_6_28 R rfl hu2 rfl (lb rfl) f5 ?_
  refine r_icmp_neP (t := 37) dX6_hasSetAndOffsetOf_8 rfl (fun h8 => ?_) (fun h8 => ?_)
  ·
    refine w_iconst (v := 0) dX6_hasSetAndOffsetOf_37 (by decide) ?_
    exact w_iret dX6_hasSetAndOffsetOf_38 rfl rfl (q0 (fun h => h8 h.1))
  ·
    refine w_aload_n dX6_hasSetAndOffsetOf_11 rfl ?_
    refine r_geti  dX6_hasSetAndOffsetOf_12 ft_6_31 R rfl hu rfl (lb rfl) g6 ?_
    refine w_aload_n dX6_hasSetAndOffsetOf_15 rfl ?_
    refine r_geti  dX6_hasSetAndOffsetOf_16 ft_6_31 R rfl hu2 rfl (lb rfl) f6 ?_
    refine r_icmp_neP (t := 37) dX6_hasSetAndOffsetOf_19 rfl (fun h19 => ?_) (fun h19 => ?_)
    ·
      refine w_iconst (v := 0) dX6_hasSetAndOffsetOf_37 (by decide) ?_
      exact w_iret dX6_hasSetAndOffsetOf_38 rfl rfl (q0 (fun h => h19 h.2.1))
    ·
      refine w_aload_n dX6_hasSetAndOffsetOf_22 rfl ?_
      refine r_geti  dX6_hasSetAndOffsetOf_23 ft_6_47 R rfl hu rfl (lb rfl) g8 ?_
      refine w_aload_n dX6_hasSetAndOffsetOf_26 rfl ?_
      refine r_geti  dX6_hasSetAndOffsetOf_27 ft_6_47 R rfl hu2 rfl (lb rfl) f8 ?_
      refine r_icmp_neP (t := 37) dX6_hasSetAndOffsetOf_30 rfl (fun h30 => ?_) (fun h30 => ?_)
      ·
        refine w_iconst (v := 0) dX6_hasSetAndOffsetOf_37 (by decide) ?_
        exact w_iret dX6_hasSetAndOffsetOf_38 rfl rfl (q0 (fun h => h30 h.2.2))
      ·
        refine w_iconst (v := 1) dX6_hasSetAndOffsetOf_33 (by decide) ?_
        refine w_goto (t := 38) dX6_hasSetAndOffsetOf_34 rfl ?_
        exact w_iret dX6_hasSetAndOffsetOf_38 rfl rfl (q1 ⟨h8, h19, h30⟩)
theorem c4_own (R : rx_R b0 O z1 z2 s G) {k i : Nat} (hu : rU s 25 k = true) (hu2 : rU s 20 i = true) {p : Int64} {z : Int32} (g0 : rX s 25 k 0 = .inr (20, i)) (g1 : rX s 25 k 1 = .inl (.int z)) (hp : rX s 20 i 18 = .inl (.long p)) (q : Q (.inl (some (.long (p + z.toInt64)))) G) : mx_W (gt_P b0 mi E) mX4_ownPlace 0 (mx_en 0 [.ref (rA s 25 k)]) [] G Q := by
  refine w_aload_n dX4_ownPlace_0 rfl ?_
  refine r_getr  dX4_ownPlace_1 ft_4_15 R rfl hu rfl (lb rfl) g0 ?_
  refine r_geti  dX4_ownPlace_4 ft_4_33 R rfl hu2 rfl (lb rfl) hp ?_
  refine w_aload_n dX4_ownPlace_7 rfl ?_
  refine r_geti  dX4_ownPlace_8 ft_4_19 R rfl hu rfl (lb rfl) g1 ?_
  refine w_i2l dX4_ownPlace_11 ?_
  refine w_ladd dX4_ownPlace_12 ?_
  exact w_lret dX4_ownPlace_13 rfl q
theorem c8_fits (hE : ∀ i j, i < 5 → j < 5 → E i = E j → i = j) {t : Nat} (ht5 : t < 5) {v : Int64} (q1 : ((tyL t).toInt ≤ v.toInt ∧ v.toInt ≤ (tyM t).toInt) → Q (.inl (some (.int 1))) G) (q0 : ¬ ((tyL t).toInt ≤ v.toInt ∧ v.toInt ≤ (tyM t).toInt) → Q (.inl (some (.int 0))) G) : mx_W (gt_P b0 mi E) mX8_fits 0 (mx_en 0 [.ref (E t), .long v]) [] G Q := by
  refine w_lload_n dX8_fits_0 rfl ?_
  refine w_aload_n dX8_fits_1 rfl ?_
  refine w_getE dX8_fits_2 ((et_13_46 _).trans (ev_L hE ht5)) ?_
  refine r_lc_lt (t := 22) dX8_fits_5 dX8_fits_6 rfl (fun h5 => ?_) (fun h5 => ?_)
  ·
    refine w_iconst (v := 0) dX8_fits_22 (by decide) ?_
    exact w_iret dX8_fits_23 rfl rfl (q0 (fun h => by omega))
  ·
    refine w_lload_n dX8_fits_9 rfl ?_
    refine w_aload_n dX8_fits_10 rfl ?_
    refine w_getE dX8_fits_11 ((et_13_50 _).trans (ev_M hE ht5)) ?_
    refine r_lc_gt (t := 22) dX8_fits_14 dX8_fits_15 rfl (fun h14 => ?_) (fun h14 => ?_)
    ·
      refine w_iconst (v := 0) dX8_fits_22 (by decide) ?_
      exact w_iret dX8_fits_23 rfl rfl (q0 (fun h => by omega))
    ·
      refine w_iconst (v := 1) dX8_fits_18 (by decide) ?_
      refine w_goto (t := 23) dX8_fits_19 rfl ?_
      exact w_iret dX8_fits_23 rfl rfl (q1 ⟨by omega, by omega⟩)
theorem c4_covers (R : rx_R b0 O z1 z2 s G) (hE : ∀ i j, i < 5 → j < 5 → E i = E j → i = j) {k t : Nat} (ht5 : t < 5) (hu : rU s 25 k = true) {z i : Int32} (g1 : rX s 25 k 1 = .inl (.int z)) (g2 : rX s 25 k 2 = .inl (.ref (E t))) (q1 : (z.toInt ≤ i.toInt ∧ i.toInt < (z + tyW t).toInt) → Q (.inl (some (.int 1))) G) (q0 : ¬ (z.toInt ≤ i.toInt ∧ i.toInt < (z + tyW t).toInt) → Q (.inl (some (.int 0))) G) : mx_W (gt_P b0 mi E) mX4_covers 0 (mx_en 0 [.ref (rA s 25 k), .int i]) [] G Q := by
  refine w_iload_n dX4_covers_0 rfl ?_
  refine w_aload_n dX4_covers_1 rfl ?_
  refine r_geti  dX4_covers_2 ft_4_19 R rfl hu rfl (lb rfl) g1 ?_
  refine r_icmp_lti (t := 28) dX4_covers_5 rfl (fun h5 => ?_) (fun h5 => ?_)
  ·
    refine w_iconst (v := 0) dX4_covers_28 (by decide) ?_
    exact w_iret dX4_covers_29 rfl rfl (q0 (fun h => by omega))
  ·
    refine w_iload_n dX4_covers_8 rfl ?_
    refine w_aload_n dX4_covers_9 rfl ?_
    refine r_geti  dX4_covers_10 ft_4_19 R rfl hu rfl (lb rfl) g1 ?_
    refine w_aload_n dX4_covers_13 rfl ?_
    refine r_geti  dX4_covers_14 ft_4_22 R rfl hu rfl (lb rfl) g2 ?_
    refine w_getE dX4_covers_17 ((et_4_39 _).trans (ev_W hE ht5)) ?_
    refine w_iadd dX4_covers_20 ?_
    refine r_icmp_gei (t := 28) dX4_covers_21 rfl (fun h21 => ?_) (fun h21 => ?_)
    ·
      refine w_iconst (v := 0) dX4_covers_28 (by decide) ?_
      exact w_iret dX4_covers_29 rfl rfl (q0 (fun h => by omega))
    ·
      refine w_iconst (v := 1) dX4_covers_24 (by decide) ?_
      refine w_goto (t := 29) dX4_covers_25 rfl ?_
      exact w_iret dX4_covers_29 rfl rfl (q1 ⟨by omega, by omega⟩)
theorem c4_like (R : rx_R b0 O z1 z2 s G) (hE : ∀ i j, i < 5 → j < 5 → E i = E j → i = j) {k l t t2 : Nat} (ht5 : t < 5) (h52 : t2 < 5) (hu : rU s 25 k = true) (hu2 : rU s 25 l = true) {z a z2_ a2 : Int32} (g1 : rX s 25 k 1 = .inl (.int z)) (g2 : rX s 25 k 2 = .inl (.ref (E t))) (g4 : rX s 25 k 4 = .inl (.int a)) (f1 : rX s 25 l 1 = .inl (.int z2_)) (f2 : rX s 25 l 2 = .inl (.ref (E t2))) (f4 : rX s 25 l 4 = .inl (.int a2)) (q1 : (z = z2_ ∧ t = t2 ∧ a = a2) → Q (.inl (some (.int 1))) G) (q0 : ¬ (z = z2_ ∧ t = t2 ∧ a = a2) → Q (.inl (some (.int 0))) G) : mx_W (gt_P b0 mi E) mX4_isWrittenLike 0 (mx_en 0 [.ref (rA s 25 k), .ref (rA s 25 l)]) [] G Q := by
  refine w_aload_n dX4_isWrittenLike_0 rfl ?_
  refine r_geti  dX4_isWrittenLike_1 ft_4_19 R rfl hu rfl (lb rfl) g1 ?_
  refine w_aload_n dX4_isWrittenLike_4 rfl ?_
  refine r_geti  dX4_isWrittenLike_5 ft_4_19 R rfl hu2 rfl (lb rfl) f1 ?_
  refine r_icmp_neP (t := 37) dX4_isWrittenLike_8 rfl (fun h8 => ?_) (fun h8 => ?_)
  ·
    refine w_iconst (v := 0) dX4_isWrittenLike_37 (by decide) ?_
    exact w_iret dX4_isWrittenLike_38 rfl rfl (q0 (fun h => h8 h.1))
  ·
    refine w_aload_n dX4_isWrittenLike_11 rfl ?_
    refine r_geti  dX4_isWrittenLike_12 ft_4_22 R rfl hu rfl (lb rfl) g2 ?_
    refine w_aload_n dX4_isWrittenLike_15 rfl ?_
    refine r_geti  dX4_isWrittenLike_16 ft_4_22 R rfl hu2 rfl (lb rfl) f2 ?_
    refine r_acmp_ne (t := 37) dX4_isWrittenLike_19 rfl (fun h19 => ?_) (fun h19 => ?_)
    ·
      refine w_iconst (v := 0) dX4_isWrittenLike_37 (by decide) ?_
      exact w_iret dX4_isWrittenLike_38 rfl rfl (q0 (fun h => h19 (by rw [h.2.1])))
    ·
      refine w_aload_n dX4_isWrittenLike_22 rfl ?_
      refine r_geti  dX4_isWrittenLike_23 ft_4_30 R rfl hu rfl (lb rfl) g4 ?_
      refine w_aload_n dX4_isWrittenLike_26 rfl ?_
      refine r_geti  dX4_isWrittenLike_27 ft_4_30 R rfl hu2 rfl (lb rfl) f4 ?_
      refine r_icmp_neP (t := 37) dX4_isWrittenLike_30 rfl (fun h30 => ?_) (fun h30 => ?_)
      ·
        refine w_iconst (v := 0) dX4_isWrittenLike_37 (by decide) ?_
        exact w_iret dX4_isWrittenLike_38 rfl rfl (q0 (fun h => h30 h.2.2))
      ·
        refine w_iconst (v := 1) dX4_isWrittenLike_33 (by decide) ?_
        refine w_goto (t := 38) dX4_isWrittenLike_34 rfl ?_
        exact w_iret dX4_isWrittenLike_38 rfl rfl (q1 ⟨h8, hE _ _ ht5 h52 h19, h30⟩)
theorem c6_def (R : rx_R b0 O z1 z2 s G) {k : Nat} (hu : rU s 24 k = true) {a : Int32} {f : Nat → Int32} (g4 : rX s 24 k 4 = .inl (.int a)) {o : Option Nat} (g2 : rX s 24 k 2 = oV o) (hl : ∀ j, o = some j → rU s 20 j = true ∧ rX s 20 j 11 = .inl (.int (f j))) (q1 : (¬ a = 0 ∧ ∃ j, o = some j ∧ f j = 0) → Q (.inl (some (.int 1))) G) (q0 : ¬ (¬ a = 0 ∧ ∃ j, o = some j ∧ f j = 0) → Q (.inl (some (.int 0))) G) : mx_W (gt_P b0 mi E) mX6_isDefinition 0 (mx_en 0 [.ref (rA s 24 k)]) [] G Q := by
  cases o with
  | none =>
    refine w_aload_n dX6_isDefinition_0 rfl ?_
    refine r_geti  dX6_isDefinition_1 ft_6_25 R rfl hu rfl (lb rfl) g4 ?_
    refine w_if_eq (t := 28) dX6_isDefinition_4 rfl (fun h4 => ?_) (fun h4 => ?_)
    ·
      refine w_iconst (v := 0) dX6_isDefinition_28 (by decide) ?_
      exact w_iret dX6_isDefinition_29 rfl rfl (q0 (fun h => h.1 h4))
    ·
      refine w_aload_n dX6_isDefinition_7 rfl ?_
      refine r_geti  dX6_isDefinition_8 ft_6_18 R rfl hu rfl (lb rfl) g2 ?_
      refine r_nullT (t := 28) dX6_isDefinition_11 rfl ?_
      refine w_iconst (v := 0) dX6_isDefinition_28 (by decide) ?_
      exact w_iret dX6_isDefinition_29 rfl rfl (q0 (fun h => by obtain ⟨_, _, e, _⟩ := h; cases e))
  | some j =>
    refine w_aload_n dX6_isDefinition_0 rfl ?_
    refine r_geti  dX6_isDefinition_1 ft_6_25 R rfl hu rfl (lb rfl) g4 ?_
    refine w_if_eq (t := 28) dX6_isDefinition_4 rfl (fun h4 => ?_) (fun h4 => ?_)
    ·
      refine w_iconst (v := 0) dX6_isDefinition_28 (by decide) ?_
      exact w_iret dX6_isDefinition_29 rfl rfl (q0 (fun h => h.1 h4))
    ·
      refine w_aload_n dX6_isDefinition_7 rfl ?_
      refine r_getr  dX6_isDefinition_8 ft_6_18 R rfl hu rfl (lb rfl) g2 ?_
      refine r_nullF (t := 28) dX6_isDefinition_11 rfl ?_
      refine w_aload_n dX6_isDefinition_14 rfl ?_
      refine r_getr  dX6_isDefinition_15 ft_6_18 R rfl hu rfl (lb rfl) g2 ?_
      refine r_geti  dX6_isDefinition_18 ft_6_34 R rfl (hl j rfl).1 rfl (lb rfl) (hl j rfl).2 ?_
      refine r_if_neP (t := 28) dX6_isDefinition_21 rfl (fun h21 => ?_) (fun h21 => ?_)
      ·
        refine w_iconst (v := 0) dX6_isDefinition_28 (by decide) ?_
        exact w_iret dX6_isDefinition_29 rfl rfl (q0 (fun h => by obtain ⟨_, _, e, e2⟩ := h; cases e; exact h21 e2))
      ·
        refine w_iconst (v := 1) dX6_isDefinition_24 (by decide) ?_
        refine w_goto (t := 29) dX6_isDefinition_25 rfl ?_
        exact w_iret dX6_isDefinition_29 rfl rfl (q1 ⟨h4, _, rfl, h21⟩)
theorem c6_aim0 (R : rx_R b0 O z1 z2 s G) {k : Nat} (hu : rU s 24 k = true) (q : ∀ G', rx_R b0 O z1 z2 (sX (sX s 24 k 7 (.inl .null)) 24 k 8 (.inl (.int 0))) G' → Q (.inl none) G') : mx_W (gt_P b0 mi E) mX6_aimAt 0 (mx_en 0 [.ref (rA s 24 k), .null]) [] G Q := by
  refine w_aload_n dX6_aimAt_0 rfl ?_
  refine w_aload_nN dX6_aimAt_1 rfl ?_
  refine r_nnF (t := 9) dX6_aimAt_2 rfl ?_
  refine w_null dX6_aimAt_5 ?_
  refine w_goto (t := 13) dX6_aimAt_6 rfl ?_
  refine r_puti  dX6_aimAt_13 ft_6_40 R rfl hu rfl (lb rfl) (fun h => by cases h) rfl rfl (fun G1 R1 => ?_)
  refine w_aload_n dX6_aimAt_16 rfl ?_
  refine w_aload_nN dX6_aimAt_17 rfl ?_
  refine r_nnF (t := 25) dX6_aimAt_18 rfl ?_
  refine w_iconst (v := 0) dX6_aimAt_21 (by decide) ?_
  refine w_goto (t := 29) dX6_aimAt_22 rfl ?_
  refine r_puti  dX6_aimAt_29 ft_6_47 R1 rfl hu rfl (lb rfl) (fun h => by cases h) rfl rfl (fun G2 R2 => ?_)
  exact w_ret dX6_aimAt_32 rfl (q _ R2)
theorem c6_aim1 (R : rx_R b0 O z1 z2 s G) {k l : Nat} (hu : rU s 24 k = true) (hu2 : rU s 24 l = true) {o : Option Nat} {z : Int32} (g2 : rX s 24 l 2 = oV o) (g3 : rX s 24 l 3 = .inl (.int z)) (q : ∀ G', rx_R b0 O z1 z2 (sX (sX s 24 k 7 (oV o)) 24 k 8 (.inl (.int z))) G' → Q (.inl none) G') : mx_W (gt_P b0 mi E) mX6_aimAt 0 (mx_en 0 [.ref (rA s 24 k), .ref (rA s 24 l)]) [] G Q := by
  cases o with
  | none =>
    refine w_aload_n dX6_aimAt_0 rfl ?_
    refine w_aload_n dX6_aimAt_1 rfl ?_
    refine r_nnT (t := 9) dX6_aimAt_2 rfl ?_
    refine w_aload_n dX6_aimAt_9 rfl ?_
    refine r_geti  dX6_aimAt_10 ft_6_18 R rfl hu2 rfl (lb rfl) g2 ?_
    refine r_puti  dX6_aimAt_13 ft_6_40 R rfl hu rfl (lb rfl) (fun h => by cases h) rfl rfl (fun G1 R1 => ?_)
    refine w_aload_n dX6_aimAt_16 rfl ?_
    refine w_aload_n dX6_aimAt_17 rfl ?_
    refine r_nnT (t := 25) dX6_aimAt_18 rfl ?_
    refine w_aload_n dX6_aimAt_25 rfl ?_
    refine r_geti  dX6_aimAt_26 ft_6_22 R1 rfl hu2 rfl (lb rfl) ((sX_p (by omega)).trans g3) ?_
    refine r_puti  dX6_aimAt_29 ft_6_47 R1 rfl hu rfl (lb rfl) (fun h => by cases h) rfl rfl (fun G2 R2 => ?_)
    exact w_ret dX6_aimAt_32 rfl (q _ R2)
  | some j =>
    refine w_aload_n dX6_aimAt_0 rfl ?_
    refine w_aload_n dX6_aimAt_1 rfl ?_
    refine r_nnT (t := 9) dX6_aimAt_2 rfl ?_
    refine w_aload_n dX6_aimAt_9 rfl ?_
    refine r_getr  dX6_aimAt_10 ft_6_18 R rfl hu2 rfl (lb rfl) g2 ?_
    refine r_putr  dX6_aimAt_13 ft_6_40 R rfl hu rfl (lb rfl) (fun h => by cases h) rfl rfl rfl (R.2.2.1 24 l 2 _ hu2 g2) (fun G1 R1 => ?_)
    refine w_aload_n dX6_aimAt_16 rfl ?_
    refine w_aload_n dX6_aimAt_17 rfl ?_
    refine r_nnT (t := 25) dX6_aimAt_18 rfl ?_
    refine w_aload_n dX6_aimAt_25 rfl ?_
    refine r_geti  dX6_aimAt_26 ft_6_22 R1 rfl hu2 rfl (lb rfl) ((sX_p (by omega)).trans g3) ?_
    refine r_puti  dX6_aimAt_29 ft_6_47 R1 rfl hu rfl (lb rfl) (fun h => by cases h) rfl rfl (fun G2 R2 => ?_)
    exact w_ret dX6_aimAt_32 rfl (q _ R2)
theorem c6_same (R : rx_R b0 O z1 z2 s G) {k l : Nat} (hu : rU s 24 k = true) (hu2 : rU s 24 l = true) {a b c a2 b2 c2 : Int32} (g5 : rX s 24 k 5 = .inl (.int a)) (g6 : rX s 24 k 6 = .inl (.int b)) (g8 : rX s 24 k 8 = .inl (.int c)) (f5 : rX s 24 l 5 = .inl (.int a2)) (f6 : rX s 24 l 6 = .inl (.int b2)) (f8 : rX s 24 l 8 = .inl (.int c2)) {o o2 : Option Nat} (g7 : rX s 24 k 7 = oV o) (f7 : rX s 24 l 7 = oV o2) (q1 : o = o2 ∧ a = a2 ∧ b = b2 ∧ c = c2 → Q (.inl (some (.int 1))) G) (q0 : ¬ (o = o2 ∧ a = a2 ∧ b = b2 ∧ c = c2) → Q (.inl (some (.int 0))) G) : mx_W (gt_P b0 mi E) mX6_hasTargetOf 0 (mx_en 0 [.ref (rA s 24 k), .ref (rA s 24 l)]) [] G Q := by
  have hg : ∀ x : rx_V, True := fun _ => trivial
  refine w_aload_n dX6_hasTargetOf_0 rfl ?_
  refine r_getv dX6_hasTargetOf_1 ft_6_40 R rfl hu rfl (lb rfl) g7 ?_
  refine w_aload_n dX6_hasTargetOf_4 rfl ?_
  refine r_getv dX6_hasTargetOf_5 ft_6_40 R rfl hu2 rfl (lb rfl) f7 ?_
  have ho : ∀ o o2 : Option Nat, (∀ j, o = some j → rU s 20 j = true) → (∀ j, o2 = some j → rU s 20 j = true) → (o.map (rA s 20) = o2.map (rA s 20) ↔ o = o2) := fun o o2 h1 h2 => by
    cases o with
    | none => cases o2 <;> simp
    | some j =>
      cases o2 with
      | none => simp
      | some j2 => simp only [Option.map_some, Option.some.injEq]; exact ⟨fun e => ((rx_inj R (h1 j rfl) (h2 j2 rfl)).mp e).2, fun e => by rw [e]⟩
  have h1 : ∀ j, o = some j → rU s 20 j = true := fun j e => R.2.2.1 24 k 7 (20, j) hu (by rw [g7, e]; rfl)
  have h2 : ∀ j, o2 = some j → rU s 20 j = true := fun j e => R.2.2.1 24 l 7 (20, j) hu2 (by rw [f7, e]; rfl)
  rw [oV_rf, oV_rf]
  refine w_acmp_ne (t := 23) dX6_hasTargetOf_8 rfl (fun e => ?_) (fun e => ?_)
  · refine w_iconst (v := 0) dX6_hasTargetOf_23 (by decide) ?_
    exact w_iret dX6_hasTargetOf_24 rfl rfl (q0 (fun h => e ((ho o o2 h1 h2).mpr h.1)))
  · refine w_aload_n dX6_hasTargetOf_11 rfl ?_
    refine w_aload_n dX6_hasTargetOf_12 rfl ?_
    refine r_inv1 dX6_hasTargetOf_13 mt_6_50 R rfl hu rfl (lb rfl) (lb rfl) (lb rfl) (lb rfl) rfl (c6_sao R hu hu2 g5 g6 g8 f5 f6 f8 (fun e2 => ⟨_, rfl, ?_⟩) (fun e2 => ⟨_, rfl, ?_⟩))
    · refine w_if_eq (t := 23) dX6_hasTargetOf_16 rfl (fun h => absurd h (by decide)) (fun _ => ?_)
      refine w_iconst (v := 1) dX6_hasTargetOf_19 (by decide) ?_
      refine w_goto (t := 24) dX6_hasTargetOf_20 rfl ?_
      exact w_iret dX6_hasTargetOf_24 rfl rfl (q1 ⟨(ho o o2 h1 h2).mp e, e2⟩)
    · refine w_if_eq (t := 23) dX6_hasTargetOf_16 rfl (fun _ => ?_) (fun h => absurd (by decide) h)
      refine w_iconst (v := 0) dX6_hasTargetOf_23 (by decide) ?_
      exact w_iret dX6_hasTargetOf_24 rfl rfl (q0 (fun h => e2 h.2))
end
