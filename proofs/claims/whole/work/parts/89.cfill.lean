/-! ===== Arrays filled, lists made and emptied ===== -/
def sFI (s : rx_S) (i n : Nat) (v : Int32) : rx_S := (s.1, s.2.1, s.2.2.1, (fun a b c => if a = 10 ∧ b = i ∧ c < n then v else rI s a b c), s.2.2.2.2)
def sFL (s : rx_S) (i n : Nat) (v : Int64) : rx_S := (s.1, s.2.1, s.2.2.1, s.2.2.2.1, (fun a b c => if a = 10 ∧ b = i ∧ c < n then v else rL s a b c), s.2.2.2.2.2)
theorem sFI_0 (s : rx_S) (i : Nat) (v : Int32) : sFI s i 0 v = s := by
  have : (fun a b c => if a = 10 ∧ b = i ∧ c < 0 then v else rI s a b c) = rI s := by funext a b c; rw [if_neg (by omega)]
  unfold sFI; rw [this]
theorem sFL_0 (s : rx_S) (i : Nat) (v : Int64) : sFL s i 0 v = s := by
  have : (fun a b c => if a = 10 ∧ b = i ∧ c < 0 then v else rL s a b c) = rL s := by funext a b c; rw [if_neg (by omega)]
  unfold sFL; rw [this]
theorem sFI_s (s : rx_S) (i n : Nat) (v : Int32) : sI (sFI s i n v) 10 i n v = sFI s i (n + 1) v := by
  have : w3 (fun a b c => if a = 10 ∧ b = i ∧ c < n then v else rI s a b c) 10 i n v = (fun a b c => if a = 10 ∧ b = i ∧ c < n + 1 then v else rI s a b c) := by
    funext a b c
    rw [w3_if]
    by_cases h : a = 10 ∧ b = i ∧ c = n
    · rw [if_pos h, if_pos (by omega)]
    · rw [if_neg h]
      by_cases h2 : a = 10 ∧ b = i ∧ c < n
      · rw [if_pos h2, if_pos (by omega)]
      · rw [if_neg h2, if_neg (by omega)]
  unfold sI sFI; exact congrArg (fun q => (s.1, s.2.1, s.2.2.1, q, s.2.2.2.2)) this
theorem sFL_s (s : rx_S) (i n : Nat) (v : Int64) : sL (sFL s i n v) 10 i n v = sFL s i (n + 1) v := by
  have : w3 (fun a b c => if a = 10 ∧ b = i ∧ c < n then v else rL s a b c) 10 i n v = (fun a b c => if a = 10 ∧ b = i ∧ c < n + 1 then v else rL s a b c) := by
    funext a b c
    rw [w3_if]
    by_cases h : a = 10 ∧ b = i ∧ c = n
    · rw [if_pos h, if_pos (by omega)]
    · rw [if_neg h]
      by_cases h2 : a = 10 ∧ b = i ∧ c < n
      · rw [if_pos h2, if_pos (by omega)]
      · rw [if_neg h2, if_neg (by omega)]
  unfold sL sFL; exact congrArg (fun q => (s.1, s.2.1, s.2.2.1, s.2.2.2.1, q, s.2.2.2.2.2)) this
theorem sFI_at {s : rx_S} {i n j : Nat} {v : Int32} (h : j < n) : rI (sFI s i n v) 10 i j = v := if_pos ⟨rfl, rfl, h⟩
theorem sFL_at {s : rx_S} {i n j : Nat} {v : Int64} (h : j < n) : rL (sFL s i n v) 10 i j = v := if_pos ⟨rfl, rfl, h⟩
theorem cf.FI {w : Nat → Nat → Bool} {s s' : rx_S} (h : cf w s s') {i n : Nat} {v : Int32} (hw : w 100 i = true := by rfl) (hi : 2 ≤ i := by omega) : cf w s (sFI s' i n v) := by
  induction n with
  | zero => rw [sFI_0]; exact h
  | succ n ih => rw [← sFI_s]; exact ih.I hw hi
theorem cf.FL {w : Nat → Nat → Bool} {s s' : rx_S} (h : cf w s s') {i n : Nat} {v : Int64} (hw : w 100 i = true := by rfl) : cf w s (sFL s' i n v) := by
  induction n with
  | zero => rw [sFL_0]; exact h
  | succ n ih => rw [← sFL_s]; exact ih.L hw
/-- the array of a list emptied -/
def sCL (s : rx_S) (a n : Nat) : rx_S := (s.1, s.2.1, s.2.2.1, s.2.2.2.1, s.2.2.2.2.1, (fun r i k => if r = 9 ∧ i = a ∧ k < n then none else rQ s r i k), s.2.2.2.2.2.2)
theorem sCL_0 (s : rx_S) (a : Nat) : sCL s a 0 = s := by
  have : (fun r i k => if r = 9 ∧ i = a ∧ k < 0 then none else rQ s r i k) = rQ s := by funext a b c; rw [if_neg (by omega)]
  unfold sCL; rw [this]
theorem sCL_s (s : rx_S) (a n : Nat) : sQ (sCL s a n) 9 a n none = sCL s a (n + 1) := by
  have : w3 (fun r i k => if r = 9 ∧ i = a ∧ k < n then none else rQ s r i k) 9 a n none = (fun r i k => if r = 9 ∧ i = a ∧ k < n + 1 then none else rQ s r i k) := by
    funext r i k
    rw [w3_if]
    by_cases h : r = 9 ∧ i = a ∧ k = n
    · rw [if_pos h, if_pos (by omega)]
    · rw [if_neg h]
      by_cases h2 : r = 9 ∧ i = a ∧ k < n
      · rw [if_pos h2, if_pos (by omega)]
      · rw [if_neg h2, if_neg (by omega)]
  unfold sQ sCL; exact congrArg (fun q => (s.1, s.2.1, s.2.2.1, s.2.2.2.1, s.2.2.2.2.1, q, s.2.2.2.2.2.2)) this
section
variable {b0 mi z1 z2 : Nat} {E : Nat → Nat} {O : Nat → Option mx_C} {s : rx_S} {G : mx_H} {Q : mx_O → mx_H → Prop}
theorem c_filli_l {s0 : rx_S} {i n : Nat} (hu : rU s0 10 i = true) (ht : rx_t (rY s0) 10 i = (0, n)) (hn : n < 2 ^ 31) {v : Int32}  : ∀ (d : Nat) (j : Nat) (L : mx_L) (s : rx_S) (G : mx_H), n - j < d → rx_R b0 O z1 z2 s G → j ≤ n → s = sFI s0 i j v → L 0 = some (.ref (rA s0 10 i)) → L 1 = some (.int v) → L 2 = some (.int (nI j)) → L 3 = some (.int (nI n)) → (∀ G', rx_R b0 O z1 z2 (sFI s0 i n v) G' → Q (.inl none) G') → mx_W (gt_P b0 mi E) mJ7_fill_53178 5 L [] G Q := by
  intro d
  induction d with
  | zero => intro j L s G hd; exact absurd hd (Nat.not_lt_zero _)
  | succ d ih =>
    intro j L s G hd R hj hs h0 h1 h2 h3 kx
    subst hs
    refine w_iload_n dJ7_fill_53178_5 h2 ?_
    refine w_iload_n dJ7_fill_53178_6 h3 ?_
    refine r_icmp_gen (t := 20) dJ7_fill_53178_7 rfl (by omega) (by omega) (fun h7 => ?_) (fun h7 => ?_)
    ·
      refine w_ret dJ7_fill_53178_20 rfl ?_
      obtain rfl : j = n := by omega
      exact kx _ R
    ·
      refine w_aload_n dJ7_fill_53178_10 h0 ?_
      refine w_iload_n dJ7_fill_53178_11 h2 ?_
      refine w_iload_n dJ7_fill_53178_12 h1 ?_
      refine r_iast  dJ7_fill_53178_13 R rfl hu rfl ht (by omega) hn (fun G1 R1 => ?_)
      refine w_iinc dJ7_fill_53178_14 h2 (nI_1 _) (lb rfl) ?_
      refine w_goto (t := 5) dJ7_fill_53178_17 rfl ?_
      exact ih (j + 1) _ _ _ (by omega) R1 (by omega) (sFI_s _ _ _ _) h0 h1 rfl h3 kx
theorem c_filll_l {s0 : rx_S} {i n : Nat} (hu : rU s0 10 i = true) (ht : rx_t (rY s0) 10 i = (1, n)) (hn : n < 2 ^ 31) {v : Int64}  : ∀ (d : Nat) (j : Nat) (L : mx_L) (s : rx_S) (G : mx_H), n - j < d → rx_R b0 O z1 z2 s G → j ≤ n → s = sFL s0 i j v → L 0 = some (.ref (rA s0 10 i)) → L 1 = some (.long v) → L 3 = some (.int (nI j)) → L 4 = some (.int (nI n)) → (∀ G', rx_R b0 O z1 z2 (sFL s0 i n v) G' → Q (.inl none) G') → mx_W (gt_P b0 mi E) mJ7_fill_d0a16 6 L [] G Q := by
  intro d
  induction d with
  | zero => intro j L s G hd; exact absurd hd (Nat.not_lt_zero _)
  | succ d ih =>
    intro j L s G hd R hj hs h0 h1 h2 h3 kx
    subst hs
    refine w_iload_n dJ7_fill_d0a16_6 h2 ?_
    refine w_iload dJ7_fill_d0a16_7 h3 ?_
    refine r_icmp_gen (t := 22) dJ7_fill_d0a16_9 rfl (by omega) (by omega) (fun h9 => ?_) (fun h9 => ?_)
    ·
      refine w_ret dJ7_fill_d0a16_22 rfl ?_
      obtain rfl : j = n := by omega
      exact kx _ R
    ·
      refine w_aload_n dJ7_fill_d0a16_12 h0 ?_
      refine w_iload_n dJ7_fill_d0a16_13 h2 ?_
      refine w_lload_n dJ7_fill_d0a16_14 h1 ?_
      refine r_last  dJ7_fill_d0a16_15 R rfl hu rfl ht (by omega) hn (fun G1 R1 => ?_)
      refine w_iinc dJ7_fill_d0a16_16 h2 (nI_1 _) (lb rfl) ?_
      refine w_goto (t := 6) dJ7_fill_d0a16_19 rfl ?_
      exact ih (j + 1) _ _ _ (by omega) R1 (by omega) (sFL_s _ _ _ _) h0 h1 rfl h3 kx
theorem c_filli (R : rx_R b0 O z1 z2 s G) {i n : Nat} (hu : rU s 10 i = true) (ht : rx_t (rY s) 10 i = (0, n)) (hn : n < 2 ^ 31) {v : Int32} (q : ∀ G', rx_R b0 O z1 z2 (sFI s i n v) G' → Q (.inl none) G') : mx_W (gt_P b0 mi E) mJ7_fill_53178 0 (mx_en 0 [.ref (rA s 10 i), .int v]) [] G Q := by
  refine w_iconst (v := nI 0) dJ7_fill_53178_0 (by decide) ?_
  refine w_istore_n dJ7_fill_53178_1 (lb rfl) ?_
  refine w_aload_n dJ7_fill_53178_2 rfl ?_
  refine r_alen  dJ7_fill_53178_3 R rfl hu rfl ht (lb rfl) ?_
  refine w_istore_n dJ7_fill_53178_4 (lb rfl) ?_
  exact c_filli_l hu ht hn (n + 1) 0 _ _ _ (by omega) R (Nat.zero_le _) (sFI_0 _ _ _).symm rfl rfl rfl rfl q
theorem c_filll (R : rx_R b0 O z1 z2 s G) {i n : Nat} (hu : rU s 10 i = true) (ht : rx_t (rY s) 10 i = (1, n)) (hn : n < 2 ^ 31) {v : Int64} (q : ∀ G', rx_R b0 O z1 z2 (sFL s i n v) G' → Q (.inl none) G') : mx_W (gt_P b0 mi E) mJ7_fill_d0a16 0 (mx_en 0 [.ref (rA s 10 i), .long v]) [] G Q := by
  refine w_iconst (v := nI 0) dJ7_fill_d0a16_0 (by decide) ?_
  refine w_istore_n dJ7_fill_d0a16_1 (lb rfl) ?_
  refine w_aload_n dJ7_fill_d0a16_2 rfl ?_
  refine r_alen  dJ7_fill_d0a16_3 R rfl hu rfl ht (lb rfl) ?_
  refine w_istore dJ7_fill_d0a16_4 (lb rfl) ?_
  exact c_filll_l hu ht hn (n + 1) 0 _ _ _ (by omega) R (Nat.zero_le _) (sFL_0 _ _ _).symm rfl rfl rfl rfl q
theorem c_linit0 {a : Nat} (q : Q (.inl none) G) : mx_W (gt_P b0 mi E) mJxa1e45_init_da8c8 0 (mx_en 0 [.ref a]) [] G Q := by
  refine w_aload_n dJxa1e45_init_da8c8_0 rfl ?_
  refine w_obj dJxa1e45_init_da8c8_1 mt_15_1 (lb rfl) (lb rfl) (lb rfl) ?_
  exact w_ret dJxa1e45_init_da8c8_4 rfl q
theorem c_linit1 (R : rx_R b0 O z1 z2 s G) {r i : Nat} (hk : rx_k r = some (10, 3)) (hu : rU s r i = true) (q : ∀ G', rx_R b0 O z1 z2 (sX s r i 0 (.inl (.int 0))) G' → Q (.inl none) G') : mx_W (gt_P b0 mi E) mJxc12de_init_da8c8 0 (mx_en 0 [.ref (rA s r i)]) [] G Q := by
  refine w_aload_n dJxc12de_init_da8c8_0 rfl ?_
  refine r_spec0 dJxc12de_init_da8c8_1 mt_16_1 (by decide) (lb rfl) (lb rfl) (lb rfl) (lb rfl) rfl (c_linit0 ⟨_, rfl, ?_⟩)
  refine w_aload_n dJxc12de_init_da8c8_4 rfl ?_
  refine w_iconst (v := 0) dJxc12de_init_da8c8_5 (by decide) ?_
  refine r_puti  dJxc12de_init_da8c8_6 ft_16_7 R rfl hu hk (lb rfl) (fun h => by cases h) rfl rfl (fun G1 R1 => ?_)
  exact w_ret dJxc12de_init_da8c8_9 rfl (q _ R1)
theorem c_linit (R : rx_R b0 O z1 z2 s G) {r i : Nat} (hk : rx_k r = some (10, 3)) (hu : rU s r i = true) (q : ∀ G', rx_R b0 O z1 z2 (sX (sX s r i 0 (.inl (.int 0))) r i 1 (.inl (.ref (E 6)))) G' → Q (.inl none) G') : mx_W (gt_P b0 mi E) mJx4a65c_init_da8c8 0 (mx_en 0 [.ref (rA s r i)]) [] G Q := by
  refine w_aload_n dJx4a65c_init_da8c8_0 rfl ?_
  refine r_spec0 dJx4a65c_init_da8c8_1 mt_10_1 (by decide) (lb rfl) (lb rfl) (lb rfl) (lb rfl) rfl (c_linit1 R hk hu (fun G1 R1 => ⟨_, rfl, ?_⟩))
  refine w_aload_n dJx4a65c_init_da8c8_4 rfl ?_
  refine w_gets dJx4a65c_init_da8c8_5 st_10_39 ?_
  refine r_puti  dJx4a65c_init_da8c8_8 ft_10_9 R1 rfl hu hk (lb rfl) (fun h => by cases h) rfl rfl (fun G1_ R1_ => ?_)
  exact w_ret dJx4a65c_init_da8c8_11 rfl (q _ R1_)
theorem c_lclear_l {s0 : rx_S} {a n : Nat} (hu : rU s0 9 a = true) (hn : n ≤ rY s0 9 a) (hY : rY s0 9 a ≤ 1000)  : ∀ (d : Nat) (j : Nat) (L : mx_L) (s : rx_S) (G : mx_H), n - j < d → rx_R b0 O z1 z2 s G → j ≤ n → s = sCL s0 a j → L 1 = some (.ref (rA s0 9 a)) → L 2 = some (.int (nI n)) → L 3 = some (.int (nI j)) → (∀ G', rx_R b0 O z1 z2 (sCL s0 a n) G' → Q (.inl none) G') → mx_W (gt_P b0 mi E) mJx4a65c_clear_da8c8 27 L [] G Q := by
  intro d
  induction d with
  | zero => intro j L s G hd; exact absurd hd (Nat.not_lt_zero _)
  | succ d ih =>
    intro j L s G hd R hj hs h1 h2 h3 kx
    subst hs
    refine w_iload_n dJx4a65c_clear_da8c8_27 h3 ?_
    refine w_iload_n dJx4a65c_clear_da8c8_28 h2 ?_
    refine r_icmp_gen (t := 42) dJx4a65c_clear_da8c8_29 rfl (by omega) (by omega) (fun h29 => ?_) (fun h29 => ?_)
    ·
      refine w_ret dJx4a65c_clear_da8c8_42 rfl ?_
      obtain rfl : j = n := by omega
      exact kx _ R
    ·
      refine w_aload_n dJx4a65c_clear_da8c8_32 h1 ?_
      refine w_iload_n dJx4a65c_clear_da8c8_33 h3 ?_
      refine w_null dJx4a65c_clear_da8c8_34 ?_
      refine r_aastN dJx4a65c_clear_da8c8_35 R rfl hu rfl rfl (lb rfl) (by show j < rY s0 9 a; omega) (by show rY s0 9 a < 2 ^ 31; omega) (fun G1 R1 => ?_)
      refine w_iinc dJx4a65c_clear_da8c8_36 h3 (nI_1 _) (lb rfl) ?_
      refine w_goto (t := 27) dJx4a65c_clear_da8c8_39 rfl ?_
      exact ih (j + 1) _ _ _ (by omega) R1 (by omega) (sCL_s _ _ _) h1 h2 rfl kx
theorem c_lclear (R : rx_R b0 O z1 z2 s G) {r i : Nat} (hk : rx_k r = some (10, 3)) (hu : rU s r i = true) {n : Nat} {f : Nat → Nat × Nat} (hl : rLS (E 6) s r i n f) (hn : n ≤ 600) (q : ∀ s' G', rx_R b0 O z1 z2 s' G' → lfr s s' r i → rLS (E 6) s' r i 0 f → Q (.inl none) G') : mx_W (gt_P b0 mi E) mJx4a65c_clear_da8c8 0 (mx_en 0 [.ref (rA s r i)]) [] G Q := by
  obtain ⟨⟨mc, h0⟩, h2, hfk, hr⟩ := hl
  rcases hr with ⟨rfl, h1⟩ | ⟨a, h1, hua, hn1, hn2, hY, hq, hq0⟩
  ·
    refine w_aload_n dJx4a65c_clear_da8c8_0 rfl ?_
    refine w_dup dJx4a65c_clear_da8c8_1 rfl ?_
    refine r_geti  dJx4a65c_clear_da8c8_2 ft_10_63 R rfl hu hk (lb rfl) h0 ?_
    refine w_iconst (v := 1) dJx4a65c_clear_da8c8_5 (by decide) ?_
    refine w_iadd dJx4a65c_clear_da8c8_6 ?_
    refine r_puti  dJx4a65c_clear_da8c8_7 ft_10_63 R rfl hu hk (lb rfl) (fun h => by cases h) rfl rfl (fun G1 R1 => ?_)
    refine w_aload_n dJx4a65c_clear_da8c8_10 rfl ?_
    refine r_geti  dJx4a65c_clear_da8c8_11 ft_10_9 R1 rfl hu hk (lb rfl) ((sX_p (by omega)).trans h1) ?_
    refine w_astore_n dJx4a65c_clear_da8c8_14 (lb rfl) ?_
    refine w_aload_n dJx4a65c_clear_da8c8_15 rfl ?_
    refine r_geti  dJx4a65c_clear_da8c8_16 ft_10_48 R1 rfl hu hk (lb rfl) ((sX_p (by omega)).trans h2) ?_
    refine w_istore_n dJx4a65c_clear_da8c8_19 (lb rfl) ?_
    refine w_aload_n dJx4a65c_clear_da8c8_20 rfl ?_
    refine w_iconst (v := 0) dJx4a65c_clear_da8c8_21 (by decide) ?_
    refine w_dup_x1 dJx4a65c_clear_da8c8_22 rfl rfl ?_
    refine r_puti  dJx4a65c_clear_da8c8_23 ft_10_48 R1 rfl hu hk (lb rfl) (fun h => by cases h) rfl rfl (fun G2 R2 => ?_)
    refine w_istore_n dJx4a65c_clear_da8c8_26 (lb rfl) ?_
    refine w_iload_n dJx4a65c_clear_da8c8_27 rfl ?_
    refine w_iload_n dJx4a65c_clear_da8c8_28 rfl ?_
    refine w_icmp_ge (t := 42) dJx4a65c_clear_da8c8_29 rfl (fun h29 => ?_) (fun h => absurd (Int32.le_refl _) h)
    refine w_ret dJx4a65c_clear_da8c8_42 rfl ?_
    refine q _ _ R2 ?_ ⟨⟨mc + 1, ?_⟩, sX_s, fun j hj => absurd hj (Nat.not_lt_zero _), Or.inl ⟨rfl, ?_⟩⟩
    · refine ⟨rfl, rfl, rfl, fun r' i' f h9 hne => ?_, fun _ _ h => h, fun r' i' h9 => ⟨rfl, ?_, rfl⟩, fun a' ha hne => ⟨?_, rfl⟩, fun a' ha => Or.inl ?_⟩
      · exact (sX_p (fun e => hne ⟨e.1, e.2.1⟩)).trans (sX_p (fun e => hne ⟨e.1, e.2.1⟩))
      · rfl
      · rfl
      · exact ((sX_p (by omega)).trans (sX_p (by omega))).symm.trans ha
    · exact (sX_p (by omega)).trans sX_s
    · exact (sX_p (by omega)).trans ((sX_p (by omega)).trans h1)
  ·
    refine w_aload_n dJx4a65c_clear_da8c8_0 rfl ?_
    refine w_dup dJx4a65c_clear_da8c8_1 rfl ?_
    refine r_geti  dJx4a65c_clear_da8c8_2 ft_10_63 R rfl hu hk (lb rfl) h0 ?_
    refine w_iconst (v := 1) dJx4a65c_clear_da8c8_5 (by decide) ?_
    refine w_iadd dJx4a65c_clear_da8c8_6 ?_
    refine r_puti  dJx4a65c_clear_da8c8_7 ft_10_63 R rfl hu hk (lb rfl) (fun h => by cases h) rfl rfl (fun G1 R1 => ?_)
    refine w_aload_n dJx4a65c_clear_da8c8_10 rfl ?_
    refine r_getr  dJx4a65c_clear_da8c8_11 ft_10_9 R1 rfl hu hk (lb rfl) ((sX_p (by omega)).trans h1) ?_
    refine w_astore_n dJx4a65c_clear_da8c8_14 (lb rfl) ?_
    refine w_aload_n dJx4a65c_clear_da8c8_15 rfl ?_
    refine r_geti  dJx4a65c_clear_da8c8_16 ft_10_48 R1 rfl hu hk (lb rfl) ((sX_p (by omega)).trans h2) ?_
    refine w_istore_n dJx4a65c_clear_da8c8_19 (lb rfl) ?_
    refine w_aload_n dJx4a65c_clear_da8c8_20 rfl ?_
    refine w_iconst (v := 0) dJx4a65c_clear_da8c8_21 (by decide) ?_
    refine w_dup_x1 dJx4a65c_clear_da8c8_22 rfl rfl ?_
    refine r_puti  dJx4a65c_clear_da8c8_23 ft_10_48 R1 rfl hu hk (lb rfl) (fun h => by cases h) rfl rfl (fun G2 R2 => ?_)
    refine w_istore_n dJx4a65c_clear_da8c8_26 (lb rfl) ?_
    refine c_lclear_l (s0 := sX (sX s r i 0 (.inl (.int (mc + 1)))) r i 2 (.inl (.int 0))) (a := a) (n := n) hua hn1 hY (n + 1) 0 _ _ _ (by omega) R2 (Nat.zero_le _) (sCL_0 _ _).symm rfl rfl rfl (fun G3 R3 => q _ _ R3 ?_ ⟨⟨mc + 1, ?_⟩, ?_, fun j hj => absurd hj (Nat.not_lt_zero _), Or.inr ⟨a, ?_, hua, Nat.zero_le _, hn2, hY, fun j hj => absurd hj (Nat.not_lt_zero _), fun j _ => ?_⟩⟩)
    · refine ⟨rfl, rfl, rfl, fun r' i' f h9 hne => ?_, fun _ _ h => h, fun r' i' h9 => ⟨rfl, ?_, rfl⟩, fun a' ha hne => ⟨?_, rfl⟩, fun a' ha => Or.inl ?_⟩
      · exact (sX_p (s := sX s r i 0 (.inl (.int (mc + 1)))) (fun e => hne ⟨e.1, e.2.1⟩)).trans (sX_p (fun e => hne ⟨e.1, e.2.1⟩))
      · funext k; exact if_neg (fun e => h9 e.1)
      · funext k; exact if_neg (fun e => hne (by rw [e.2.1]; exact h1))
      · exact ((sX_p (s := sX s r i 0 (.inl (.int (mc + 1)))) (by omega)).trans (sX_p (by omega))).symm.trans ha
    · exact (sX_p (s := sX s r i 0 (.inl (.int (mc + 1)))) (by omega)).trans sX_s
    · exact sX_s (s := sX s r i 0 (.inl (.int (mc + 1))))
    · exact (sX_p (s := sX s r i 0 (.inl (.int (mc + 1)))) (by omega)).trans ((sX_p (by omega)).trans h1)
    · show (if 9 = 9 ∧ a = a ∧ j < n then none else rQ s 9 a j) = none
      by_cases e : j < n
      · rw [if_pos ⟨rfl, rfl, e⟩]
      · rw [if_neg (fun q => e q.2.2)]; exact hq0 j (by omega)
end
