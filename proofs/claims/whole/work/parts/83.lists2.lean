/-- a list: its length and what lies in it -/
def rLS (E6 : Nat) (s : rx_S) (r i n : Nat) (f : Nat → Nat × Nat) : Prop := (∃ mc : Int32, rX s r i 0 = .inl (.int mc)) ∧ rX s r i 2 = .inl (.int (nI n)) ∧ (∀ j, j < n → (f j).1 = 20 ∨ (f j).1 = 24 ∨ (f j).1 = 25 ∨ (f j).1 = 23) ∧ ((n = 0 ∧ rX s r i 1 = .inl (.ref E6)) ∨ ∃ a, rX s r i 1 = .inr (9, a) ∧ rU s 9 a = true ∧ n ≤ rY s 9 a ∧ 1 ≤ rY s 9 a ∧ rY s 9 a ≤ 1000 ∧ (∀ j, j < n → rQ s 9 a j = some (f j)) ∧ ∀ j, n ≤ j → rQ s 9 a j = none)
theorem k_20 {q : Nat × Nat} (h : q.1 = 20 ∨ q.1 = 24 ∨ q.1 = 25 ∨ q.1 = 23) : ∃ c m, rx_k q.1 = some (c, m) ∧ gt_tg 4 c = true := by
  rcases h with h | h | h | h <;> rw [h]
  · exact ⟨5, 20, rfl, rfl⟩
  · exact ⟨6, 9, rfl, rfl⟩
  · exact ⟨4, 6, rfl, rfl⟩
  · exact ⟨11, 2, rfl, rfl⟩
theorem k_9 {r c m : Nat} (h : rx_k r = some (c, m)) : r ≠ 9 := fun e => by rw [e] at h; cases h
/-- what a list's growth leaves alone -/
def lfr (s s' : rx_S) (r i : Nat) : Prop := rA s' = rA s ∧ rI s' = rI s ∧ rL s' = rL s ∧ (∀ r' i' f, r' ≠ 9 → ¬ (r' = r ∧ i' = i) → rX s' r' i' f = rX s r' i' f) ∧ (∀ r' i', rU s r' i' = true → rU s' r' i' = true) ∧ (∀ r' i', r' ≠ 9 → rU s' r' i' = rU s r' i' ∧ rQ s' r' i' = rQ s r' i' ∧ rY s' r' i' = rY s r' i') ∧ (∀ a, rU s 9 a = true → rX s r i 1 ≠ .inr (9, a) → rQ s' 9 a = rQ s 9 a ∧ rY s' 9 a = rY s 9 a) ∧ (∀ a, rX s' r i 1 = .inr (9, a) → rX s r i 1 = .inr (9, a) ∨ rU s 9 a = false)
theorem nI_half {n : Nat} (h : n < 2 ^ 31) : nI n >>> ((1 : Int32) &&& 31) = nI (n / 2) := by
  rw [show ((1 : Int32) &&& 31) = 1 by decide]
  apply Int32.toInt_inj.mp
  rw [nI_toInt (by omega), ← Int32.toInt_toBitVec, Int32.toBitVec_shiftRight]
  have e1 : (nI n).toBitVec = BitVec.ofNat 32 n := rfl
  have e2 : ((1 : Int32).toBitVec.smod 32) = 1#32 := by decide
  rw [e1, e2]
  rw [BitVec.sshiftRight_eq', BitVec.toInt_sshiftRight]
  have e3 : (BitVec.ofNat 32 n).toInt = (n : Int) := by
    rw [BitVec.toInt_eq_toNat_cond, BitVec.toNat_ofNat, Nat.mod_eq_of_lt (by omega), if_pos (by omega)]
  rw [e3]
  rw [show (1#32).toNat = 1 by decide, Int.shiftRight_eq_div_pow]
  omega
section
variable {b0 mi z1 z2 : Nat} {E : Nat → Nat} {O : Nat → Option mx_C} {s : rx_S} {G : mx_H} {Q : mx_O → mx_H → Prop}
theorem c_lsize (R : rx_R b0 O z1 z2 s G) {r i : Nat} (hk : rx_k r = some (10, 3)) (hu : rU s r i = true) {n : Nat} (h2 : rX s r i 2 = .inl (.int (nI n))) (q : Q (.inl (some (.int (nI n)))) G) : mx_W (gt_P b0 mi E) mJx4a65c_size_8abf5 0 (mx_en 0 [.ref (rA s r i)]) [] G Q := by
  refine w_aload_n dJx4a65c_size_8abf5_0 rfl ?_
  refine r_geti  dJx4a65c_size_8abf5_1 ft_10_48 R rfl hu hk (lb rfl) h2 ?_
  exact w_iret dJx4a65c_size_8abf5_4 rfl rfl q
theorem c_lelem (R : rx_R b0 O z1 z2 s G) {r i : Nat} (hk : rx_k r = some (10, 3)) (hu : rU s r i = true) {a j : Nat} {e : Nat × Nat} (h1 : rX s r i 1 = .inr (9, a)) (hua : rU s 9 a = true) (hj : j < rY s 9 a) (hY : rY s 9 a ≤ 1000) (hv : rQ s 9 a j = some e) (q : Q (.inl (some (.ref (rA s e.1 e.2)))) G) : mx_W (gt_P b0 mi E) mJx4a65c_elementData_915e3 0 (mx_en 0 [.ref (rA s r i), .int (nI j)]) [] G Q := by
  refine w_aload_n dJx4a65c_elementData_915e3_0 rfl ?_
  refine r_getr  dJx4a65c_elementData_915e3_1 ft_10_9 R rfl hu hk (lb rfl) h1 ?_
  refine w_iload_n dJx4a65c_elementData_915e3_4 rfl ?_
  refine r_aaldr dJx4a65c_elementData_915e3_5 R rfl hua rfl rfl (lb rfl) hj (by omega) hv ?_
  exact w_aret (x := some _) dJx4a65c_elementData_915e3_6 rfl (by first | exact Or.inl ⟨_, rfl⟩ | exact Or.inr ⟨_, rfl⟩) q
theorem c_lget (R : rx_R b0 O z1 z2 s G) {r i : Nat} (hk : rx_k r = some (10, 3)) (hu : rU s r i = true) {n j : Nat} {f : Nat → Nat × Nat} (hl : rLS (E 6) s r i n f) (hj : j < n) (q : Q (.inl (some (.ref (rA s (f j).1 (f j).2)))) G) : mx_W (gt_P b0 mi E) mJx4a65c_get_915e3 0 (mx_en 0 [.ref (rA s r i), .int (nI j)]) [] G Q := by
  obtain ⟨_, h2, _, hr⟩ := hl
  obtain ⟨a, h1, hua, hn1, hn2, hY, hq, hq0⟩ : ∃ a, rX s r i 1 = .inr (9, a) ∧ rU s 9 a = true ∧ n ≤ rY s 9 a ∧ 1 ≤ rY s 9 a ∧ rY s 9 a ≤ 1000 ∧ (∀ j, j < n → rQ s 9 a j = some (f j)) ∧ ∀ j, n ≤ j → rQ s 9 a j = none := hr.elim (fun e => by omega) id
  refine w_iload_n dJx4a65c_get_915e3_0 rfl ?_
  refine w_aload_n dJx4a65c_get_915e3_1 rfl ?_
  refine r_geti  dJx4a65c_get_915e3_2 ft_10_48 R rfl hu hk (lb rfl) h2 ?_
  refine r_stat2 dJx4a65c_get_915e3_5 mt_10_118 (lb rfl) (lb rfl) (lb rfl) (lb rfl) rfl (c_checkIndex hj (by omega) ⟨_, rfl, ?_⟩)
  refine w_pop dJx4a65c_get_915e3_8 rfl ?_
  refine w_aload_n dJx4a65c_get_915e3_9 rfl ?_
  refine w_iload_n dJx4a65c_get_915e3_10 rfl ?_
  refine r_inv1  dJx4a65c_get_915e3_11 mt_10_123 R rfl hu hk (lb rfl) (lb rfl) (lb rfl) (lb rfl) rfl (c_lelem R hk hu h1 hua (by omega) hY (hq j hj) ⟨_, rfl, ?_⟩)
  exact w_aret (x := some _) dJx4a65c_get_915e3_14 rfl (by first | exact Or.inl ⟨_, rfl⟩ | exact Or.inr ⟨_, rfl⟩) q
/-- an empty list grows -/
theorem c_lgrow0 (R : rx_R b0 O z1 z2 s G) {r i : Nat} (hk : rx_k r = some (10, 3)) (hu : rU s r i = true) {c6 : vp_A} (h6 : E 6 < b0) (hO : O (E 6) = some (.inl (4, 0, c6.2))) (h1 : rX s r i 1 = .inl (.ref (E 6))) (q : ∀ G', rx_R b0 O (z1 + 1) (z2 + 10) (sX (sN9 s G.2.1 10 (fun _ => none)) r i 1 (.inr (9, G.2.1))) G' → Q (.inl (some (.ref G.2.1))) G') : mx_W (gt_P b0 mi E) mJx4a65c_grow_92f84 0 (mx_en 0 [.ref (rA s r i), .int (nI 1)]) [] G Q := by
  have hE : G.1 (E 6) = some (.inl (4, 0, c6.2)) := (R.2.2.2.2.2.2.2.2 (E 6) h6).trans hO
  refine w_aload_n dJx4a65c_grow_92f84_0 rfl ?_
  refine r_geti dJx4a65c_grow_92f84_1 ft_10_9 R rfl hu hk (lb rfl) h1 ?_
  refine w_alen dJx4a65c_grow_92f84_4 hE (Or.inl (lb rfl)) ?_
  refine w_istore_n dJx4a65c_grow_92f84_5 (lb rfl) ?_
  refine w_iload_n dJx4a65c_grow_92f84_6 rfl ?_
  refine w_if_gt (t := 20) dJx4a65c_grow_92f84_7 rfl (fun h => absurd h (by decide)) (fun _ => ?_)
  refine w_aload_n dJx4a65c_grow_92f84_10 rfl ?_
  refine r_geti dJx4a65c_grow_92f84_11 ft_10_9 R rfl hu hk (lb rfl) h1 ?_
  refine w_gets dJx4a65c_grow_92f84_14 st_10_39 ?_
  refine r_acmp_eq (t := 45) dJx4a65c_grow_92f84_17 rfl (fun _ => ?_) (fun h => absurd rfl h)
  refine w_aload_n dJx4a65c_grow_92f84_45 rfl ?_
  refine w_bipush (v := nI 10) dJx4a65c_grow_92f84_46 (by decide) ?_
  refine w_iload_n dJx4a65c_grow_92f84_48 rfl ?_
  refine w_max dJx4a65c_grow_92f84_49 mt_10_79 (lb rfl) (lb rfl) (lb rfl) ?_
  rw [if_neg (by decide)]
  refine w_anew dJx4a65c_grow_92f84_52 at_10_7 (lb rfl) ?_
  have R1 : rx_R b0 O (z1 + 1) (z2 + 10) (sN9 s G.2.1 10 (fun _ => none)) (mx_pu G (.inl (4, 10, mx_aq (fun _ => none))) 10) := rx_N9 R (cap := 10) (g := fun _ => none) (fun k q h => by cases h)
  have hA : rA (sN9 s G.2.1 10 (fun _ => none)) 9 G.2.1 = G.2.1 := R.2.2.2.2.1 _
  refine w_dup_x1 dJx4a65c_grow_92f84_55 rfl rfl ?_
  refine r_putr dJx4a65c_grow_92f84_56 ft_10_9 R1 rfl (N9_mono hu) hk (lb rfl) (fun h => by cases h) hA rfl rfl (by rw [N9_U, if_pos ⟨rfl, rfl⟩]) (fun _ R2 => ?_)
  exact w_aret (x := some _) dJx4a65c_grow_92f84_59 rfl (Or.inr ⟨_, rfl⟩) (q _ R2)
/-- a full list grows -/
theorem c_lgrow1 (R : rx_R b0 O z1 z2 s G) {r i : Nat} (hk : rx_k r = some (10, 3)) (hu : rU s r i = true) {a n : Nat} {f : Nat → Nat × Nat} (h1 : rX s r i 1 = .inr (9, a)) (hua : rU s 9 a = true) (hY : rY s 9 a = n) (hn1 : 1 ≤ n) (hn2 : n ≤ 600) (hq : ∀ j, j < n → rQ s 9 a j = some (f j)) (hfk : ∀ j, j < n → (f j).1 = 20 ∨ (f j).1 = 24 ∨ (f j).1 = 25 ∨ (f j).1 = 23) (q : ∀ G', rx_R b0 O (z1 + 1) (z2 + (n + max 1 (n / 2))) (sX (sN9 s G.2.1 (n + max 1 (n / 2)) (fun k => if k < n then rQ s 9 a k else none)) r i 1 (.inr (9, G.2.1))) G' → Q (.inl (some (.ref G.2.1))) G') : mx_W (gt_P b0 mi E) mJx4a65c_grow_92f84 0 (mx_en 0 [.ref (rA s r i), .int (nI (n + 1))]) [] G Q := by
  have ht : rx_t (rY s) 9 a = (4, n) := by show (4, rY s 9 a) = _; rw [hY]
  refine w_aload_n dJx4a65c_grow_92f84_0 rfl ?_
  refine r_getr dJx4a65c_grow_92f84_1 ft_10_9 R rfl hu hk (lb rfl) h1 ?_
  refine r_alen dJx4a65c_grow_92f84_4 R rfl hua rfl ht (lb rfl) ?_
  refine w_istore_n dJx4a65c_grow_92f84_5 (lb rfl) ?_
  refine w_iload_n dJx4a65c_grow_92f84_6 rfl ?_
  refine w_if_gt (t := 20) dJx4a65c_grow_92f84_7 rfl (fun _ => ?_) (fun h => absurd (nI_lt (a := 0) (b := n) (by omega) (by omega)) h)
  refine w_iload_n dJx4a65c_grow_92f84_20 rfl ?_
  refine w_iload_n dJx4a65c_grow_92f84_21 rfl ?_
  refine w_iload_n dJx4a65c_grow_92f84_22 rfl ?_
  refine w_isub dJx4a65c_grow_92f84_23 ?_
  rw [show nI (n + 1) - nI n = nI 1 by rw [← nI_add, Int32.add_comm, Int32.add_sub_cancel]]
  refine w_iload_n dJx4a65c_grow_92f84_24 rfl ?_
  refine w_iconst (v := 1) dJx4a65c_grow_92f84_25 (by decide) ?_
  refine w_ishr dJx4a65c_grow_92f84_26 ?_
  rw [nI_half (by omega)]
  refine r_stat3 dJx4a65c_grow_92f84_27 mt_10_73 (lb rfl) (lb rfl) (lb rfl) (lb rfl) rfl (c_newLength (by omega) (by omega) ⟨_, rfl, ?_⟩)
  refine w_istore_n dJx4a65c_grow_92f84_30 (lb rfl) ?_
  refine w_aload_n dJx4a65c_grow_92f84_31 rfl ?_
  refine w_aload_n dJx4a65c_grow_92f84_32 rfl ?_
  refine r_getr dJx4a65c_grow_92f84_33 ft_10_9 R rfl hu hk (lb rfl) h1 ?_
  refine w_iload_n dJx4a65c_grow_92f84_36 rfl ?_
  have hAd := (R.1 9 a hua).2
  have hcell : G.1 (rA s 9 a) = some (.inl (4, n, mx_aq (fun k => rx_o (rA s) (rQ s 9 a k)))) := rx_arr R hua rfl ht
  refine r_stat2 dJx4a65c_grow_92f84_37 mt_10_66 (lb rfl) (lb rfl) (lb rfl) (lb rfl) rfl (c_copyOf2 hcell hAd.1 hAd.2 R.2.2.2.2.2.1 (by omega) (by omega) (fun j hj y hy => ?_) (fun j hj y hy => ?_) ⟨_, rfl, ?_⟩)
  · rw [hq j hj] at hy
    cases hy
    obtain ⟨c, m, g1, g2⟩ := k_20 (hfk j hj)
    exact ⟨c, _, rx_obj R (R.2.2.2.1 9 a j _ hua (hq j hj)) g1, g2⟩
  · rw [hq j hj] at hy
    cases hy
    exact (R.1 _ _ (R.2.2.2.1 9 a j _ hua (hq j hj))).2.2
  · rw [mx_up_pu, show va_cpy (fun k => rx_o (rA s) (rQ s 9 a k)) (fun _ => none) 0 0 n = (fun k => rx_o (rA s) (if k < n then rQ s 9 a k else none)) by
      funext k
      simp only [va_cpy]
      by_cases h : k < n
      · rw [if_pos ⟨Nat.zero_le _, by omega⟩, if_pos h]; simp
      · rw [if_neg (by omega), if_neg h]; rfl]
    have R1 := rx_N9 R (cap := n + max 1 (n / 2)) (g := fun k => if k < n then rQ s 9 a k else none) (fun k q h => by
      by_cases e : k < n
      · simp only [if_pos e] at h; exact R.2.2.2.1 9 a k q hua h
      · simp only [if_neg e] at h; cases h)
    have hA : rA (sN9 s G.2.1 (n + max 1 (n / 2)) (fun k => if k < n then rQ s 9 a k else none)) 9 G.2.1 = G.2.1 := R.2.2.2.2.1 _
    refine w_dup_x1 dJx4a65c_grow_92f84_40 rfl rfl ?_
    refine r_putr dJx4a65c_grow_92f84_41 ft_10_9 R1 rfl (N9_mono hu) hk (lb rfl) (fun h => by cases h) hA rfl rfl (by rw [N9_U, if_pos ⟨rfl, rfl⟩]) (fun _ R2 => ?_)
    exact w_aret (x := some _) dJx4a65c_grow_92f84_44 rfl (Or.inr ⟨_, rfl⟩) (q _ R2)
theorem c_lgrowE0 (R : rx_R b0 O z1 z2 s G) {r i : Nat} (hk : rx_k r = some (10, 3)) (hu : rU s r i = true) {c6 : vp_A} (h6 : E 6 < b0) (hO : O (E 6) = some (.inl (4, 0, c6.2))) (h1 : rX s r i 1 = .inl (.ref (E 6))) (h2 : rX s r i 2 = .inl (.int (nI 0))) (q : ∀ G', rx_R b0 O (z1 + 1) (z2 + 10) (sX (sN9 s G.2.1 10 (fun _ => none)) r i 1 (.inr (9, G.2.1))) G' → Q (.inl (some (.ref G.2.1))) G') : mx_W (gt_P b0 mi E) mJx4a65c_grow_d5877 0 (mx_en 0 [.ref (rA s r i)]) [] G Q := by
  refine w_aload_n dJx4a65c_grow_d5877_0 rfl ?_
  refine w_aload_n dJx4a65c_grow_d5877_1 rfl ?_
  refine r_geti  dJx4a65c_grow_d5877_2 ft_10_48 R rfl hu hk (lb rfl) h2 ?_
  refine w_iconst (v := 1) dJx4a65c_grow_d5877_5 (by decide) ?_
  refine w_iadd dJx4a65c_grow_d5877_6 ?_
  rw [nI_1]
  refine r_inv1  dJx4a65c_grow_d5877_7 mt_10_69 R rfl hu hk (lb rfl) (lb rfl) (lb rfl) (lb rfl) rfl (c_lgrow0 R hk hu h6 hO h1 (fun G1 R1 => ⟨_, rfl, ?_⟩))
  exact w_aret (x := some _) dJx4a65c_grow_d5877_10 rfl (by first | exact Or.inl ⟨_, rfl⟩ | exact Or.inr ⟨_, rfl⟩) (q _ R1)
theorem c_lgrowE1 (R : rx_R b0 O z1 z2 s G) {r i : Nat} (hk : rx_k r = some (10, 3)) (hu : rU s r i = true) {a n : Nat} {f : Nat → Nat × Nat} (h1 : rX s r i 1 = .inr (9, a)) (h2 : rX s r i 2 = .inl (.int (nI n))) (hua : rU s 9 a = true) (hY : rY s 9 a = n) (hn1 : 1 ≤ n) (hn2 : n ≤ 600) (hq : ∀ j, j < n → rQ s 9 a j = some (f j)) (hfk : ∀ j, j < n → (f j).1 = 20 ∨ (f j).1 = 24 ∨ (f j).1 = 25 ∨ (f j).1 = 23) (q : ∀ G', rx_R b0 O (z1 + 1) (z2 + (n + max 1 (n / 2))) (sX (sN9 s G.2.1 (n + max 1 (n / 2)) (fun k => if k < n then rQ s 9 a k else none)) r i 1 (.inr (9, G.2.1))) G' → Q (.inl (some (.ref G.2.1))) G') : mx_W (gt_P b0 mi E) mJx4a65c_grow_d5877 0 (mx_en 0 [.ref (rA s r i)]) [] G Q := by
  refine w_aload_n dJx4a65c_grow_d5877_0 rfl ?_
  refine w_aload_n dJx4a65c_grow_d5877_1 rfl ?_
  refine r_geti  dJx4a65c_grow_d5877_2 ft_10_48 R rfl hu hk (lb rfl) h2 ?_
  refine w_iconst (v := 1) dJx4a65c_grow_d5877_5 (by decide) ?_
  refine w_iadd dJx4a65c_grow_d5877_6 ?_
  rw [nI_1]
  refine r_inv1  dJx4a65c_grow_d5877_7 mt_10_69 R rfl hu hk (lb rfl) (lb rfl) (lb rfl) (lb rfl) rfl (c_lgrow1 R hk hu h1 hua hY hn1 hn2 hq hfk (fun G1 R1 => ⟨_, rfl, ?_⟩))
  exact w_aret (x := some _) dJx4a65c_grow_d5877_10 rfl (by first | exact Or.inl ⟨_, rfl⟩ | exact Or.inr ⟨_, rfl⟩) (q _ R1)
end
