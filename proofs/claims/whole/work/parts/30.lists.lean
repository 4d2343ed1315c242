/-! ===== The JDK's lists, over the small machine ===== -/
theorem lb {a b : Nat} (h : Nat.ble a b = true) : a ≤ b := Nat.le_of_ble_eq_true h
theorem mx_uu (G : mx_H) (a : Nat) (c d : mx_C) : mx_up (mx_up G a c) a d = mx_up G a d := by
  simp only [mx_up]
  congr 1
  funext b
  by_cases h : b = a <;> simp [h]
theorem mx_uc (G : mx_H) {a b : Nat} (c d : mx_C) (h : a ≠ b) : mx_up (mx_up G a c) b d = mx_up (mx_up G b d) a c := by
  simp only [mx_up]
  congr 1
  funext q
  by_cases h1 : q = a
  · subst h1
    simp [h]
  · by_cases h2 : q = b
    · subst h2
      simp [h1]
    · simp [h1, h2]
/-- an object isn't an array, nor an object of another class -/
theorem mx_ne {G : mx_H} {a b : Nat} {x : Nat × vp_A} {y : Nat × List Value} (h1 : G.1 a = some (.inr y)) (h2 : G.1 b = some (.inl x)) : a ≠ b := fun e => by rw [e, h2] at h1; cases h1
theorem mx_nc {G : mx_H} {a b c d : Nat} {fs gs : List Value} (h1 : G.1 a = some (.inr (c, fs))) (h2 : G.1 b = some (.inr (d, gs))) (h : c ≠ d) : a ≠ b := fun e => by rw [e, h2] at h1; cases h1; exact h rfl
section
variable {b0 mi : Nat} {E : Nat → Nat} {G : mx_H} {Q : mx_O → mx_H → Prop}
theorem c_size {l : Nat} {mc : Int32} {ed : Value} {n : Int32} (hG : G.1 l = some (.inr (10, [.int mc, ed, .int n]))) (q : Q (.inl (some (.int n))) G) : mx_W (gt_P b0 mi E) mJx4a65c_size_8abf5 0 (mx_en 0 [.ref l]) [] G Q := by
  refine w_aload_n dJx4a65c_size_8abf5_0 rfl ?_
  refine w_get dJx4a65c_size_8abf5_1 ft_10_48 hG rfl ?_
  exact w_iret dJx4a65c_size_8abf5_4 rfl rfl q
theorem c_checkIndex3 {i n : Nat} {v : Value} (hi : i < n) (hn : n < 2 ^ 31) (q : Q (.inl (some (.int (nI i)))) G) : mx_W (gt_P b0 mi E) mJ3_checkIndex_8e157 0 (mx_en 0 [.int (nI i), .int (nI n), v]) [] G Q := by
  refine w_iload_n dJ3_checkIndex_8e157_0 rfl ?_
  refine w_if_lt (t := 9) dJ3_checkIndex_8e157_1 rfl (fun h => absurd h (nI_pos (by omega))) (fun _ => ?_)
  refine w_iload_n dJ3_checkIndex_8e157_4 rfl ?_
  refine w_iload_n dJ3_checkIndex_8e157_5 rfl ?_
  refine w_icmp_lt (t := 16) dJ3_checkIndex_8e157_6 rfl (fun _ => ?_) (fun h => absurd (nI_lt hi hn) h)
  refine w_iload_n dJ3_checkIndex_8e157_16 rfl ?_
  exact w_iret dJ3_checkIndex_8e157_17 rfl rfl q
theorem c_checkIndex {i n : Nat} (hi : i < n) (hn : n < 2 ^ 31) (q : Q (.inl (some (.int (nI i)))) G) : mx_W (gt_P b0 mi E) mJ15_checkIndex_7cf53 0 (mx_en 0 [.int (nI i), .int (nI n)]) [] G Q := by
  refine w_iload_n dJ15_checkIndex_7cf53_0 rfl ?_
  refine w_iload_n dJ15_checkIndex_7cf53_1 rfl ?_
  refine w_null dJ15_checkIndex_7cf53_2 ?_
  refine w_stat [.int (nI i), .int (nI n), .null] (rest := []) dJ15_checkIndex_7cf53_3 mt_18_105 rfl rfl (lb rfl) (lb rfl) (lb rfl) (lb rfl) rfl (c_checkIndex3 hi hn ⟨_, rfl, ?_⟩)
  exact w_iret dJ15_checkIndex_7cf53_6 rfl rfl q
theorem c_elementData {l ed i n : Nat} {mc : Int32} {sz : Value} {f : Nat → Option Nat} (hG : G.1 l = some (.inr (10, [.int mc, .ref ed, sz]))) (hA : G.1 ed = some (.inl (4, n, mx_aq f))) (hi : i < n) (hn : n < 2 ^ 31) (q : Q (.inl (some (va_rf (f i)))) G) : mx_W (gt_P b0 mi E) mJx4a65c_elementData_915e3 0 (mx_en 0 [.ref l, .int (nI i)]) [] G Q := by
  refine w_aload_n dJx4a65c_elementData_915e3_0 rfl ?_
  refine w_get dJx4a65c_elementData_915e3_1 ft_10_9 hG rfl ?_
  refine w_iload_n dJx4a65c_elementData_915e3_4 rfl ?_
  refine w_aald dJx4a65c_elementData_915e3_5 (Or.inl ⟨lb rfl, lb rfl⟩) hA hi hn ?_
  exact w_aret dJx4a65c_elementData_915e3_6 rfl (Or.inl ⟨_, rfl⟩) q
/-- get(i) -/
theorem c_get {l ed i n cap : Nat} {mc : Int32} {f : Nat → Option Nat} (hG : G.1 l = some (.inr (10, [.int mc, .ref ed, .int (nI n)]))) (hA : G.1 ed = some (.inl (4, cap, mx_aq f))) (hi : i < n) (hn : n ≤ cap) (hc : cap < 2 ^ 31) (q : Q (.inl (some (va_rf (f i)))) G) : mx_W (gt_P b0 mi E) mJx4a65c_get_915e3 0 (mx_en 0 [.ref l, .int (nI i)]) [] G Q := by
  refine w_iload_n dJx4a65c_get_915e3_0 rfl ?_
  refine w_aload_n dJx4a65c_get_915e3_1 rfl ?_
  refine w_get dJx4a65c_get_915e3_2 ft_10_48 hG rfl ?_
  refine w_stat [.int (nI i), .int (nI n)] (rest := []) dJx4a65c_get_915e3_5 mt_10_118 rfl rfl (lb rfl) (lb rfl) (lb rfl) (lb rfl) rfl (c_checkIndex hi (by omega) ⟨_, rfl, ?_⟩)
  refine w_pop dJx4a65c_get_915e3_8 rfl ?_
  refine w_aload_n dJx4a65c_get_915e3_9 rfl ?_
  refine w_iload_n dJx4a65c_get_915e3_10 rfl ?_
  refine w_inv [.int (nI i)] (rest := []) dJx4a65c_get_915e3_11 mt_10_123 hG rfl rfl (lb rfl) (lb rfl) (lb rfl) (lb rfl) rfl (c_elementData hG hA (by omega) hc ⟨_, rfl, ?_⟩)
  exact w_aret dJx4a65c_get_915e3_14 rfl (Or.inl ⟨_, rfl⟩) q
theorem c_newLength {o m p : Nat} (h1 : 0 < o + max m p) (h2 : o + max m p ≤ 2000000) (q : Q (.inl (some (.int (nI (o + max m p))))) G) : mx_W (gt_P b0 mi E) mJ8_newLength_cabcc 0 (mx_en 0 [.int (nI o), .int (nI m), .int (nI p)]) [] G Q := by
  refine w_iload_n dJ8_newLength_cabcc_0 rfl ?_
  refine w_iload_n dJ8_newLength_cabcc_1 rfl ?_
  refine w_iload_n dJ8_newLength_cabcc_2 rfl ?_
  refine w_max dJ8_newLength_cabcc_3 mt_19_194 (lb rfl) (lb rfl) (lb rfl) ?_
  have e : (if nI m < nI p then nI p else nI m) = nI (max m p) := by
    by_cases h : m < p
    · rw [if_pos (nI_lt h (by omega)), Nat.max_eq_right (by omega)]
    · rw [if_neg (nI_nlt (by omega) (by omega)), Nat.max_eq_left (by omega)]
  rw [e]
  refine w_iadd dJ8_newLength_cabcc_6 ?_
  rw [nI_add]
  refine w_istore_n dJ8_newLength_cabcc_7 (lb rfl) ?_
  refine w_iconst (v := 0) dJ8_newLength_cabcc_8 rfl ?_
  refine w_iload_n dJ8_newLength_cabcc_9 rfl ?_
  refine w_icmp_ge (t := 21) dJ8_newLength_cabcc_10 rfl (fun h => absurd h (nI_nle h1 (by omega))) (fun _ => ?_)
  refine w_iload_n dJ8_newLength_cabcc_13 rfl ?_
  refine w_ldc dJ8_newLength_cabcc_14 ct_19_200 ?_
  refine w_icmp_gt (t := 21) dJ8_newLength_cabcc_16 rfl (fun h => absurd h (show ¬ nI 2147483639 < nI (o + max m p) from nI_nlt (by omega) (by decide))) (fun _ => ?_)
  refine w_iload_n dJ8_newLength_cabcc_19 rfl ?_
  exact w_iret dJ8_newLength_cabcc_20 rfl rfl q
/-- Arrays.copyOf: a new array of n places -/
theorem c_copyOf3 {a cap n : Nat} {f : Nat → Option Nat} (hA : G.1 a = some (.inl (4, cap, mx_aq f))) (ha : b0 ≤ a) (hs : a < G.2.1) (h0 : b0 ≤ G.2.1) (hc : cap ≤ n) (hn : n ≤ 1000000) (hel : ∀ i, i < cap → ∀ y, f i = some y → ∃ c fs, G.1 y = some (.inr (c, fs)) ∧ gt_tg 4 c = true) (hlt : ∀ i, i < cap → ∀ y, f i = some y → y < G.2.1)
    (q : Q (.inl (some (.ref G.2.1))) (mx_up (mx_pu G (.inl (4, n, mx_aq (fun _ => none))) n) G.2.1 (.inl (4, n, mx_aq (va_cpy f (fun _ => none) 0 0 cap))))) : mx_W (gt_P b0 mi E) mJ7_copyOf_6403c 0 (mx_en 0 [.ref a, .int (nI n), .ref mi]) [] G Q := by
  refine w_aload_n dJ7_copyOf_6403c_0 rfl ?_
  refine w_ldcM dJ7_copyOf_6403c_1 ct_17_110 ?_
  refine w_acmp_ne (x := some mi) (y := some mi) (t := 13) dJ7_copyOf_6403c_3 rfl (fun h => absurd rfl h) (fun _ => ?_)
  refine w_iload_n dJ7_copyOf_6403c_6 rfl ?_
  refine w_anew dJ7_copyOf_6403c_7 at_17_2 hn ?_
  refine w_goto (t := 24) dJ7_copyOf_6403c_10 rfl ?_
  refine w_astore_n dJ7_copyOf_6403c_24 (lb rfl) ?_
  refine w_aload_n dJ7_copyOf_6403c_25 rfl ?_
  refine w_iconst (v := nI 0) dJ7_copyOf_6403c_26 rfl ?_
  refine w_aload_n dJ7_copyOf_6403c_27 rfl ?_
  refine w_iconst (v := nI 0) dJ7_copyOf_6403c_28 rfl ?_
  refine w_aload_n dJ7_copyOf_6403c_29 rfl ?_
  have hne : a ≠ G.2.1 := by omega
  have hA' : (mx_pu G (.inl (4, n, mx_aq (fun _ => none))) n).1 a = some (.inl (4, cap, mx_aq f)) := by rw [mx_pu_n _ _ _ hne]; exact hA
  refine w_alen dJ7_copyOf_6403c_30 hA' (Or.inl (lb rfl)) ?_
  refine w_iload_n dJ7_copyOf_6403c_31 rfl ?_
  refine w_min dJ7_copyOf_6403c_32 mt_17_304 (lb rfl) (lb rfl) (lb rfl) ?_
  rw [if_neg (nI_nlt hc (by omega))]
  refine w_copy (sp := 0) (dp := 0) (n := cap) dJ7_copyOf_6403c_35 mt_17_150 hA' (mx_pu_s _ _ _) ha h0 (by omega) (by omega) (by omega) (by omega) (fun i hi y hy => ?_) (lb rfl) (lb rfl) (lb rfl) ?_
  · rw [Nat.zero_add] at hy
    obtain ⟨c, fs, g1, g2⟩ := hel i hi y hy
    exact ⟨c, fs, by rw [mx_pu_n _ _ _ (by have := hlt i hi y hy; omega)]; exact g1, g2⟩
  refine w_aload_n dJ7_copyOf_6403c_38 rfl ?_
  exact w_aret (x := some G.2.1) dJ7_copyOf_6403c_39 rfl (Or.inr ⟨_, rfl⟩) q
theorem c_copyOf2 {a cap n : Nat} {f : Nat → Option Nat} (hA : G.1 a = some (.inl (4, cap, mx_aq f))) (ha : b0 ≤ a) (hs : a < G.2.1) (h0 : b0 ≤ G.2.1) (hc : cap ≤ n) (hn : n ≤ 1000000) (hel : ∀ i, i < cap → ∀ y, f i = some y → ∃ c fs, G.1 y = some (.inr (c, fs)) ∧ gt_tg 4 c = true) (hlt : ∀ i, i < cap → ∀ y, f i = some y → y < G.2.1)
    (q : Q (.inl (some (.ref G.2.1))) (mx_up (mx_pu G (.inl (4, n, mx_aq (fun _ => none))) n) G.2.1 (.inl (4, n, mx_aq (va_cpy f (fun _ => none) 0 0 cap))))) : mx_W (gt_P b0 mi E) mJ7_copyOf_1904c 0 (mx_en 0 [.ref a, .int (nI n)]) [] G Q := by
  refine w_aload_n dJ7_copyOf_1904c_0 rfl ?_
  refine w_iload_n dJ7_copyOf_1904c_1 rfl ?_
  refine w_aload_n dJ7_copyOf_1904c_2 rfl ?_
  refine w_getClass dJ7_copyOf_1904c_3 mt_17_86 hA (lb rfl) (lb rfl) (lb rfl) ?_
  refine w_stat [.ref a, .int (nI n), .ref mi] (rest := []) dJ7_copyOf_1904c_6 mt_17_300 rfl rfl (lb rfl) (lb rfl) (lb rfl) (lb rfl) rfl (c_copyOf3 hA ha hs h0 hc hn hel hlt ⟨_, rfl, ?_⟩)
  exact w_aret (x := some G.2.1) dJ7_copyOf_1904c_9 rfl (Or.inr ⟨_, rfl⟩) q
end
