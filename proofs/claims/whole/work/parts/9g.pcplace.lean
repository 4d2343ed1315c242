/-! ===== Pure: places and veneers, as the class finds them ===== -/
theorem ofInt_i64 (v : Int) (h : -2 ^ 62 ≤ v) (h2 : v < 2 ^ 62) : (Int64.ofInt v).toInt = v := Int64.toInt_ofInt_of_le (by omega) (by omega)
theorem lN_ofI (n : Nat) : lN n = Int64.ofInt (n : Int) := by
  show Int64.ofNat n = _
  apply Int64.toBitVec_inj.mp
  simp
theorem i64_ofI (x : Int32) : x.toInt64 = Int64.ofInt x.toInt := by
  apply Int64.toInt_inj.mp
  have := Int32.toInt_lt x
  have := Int32.le_toInt x
  rw [Int32.toInt_toInt64, ofInt_i64 _ (by omega) (by omega)]
theorem upC {p a : Nat} (ha : a ≤ 8) (hp : p < 2 ^ 31) : (lN p + (lN (2 ^ a) - 1)) &&& ((lN (2 ^ a) - 1) ^^^ (-1)) = lN (upN p a) := by
  have key : ∀ (m : Int64) (a q : Nat), a ≤ 8 → q < 2 ^ 33 → (∀ i, i < 64 → (m ^^^ (-1)).toBitVec.getLsbD i = decide (a ≤ i)) → lN q &&& (m ^^^ (-1)) = lN (q / 2 ^ a * 2 ^ a) := by
    intro m a q ha hq hm
    apply Int64.toBitVec_inj.mp
    rw [Int64.toBitVec_and]
    apply BitVec.eq_of_getLsbD_eq
    intro i hi
    rw [BitVec.getLsbD_and, hm i hi]
    show ((BitVec.ofNat 64 q).getLsbD i && decide (a ≤ i)) = (BitVec.ofNat 64 (q / 2 ^ a * 2 ^ a)).getLsbD i
    rw [BitVec.getLsbD_ofNat, BitVec.getLsbD_ofNat, ← Nat.shiftRight_eq_div_pow, ← Nat.shiftLeft_eq, Nat.testBit_shiftLeft, Nat.testBit_shiftRight]
    simp only [hi, decide_true, Bool.true_and]
    by_cases h : a ≤ i
    · simp [h]
    · simp [h]
  have h : a = 0 ∨ a = 1 ∨ a = 2 ∨ a = 3 ∨ a = 4 ∨ a = 5 ∨ a = 6 ∨ a = 7 ∨ a = 8 := by omega
  have e : ∀ b : Nat, lN p + lN b = lN (p + b) := fun b => lN_add p b
  rcases h with rfl | rfl | rfl | rfl | rfl | rfl | rfl | rfl | rfl
  · rw [show lN (2 ^ 0) - 1 = lN 0 from rfl, e, key (lN 0) 0 (p + 0) (by omega) (by omega) (by decide)]; unfold upN; congr 1
  · rw [show lN (2 ^ 1) - 1 = lN 1 from rfl, e, key (lN 1) 1 (p + 1) (by omega) (by omega) (by decide)]; unfold upN; congr 1
  · rw [show lN (2 ^ 2) - 1 = lN 3 from rfl, e, key (lN 3) 2 (p + 3) (by omega) (by omega) (by decide)]; unfold upN; congr 1
  · rw [show lN (2 ^ 3) - 1 = lN 7 from rfl, e, key (lN 7) 3 (p + 7) (by omega) (by omega) (by decide)]; unfold upN; congr 1
  · rw [show lN (2 ^ 4) - 1 = lN 15 from rfl, e, key (lN 15) 4 (p + 15) (by omega) (by omega) (by decide)]; unfold upN; congr 1
  · rw [show lN (2 ^ 5) - 1 = lN 31 from rfl, e, key (lN 31) 5 (p + 31) (by omega) (by omega) (by decide)]; unfold upN; congr 1
  · rw [show lN (2 ^ 6) - 1 = lN 63 from rfl, e, key (lN 63) 6 (p + 63) (by omega) (by omega) (by decide)]; unfold upN; congr 1
  · rw [show lN (2 ^ 7) - 1 = lN 127 from rfl, e, key (lN 127) 7 (p + 127) (by omega) (by omega) (by decide)]; unfold upN; congr 1
  · rw [show lN (2 ^ 8) - 1 = lN 255 from rfl, e, key (lN 255) 8 (p + 255) (by omega) (by omega) (by decide)]; unfold upN; congr 1
/-- the number of a relocation's veneer within its section -/
def vnI (τ : tx_T) (S : vS) (k : Nat) : Int32 := match S.2 k with
  | none => -1
  | some i => nI ((S.1.take i).countP (fun e => Nat.beq e.1 (cl (tT τ 21 k))))
theorem vnI_none {τ : tx_T} {S : vS} (hl : S.1.length < 2 ^ 31) (k : Nat) : vnI τ S k = -1 ↔ S.2 k = none := by
  unfold vnI
  cases e : S.2 k with
  | none => simp
  | some i =>
    have h1 : (S.1.take i).countP (fun e => Nat.beq e.1 (cl (tT τ 21 k))) ≤ S.1.length := Nat.le_trans List.countP_le_length (by rw [List.length_take]; omega)
    constructor
    · intro h
      exfalso
      have e3 : (nI ((S.1.take i).countP (fun e => Nat.beq e.1 (cl (tT τ 21 k))))).toInt = (-1 : Int32).toInt := congrArg Int32.toInt h
      rw [nI_toInt (by omega)] at e3
      have : (-1 : Int32).toInt = -1 := by decide
      omega
    · intro h; cases h
theorem nv_app (V : List (Nat × Nat)) (x k y : Nat) : nvN (V ++ [(x, k)]) y = nvN V y + (if y = x then 1 else 0) := by
  unfold nvN
  rw [List.countP_append, List.countP_singleton]
  by_cases e : y = x
  · subst e; simp
  · have : Nat.beq x y = false := by
      cases h : Nat.beq x y
      · rfl
      · exact absurd (Nat.eq_of_beq_eq_true h).symm e
    simp [this, e]
/-- of one section, one target and one addend there is but one veneer -/
def vU (τ : tx_T) (S : vS) : Prop := ∀ i j, (hi : i < S.1.length) → (hj : j < S.1.length) → (S.1[i]).1 = (S.1[j]).1 → tT τ 25 (S.1[i]).2 = tT τ 25 (S.1[j]).2 → saB τ (cl (tT τ 24 (S.1[i]).2)) (cl (tT τ 24 (S.1[j]).2)) = true → i = j
theorem saB_iff {τ : tx_T} {p q : Nat} : saB τ p q = true ↔ aimI τ p = aimI τ q ∧ atI τ p = atI τ q ∧ offI τ p = offI τ q := by
  unfold saB; simp [and_assoc]
theorem saB_s {τ : tx_T} {p q : Nat} (h : saB τ p q = true) : saB τ q p = true := by
  rw [saB_iff] at h ⊢; exact ⟨h.1.symm, h.2.1.symm, h.2.2.symm⟩
theorem saB_t {τ : tx_T} {p q r : Nat} (h : saB τ p q = true) (h2 : saB τ q r = true) : saB τ p r = true := by
  rw [saB_iff] at h h2 ⊢; exact ⟨h.1.trans h2.1, h.2.1.trans h2.2.1, h.2.2.trans h2.2.2⟩
theorem vm_iff {τ : tx_T} {W : List (Nat × Nat)} {x k i : Nat} (h : i < W.length) : vmB τ W x k i = true ↔ (W[i]).1 = x ∧ tT τ 25 (W[i]).2 = tT τ 25 k ∧ saB τ (cl (tT τ 24 (W[i]).2)) (cl (tT τ 24 k)) = true := by
  rw [vmB_eq h]
  simp only [Bool.and_eq_true, beq_iff_eq, and_assoc]
  constructor
  · rintro ⟨h1, h2⟩; exact ⟨Nat.eq_of_beq_eq_true h1, h2⟩
  · rintro ⟨h1, h2⟩; exact ⟨by rw [h1]; simp, h2⟩
theorem vU_need {τ : tx_T} {S : vS} (h : vU τ S) {x k : Nat} : vU τ (vneed τ S x k) := by
  unfold vneed
  cases e : fst1 (vmB τ S.1 x k) S.1.length with
  | some i => exact h
  | none =>
    have hn := fst1_none.mp e
    have no : ∀ i, (hi : i < S.1.length) → ¬ ((S.1[i]).1 = x ∧ tT τ 25 (S.1[i]).2 = tT τ 25 k ∧ saB τ (cl (tT τ 24 (S.1[i]).2)) (cl (tT τ 24 k)) = true) := fun i hi q => by
      have := (vm_iff hi).mpr q
      rw [hn i hi] at this; cases this
    intro i j hi hj h1 h2 h3
    simp only [List.length_append, List.length_singleton] at hi hj
    by_cases ei : i < S.1.length
    · by_cases ej : j < S.1.length
      · simp only [List.getElem_append_left ei, List.getElem_append_left ej] at h1 h2 h3
        exact h i j ei ej h1 h2 h3
      · exfalso
        have ejl : j = S.1.length := by omega
        subst ejl
        simp only [List.getElem_append_left ei, List.getElem_concat_length] at h1 h2 h3
        exact no i ei ⟨h1, h2, h3⟩
    · have eil : i = S.1.length := by omega
      by_cases ej : j < S.1.length
      · exfalso
        subst eil
        simp only [List.getElem_append_left ej, List.getElem_concat_length] at h1 h2 h3
        exact no j ej ⟨h1.symm, h2.symm, saB_s h3⟩
      · omega
/-- one that is there already -/
theorem vf_some {τ : tx_T} {S : vS} (hQ : vQ τ S) (hU : vU τ S) {x k o i : Nat} (ho : tT τ 21 o = nI x) (hx : x < 2 ^ 31) (hx2 : ∀ i, (hi : i < S.1.length) → (S.1[i]).1 < 2 ^ 31) (h25 : tT τ 25 o = tT τ 25 k) (hs : saB τ (cl (tT τ 24 o)) (cl (tT τ 24 k)) = true) (h : S.2 o = some i) : fst1 (vmB τ S.1 x k) S.1.length = some i := by
  obtain ⟨hi, q1, q2, q3⟩ := hQ o i h
  have q1 : (S.1[i]).1 = x := by
    rw [ho] at q1
    have := congrArg cl q1
    rw [show cl (nI (S.1[i]).1) = _ from nI_clamp (hx2 i hi), show cl (nI x) = x from nI_clamp hx] at this
    exact this
  have hm : (S.1[i]).1 = x ∧ tT τ 25 (S.1[i]).2 = tT τ 25 k ∧ saB τ (cl (tT τ 24 (S.1[i]).2)) (cl (tT τ 24 k)) = true := ⟨q1, q2.trans h25, saB_t q3 hs⟩
  refine fst1_some.mpr ⟨hi, (vm_iff hi).mpr hm, fun j hj => ?_⟩
  cases e : vmB τ S.1 x k j
  · rfl
  · have hj2 : j < S.1.length := by omega
    obtain ⟨a1, a2, a3⟩ := (vm_iff hj2).mp e
    have := hU j i hj2 hi (a1.trans hm.1.symm) (a2.trans hm.2.1.symm) (saB_t a3 (saB_s hm.2.2))
    omega
/-- none is there -/
theorem vf_none {τ : tx_T} {S : vS} (hv : vV τ S) {x k : Nat} (h : ∀ o, o < tN τ 3 → tT τ 21 o = nI x → tT τ 25 o = tT τ 25 k → saB τ (cl (tT τ 24 o)) (cl (tT τ 24 k)) = true → S.2 o = none) : fst1 (vmB τ S.1 x k) S.1.length = none := by
  refine fst1_none.mpr (fun i hi => ?_)
  cases e : vmB τ S.1 x k i
  · rfl
  · obtain ⟨a1, a2, a3⟩ := (vm_iff hi).mp e
    obtain ⟨b1, b2, b3, b4⟩ := hv.1 i hi
    have := h _ b2 (by rw [b3, a1]) a2 a3
    rw [b4] at this; cases this
theorem vT_need {τ : tx_T} {w : Bool} {S : vS} (h : vT τ w S) {x k : Nat} (h3 : tT τ 23 k = 3) (hp : plB τ w (cl (tT τ 21 k)) = true) : vT τ w (vneed τ S x k) := by
  intro j i hj
  unfold vneed at hj
  by_cases e : j = k
  · subst e; exact ⟨h3, hp⟩
  · cases e2 : fst1 (vmB τ S.1 x k) S.1.length with
    | some i2 => rw [e2] at hj; simp only [if_neg e] at hj; exact h j i hj
    | none => rw [e2] at hj; simp only [if_neg e] at hj; exact h j i hj
/-- how a new number comes about -/
theorem vn_new {τ : tx_T} {S : vS} (hv : vV τ S) {x k : Nat} (hx : cl (tT τ 21 k) = x) (e : fst1 (vmB τ S.1 x k) S.1.length = none) : vnI τ (vneed τ S x k) k = nI (nvN S.1 x) ∧ (∀ j, j ≠ k → vnI τ (vneed τ S x k) j = vnI τ S j) ∧ (vneed τ S x k).1 = S.1 ++ [(x, k)] := by
  have e1 : vneed τ S x k = (S.1 ++ [(x, k)], fun j => if j = k then some S.1.length else S.2 j) := by unfold vneed; rw [e]
  rw [e1]
  refine ⟨?_, fun j hj => ?_, rfl⟩
  · unfold vnI
    simp only [if_pos]
    rw [List.take_left, hx]; rfl
  · unfold vnI
    simp only [if_neg hj]
    cases e2 : S.2 j with
    | none => rfl
    | some i =>
      simp only
      rw [List.take_append_of_le_length (by have := (hv.2.1 j i e2).1; omega)]
theorem vn_old {τ : tx_T} {S : vS} {x k i : Nat} (e : fst1 (vmB τ S.1 x k) S.1.length = some i) : (∀ j, j ≠ k → vnI τ (vneed τ S x k) j = vnI τ S j) ∧ (vneed τ S x k).1 = S.1 ∧ (vneed τ S x k).2 k = some i := by
  have e1 : vneed τ S x k = (S.1, fun j => if j = k then some i else S.2 j) := by unfold vneed; rw [e]
  rw [e1]
  refine ⟨fun j hj => ?_, rfl, if_pos rfl⟩
  unfold vnI
  simp only [if_neg hj]
/-- a section's relocations alone -/
noncomputable def vst2 (τ : tx_T) (w : Bool) (V : List (Nat × Nat)) (x : Nat) (S : vS) (k : Nat) : vS := bif (tT τ 23 k == 3) && (S.2 k).isNone && farB τ w V x k then vneed τ S x k else S
theorem vsec_L {τ : tx_T} {w : Bool} {V : List (Nat × Nat)} {S : vS} {x : Nat} (hp : plB τ w x = true) : vsec τ w V S x = fo (fun S j => vst2 τ w V x S (rlG τ x j)) S (rlN τ x) := by
  unfold vsec rlN
  rw [← fo_rl (x := x) (vst2 τ w V x) S (Nat.le_refl _)]
  refine fo_congr (fun S k _ => ?_) S
  unfold vstp vst2 rlB
  rw [hp]
  cases tT τ 21 k == nI x <;> simp
theorem vsec_no {τ : tx_T} {w : Bool} {V : List (Nat × Nat)} {S : vS} {x : Nat} (hp : plB τ w x = false) : vsec τ w V S x = S := by
  unfold vsec
  refine fo_id (fun S k => ?_) S _
  unfold vstp; rw [hp]; simp
