/-! ===== Pure: folding, as the class does it ===== -/
theorem a255m (x : Int32) : (x &&& 255).toBitVec.toNat = x.toBitVec.toNat % 256 := by
  rw [Int32.toBitVec_and]
  have e : (255 : Int32).toBitVec = 255#32 := rfl
  rw [e, BitVec.toNat_and]
  have : (255#32).toNat = 2 ^ 8 - 1 := rfl
  rw [this, Nat.and_two_pow_sub_one_eq_mod]
theorem i32_nat {x y : Int32} : x = y ↔ x.toBitVec.toNat = y.toBitVec.toNat := ⟨fun e => by rw [e], fun e => Int32.toBitVec_inj.mp (BitVec.eq_of_toNat_eq e)⟩
theorem seed_alike (a b : Int32) (k : Nat) : (a + nI k) &&& 255 = (b + nI k) &&& 255 ↔ a &&& 255 = b &&& 255 := by
  rw [i32_nat, i32_nat, a255m, a255m, a255m, a255m, Int32.toBitVec_add, Int32.toBitVec_add, BitVec.toNat_add, BitVec.toNat_add]
  omega
theorem xor255 (a b : Int32) : (a ^^^ b) &&& 255 = 0 ↔ a &&& 255 = b &&& 255 := by
  have e : (a ^^^ b) &&& 255 = (a &&& 255) ^^^ (b &&& 255) := by
    apply Int32.toBitVec_inj.mp
    rw [Int32.toBitVec_and, Int32.toBitVec_xor, Int32.toBitVec_xor, Int32.toBitVec_and, Int32.toBitVec_and]
    apply BitVec.eq_of_getLsbD_eq
    intro i hi
    simp only [BitVec.getLsbD_and, BitVec.getLsbD_xor]
    cases a.toBitVec.getLsbD i <;> cases b.toBitVec.getLsbD i <;> cases (255 : Int32).toBitVec.getLsbD i <;> rfl
  rw [e]
  constructor
  · intro h
    apply Int32.toBitVec_inj.mp
    have h2 := congrArg Int32.toBitVec h
    rw [Int32.toBitVec_xor] at h2
    apply BitVec.eq_of_getLsbD_eq
    intro i hi
    have h3 := congrArg (fun v => BitVec.getLsbD v i) h2
    simp only [BitVec.getLsbD_xor] at h3
    have h4 : (0 : Int32).toBitVec.getLsbD i = false := by
      have : (0 : Int32).toBitVec = 0#32 := rfl
      rw [this]; simp
    rw [h4] at h3
    cases e1 : (a &&& 255).toBitVec.getLsbD i <;> cases e2 : (b &&& 255).toBitVec.getLsbD i <;> rw [e1, e2] at h3 <;> first | rfl | cases h3
  · intro h; rw [h]
    apply Int32.toBitVec_inj.mp
    rw [Int32.toBitVec_xor]
    apply BitVec.eq_of_getLsbD_eq
    intro i hi
    have h4 : (0 : Int32).toBitVec.getLsbD i = false := by
      have : (0 : Int32).toBitVec = 0#32 := rfl
      rw [this]; simp
    rw [BitVec.getLsbD_xor, h4]; simp
/-- relocation j of section a takes the place of x -/
def FBp (τ : tx_T) (x a j : Nat) : Prop := tgS τ (cl (tT τ 24 (rlG τ a j))) = some x ∧ ¬ tT τ 23 (rlG τ a j) = 3
theorem may_iff {τ : tx_T} (hV : TV τ) {x : Nat} : mayB τ true x = true ↔ m0B τ true x = true ∧ ∀ a j, a < tN τ 1 → kin (kR τ) a = true → j < rlN τ a → ¬ FBp τ x a j := by
  unfold mayB
  rw [Bool.and_eq_true, Bool.not_eq_true', an_false]
  constructor
  · rintro ⟨h1, h2⟩
    refine ⟨h1, fun a j ha hk hj ⟨f1, f2⟩ => ?_⟩
    obtain ⟨g1, g2, g3⟩ := rlG_lt hj
    have hV0 := hV.1
    have h3 := h2 _ g2
    obtain ⟨b1, b2, b3⟩ := tgS_lt hV (rl_y hV hj) f1
    unfold fbB at h3
    rw [g3, show cl (nI a) = a from nI_clamp (by omega), hk, b1, ← b2] at h3
    have : (tT τ 23 (rlG τ a j) == 3) = false := by simpa using f2
    rw [this] at h3
    simp at h3
  · rintro ⟨h1, h2⟩
    refine ⟨h1, fun k hk => ?_⟩
    cases e : fbB τ x k
    · rfl
    · exfalso
      unfold fbB at e
      simp only [Bool.and_eq_true, Bool.not_eq_true', beq_iff_eq, beq_eq_false_iff_ne] at e
      obtain ⟨⟨⟨e1, e2⟩, e3⟩, e4⟩ := e
      have e4 := Nat.eq_of_beq_eq_true e4
      have h4 := hV.2.2.2.1 k hk
      have hc := clI h4.1.1
      have hcy := clI h4.2.2.2.1.1
      have hr : rlB τ (cl (tT τ 21 k)) k = true := by
        unfold rlB
        obtain ⟨j, hj, ej⟩ := nI_of (x := tT τ 21 k) (fun q => by have := i32lt.mp q; simp at this; omega)
        rw [ej, show cl (nI j) = j from nI_clamp hj]; simp
      obtain ⟨r1, r2⟩ := rlG_cnt hk hr
      refine h2 (cl (tT τ 21 k)) _ (by omega) e1 r2 ⟨?_, ?_⟩
      · rw [r1, tgS_1 hV (by omega) e2, e4]
      · rw [r1]; exact e3
theorem KF_congr {K K' : Nat → Nat} {P : Nat → Nat → Prop} {x : Nat} (h : KF K P x) (e : ∀ y, y ≤ x → K' y = K y) : KF K' P x := by
  have ex := e x (Nat.le_refl _)
  rcases h with ⟨h1, h2⟩ | ⟨h1, h2, h3, h4⟩
  · exact Or.inl ⟨ex.trans h1, fun j hj hk => h2 j hj (by rw [← e j (by omega)]; exact hk)⟩
  · refine Or.inr ⟨by rw [ex]; exact h1, ?_, by rw [ex]; exact h3, fun j hj hk => ?_⟩
    · rw [ex, e (K x) (by omega)]; exact h2
    · rw [ex] at hj
      exact h4 j hj (by rw [← e j (by omega)]; exact hk)
theorem KF_P {K : Nat → Nat} {P P' : Nat → Nat → Prop} {x : Nat} (h : KF K P x) (e : ∀ j, j < x → (P j x ↔ P' j x)) : KF K P' x := by
  rcases h with ⟨h1, h2⟩ | ⟨h1, h2, h3, h4⟩
  · exact Or.inl ⟨h1, fun j hj hk q => h2 j hj hk ((e j hj).mpr q)⟩
  · exact Or.inr ⟨h1, h2, (e _ h1).mp h3, fun j hj hk q => h4 j hj hk ((e j (by omega)).mpr q)⟩
theorem TK_congr {τ : tx_T} (hV : TV τ) {K K' : Nat → Nat} (e : ∀ y, y < tN τ 1 → K' y = K y) {a b : Nat} : TK τ K a b ↔ TK τ K' a b := by
  unfold TK
  constructor
  · intro h i h1 h2 t t' e1 e2
    rw [e t (tgS_lt hV (rl_y hV h1) e1).2.2, e t' (tgS_lt hV (rl_y hV h2) e2).2.2]; exact h i h1 h2 t t' e1 e2
  · intro h i h1 h2 t t' e1 e2
    rw [← e t (tgS_lt hV (rl_y hV h1) e1).2.2, ← e t' (tgS_lt hV (rl_y hV h2) e2).2.2]; exact h i h1 h2 t t' e1 e2
theorem inO_f (τ : tx_T) (x : Nat) : inO τ false x = none := by
  refine fst1_none.mpr (fun a _ => ?_)
  cases e : gB τ false a x
  · rfl
  · have := (gA_post (gB_t.mp e)).2.2.1.2.1
    unfold mayB m0B at this; simp at this
