/-! ===== Pure: kin. Each goes to the first that it is like ===== -/
def KF (K : Nat → Nat) (P : Nat → Nat → Prop) (x : Nat) : Prop := (K x = x ∧ ∀ j, j < x → K j = j → ¬ P j x) ∨ (K x < x ∧ K (K x) = K x ∧ P (K x) x ∧ ∀ j, j < K x → K j = j → ¬ P j x)
section
variable {n : Nat} {P : Nat → Nat → Prop} {K : Nat → Nat}
theorem KF_le {x : Nat} (h : KF K P x) : K x ≤ x ∧ K (K x) = K x ∧ (K x ≠ x → P (K x) x) := by
  rcases h with ⟨h1, h2⟩ | ⟨h1, h2, h3, h4⟩
  · exact ⟨by omega, by rw [h1, h1], fun e => absurd h1 e⟩
  · exact ⟨by omega, h2, fun _ => h3⟩
theorem KF_lt (hs : ∀ a b, a < n → b < n → P a b → P b a) (ht : ∀ a b c, a < n → b < n → c < n → a ≠ c → P a b → P b c → P a c) (hK : ∀ x, x < n → KF K P x) {j x : Nat} (hx : x < n) (hj : j < x) (h : P j x) : K x = K j := by
  obtain ⟨a1, a2, a3⟩ := KF_le (hK j (by omega))
  have hm : P (K j) x := by
    by_cases e : K j = j
    · rw [e]; exact h
    · exact ht (K j) j x (by omega) (by omega) hx (by omega) (a3 e) h
  rcases hK x hx with ⟨h1, h2⟩ | ⟨h1, h2, h3, h4⟩
  · exact absurd hm (h2 (K j) (by omega) a2)
  · by_cases e : K x = K j
    · exact e
    · exfalso
      by_cases e2 : K j < K x
      · exact h4 (K j) e2 a2 hm
      · have e3 : K x < K j := by omega
        have hp : P (K x) (K j) := ht (K x) x (K j) (by omega) hx (by omega) e h3 (hs _ _ (by omega) hx hm)
        rcases hK (K j) (by omega) with ⟨g1, g2⟩ | ⟨g1, g2, g3, g4⟩
        · exact g2 (K x) e3 h2 hp
        · omega
theorem KF_iff (hs : ∀ a b, a < n → b < n → P a b → P b a) (ht : ∀ a b c, a < n → b < n → c < n → a ≠ c → P a b → P b c → P a c) (hK : ∀ x, x < n → KF K P x) {x y : Nat} (hx : x < n) (hy : y < n) (hne : x ≠ y) : K x = K y ↔ P x y := by
  constructor
  · intro h
    obtain ⟨a1, a2, a3⟩ := KF_le (hK x hx)
    obtain ⟨b1, b2, b3⟩ := KF_le (hK y hy)
    by_cases e : K x = x
    · have := b3 (by omega)
      rw [← h, e] at this; exact this
    · by_cases e' : K y = y
      · have := a3 e
        rw [h, e'] at this
        exact hs _ _ hy hx this
      · have h1 := a3 e
        have h2 := b3 e'
        rw [← h] at h2
        exact ht x (K x) y hx (by omega) hy hne (hs _ _ (by omega) hx h1) h2
  · intro h
    by_cases e : x < y
    · exact (KF_lt hs ht hK hy e h).symm
    · exact KF_lt hs ht hK hx (by omega) (hs _ _ hx hy h)
end
theorem cnt_lt {f g : Nat → Bool} {n m : Nat} (h : ∀ k, k < n → f k = true → g k = true) (hm : m < n) (h0 : f m = false) (h1 : g m = true) : cnt f n < cnt g n := by
  induction n with
  | zero => omega
  | succ n ih =>
    have le : ∀ k, k ≤ n → cnt f k ≤ cnt g k := by
      intro k
      induction k with
      | zero => intro _; exact Nat.le_refl _
      | succ k ihk =>
        intro hk
        have := ihk (by omega)
        rw [cnt, cnt]
        cases e : f k
        · simp; omega
        · rw [h k (by omega) e]; simp; omega
    rw [cnt, cnt]
    by_cases e : m = n
    · subst e
      have := le m (Nat.le_refl _)
      rw [h0, h1]; simp; omega
    · have := ih (fun k hk => h k (by omega)) (by omega)
      cases e2 : f n
      · simp; omega
      · rw [h n (by omega) e2]; simp; omega
/-- parting makes more kinds -/
theorem KF_more {n : Nat} {K K' : Nat → Nat} {T : Nat → Nat → Prop} (hK : ∀ x, x < n → K x ≤ x ∧ K (K x) = K x) (hK' : ∀ x, x < n → KF K' (fun j x => K j = K x ∧ T j x) x) {x : Nat} (hx : x < n) (h : K' x ≠ K x) : cnt (fun x => Nat.beq (K x) x) n < cnt (fun x => Nat.beq (K' x) x) n := by
  obtain ⟨a1, a2, a3⟩ := KF_le (hK' x hx)
  have hm : K (K' x) = K x := by
    by_cases e : K' x = x
    · rw [e]
    · exact (a3 e).1
  refine cnt_lt (m := K' x) (fun k hk e => ?_) (by omega) ?_ ?_
  · have e : K k = k := Nat.eq_of_beq_eq_true e
    obtain ⟨b1, b2, b3⟩ := KF_le (hK' k hk)
    have : K' k = k := by
      by_cases e2 : K' k = k
      · exact e2
      · have h1 := (b3 e2).1
        have := (hK (K' k) (by omega)).1
        omega
    simp [this]
  · cases e : Nat.beq (K (K' x)) (K' x)
    · rfl
    · have := Nat.eq_of_beq_eq_true e
      rw [hm] at this; omega
  · simp [a2]
/-! ===== Pure: where symbols lead, as the class holds it ===== -/
def tgS (τ : tx_T) (k : Nat) : Option Nat := (tgO τ k).bind (fun d => hmO (tT τ 17 d))
def seI (x : Int32) : Int32 := if stI x = -1 then spI x else stI x
theorem tgS_1 {τ : tx_T} (hV : TV τ) {k : Nat} (hk : k < tN τ 2) (h : aimI τ k = 1) : tgS τ k = some (cl (atI τ k)) := by
  obtain ⟨d, h1, h2, h3, h4, h5⟩ := at_place hV hk h
  unfold tgS hmO
  rw [h1, h3]; simp [h4]
theorem tgO_none {τ : tx_T} {k : Nat} (h : ¬ aimI τ k = 1) : tgO τ k = none := by
  unfold aimI at h
  by_cases e : (tT τ 17 k).toInt < -1
  · unfold tgO; rw [if_pos e]
  · rw [if_neg e] at h
    cases e2 : tgO τ k with
    | none => rfl
    | some d => rw [e2] at h; exact absurd rfl h
theorem tgS_0 {τ : tx_T} {k : Nat} (h : ¬ aimI τ k = 1) : tgS τ k = none := by
  unfold tgS; rw [tgO_none h]; rfl
theorem off_0 {τ : tx_T} {k : Nat} (h : ¬ aimI τ k = 1) : offI τ k = 0 := by
  unfold offI; rw [tgO_none h]
theorem tgS_lt {τ : tx_T} (hV : TV τ) {k j : Nat} (hk : k < tN τ 2) (h : tgS τ k = some j) : aimI τ k = 1 ∧ j = cl (atI τ k) ∧ j < tN τ 1 := by
  by_cases e : aimI τ k = 1
  · rw [tgS_1 hV hk e] at h
    cases h
    exact ⟨e, rfl, at_lt hV hk e⟩
  · rw [tgS_0 e] at h; cases h
theorem i32n (k : Int) (h : -2147483648 ≤ k) (h2 : k < 2147483648) : (Int32.ofInt k).toInt = k := Int32.toInt_ofInt_of_le (by omega) (by omega)
theorem st_set {x : Int32} (h1 : -17 ≤ x.toInt) (h2 : x.toInt < -1) : (-10 < x.toInt → stI x = -2 - x ∧ spI x = -1 ∧ ¬ stI x = -1 ∧ (stI x).toInt = -2 - x.toInt) ∧ (x.toInt ≤ -10 → stI x = -1 ∧ spI x = -10 - x ∧ ¬ spI x = -1 ∧ (spI x).toInt = -10 - x.toInt) := by
  have m1 : (-1 : Int32).toInt = -1 := by decide
  have e1 : (-2 - x).toInt = -2 - x.toInt := by
    rw [Int32.toInt_sub, show (-2 : Int32).toInt = -2 by decide]
    exact Int.bmod_eq_of_le (by omega) (by omega)
  have e2 : (-10 - x).toInt = -10 - x.toInt ∨ True := Or.inr trivial
  constructor
  · intro h
    have s1 : stI x = -2 - x := by unfold stI; rw [if_neg (by omega), if_pos (by omega)]
    refine ⟨s1, by unfold spI; rw [if_neg (by omega)], fun e => ?_, by rw [s1, e1]⟩
    rw [s1] at e
    have := congrArg Int32.toInt e
    omega
  · intro h
    have e3 : (-10 - x).toInt = -10 - x.toInt := by
      rw [Int32.toInt_sub, show (-10 : Int32).toInt = -10 by decide]
      exact Int.bmod_eq_of_le (by omega) (by omega)
    have s1 : spI x = -10 - x := by unfold spI; rw [if_pos h]
    refine ⟨by unfold stI; rw [if_pos h], s1, fun e => ?_, by rw [s1, e3]⟩
    rw [s1] at e
    have := congrArg Int32.toInt e
    omega
theorem st_no {x : Int32} (h : -1 ≤ x.toInt) : stI x = -1 ∧ spI x = -1 ∧ seI x = -1 := by
  have a : stI x = -1 := by unfold stI; rw [if_neg (by omega), if_neg (by omega)]
  have b : spI x = -1 := by unfold spI; rw [if_neg (by omega)]
  exact ⟨a, b, by unfold seI; rw [a, b]; rfl⟩
/-- what a symbol leads to, case by case -/
theorem aim_4 {τ : tx_T} (hV : TV τ) {k : Nat} (hk : k < tN τ 2) : (aimI τ k = 0 ∧ stI (tT τ 17 k) = -1 ∧ spI (tT τ 17 k) = -1 ∧ seI (tT τ 17 k) = -1 ∧ tgS τ k = none ∧ offI τ k = 0 ∧ atI τ k = -1) ∨ (aimI τ k = 1 ∧ stI (tT τ 17 k) = -1 ∧ spI (tT τ 17 k) = -1 ∧ seI (tT τ 17 k) = -1 ∧ tgS τ k = some (cl (atI τ k)) ∧ cl (atI τ k) < tN τ 1 ∧ 0 ≤ (atI τ k).toInt) ∨ (aimI τ k = 2 ∧ stI (tT τ 17 k) = atI τ k ∧ spI (tT τ 17 k) = -1 ∧ seI (tT τ 17 k) = atI τ k ∧ ¬ atI τ k = -1 ∧ tgS τ k = none ∧ offI τ k = 0 ∧ 0 ≤ (atI τ k).toInt ∧ (atI τ k).toInt < 8) ∨ (aimI τ k = 3 ∧ stI (tT τ 17 k) = -1 ∧ spI (tT τ 17 k) = atI τ k ∧ seI (tT τ 17 k) = atI τ k ∧ ¬ atI τ k = -1 ∧ tgS τ k = none ∧ offI τ k = 0 ∧ 0 ≤ (atI τ k).toInt ∧ (atI τ k).toInt < 8) := by
  have hr := (hV.2.2.1 k hk).2.2.1
  by_cases e : (tT τ 17 k).toInt < -1
  · have ho := st_set hr.1 e
    by_cases e2 : -10 < (tT τ 17 k).toInt
    · have ha : aimI τ k = 2 := by unfold aimI; rw [if_pos e, if_pos e2]
      have hb : atI τ k = -2 - tT τ 17 k := by unfold atI; rw [if_pos e, if_pos e2]
      obtain ⟨o1, o2, o3, o4⟩ := ho.1 e2
      have n1 : ¬ aimI τ k = 1 := by rw [ha]; decide
      refine Or.inr (Or.inr (Or.inl ⟨ha, o1.trans hb.symm, o2, ?_, ?_, tgS_0 n1, off_0 n1, ?_, ?_⟩))
      · unfold seI; rw [if_neg o3, o1, hb]
      · rw [hb, ← o1]; exact o3
      · rw [hb, ← o1]; omega
      · rw [hb, ← o1]; omega
    · have ha : aimI τ k = 3 := by unfold aimI; rw [if_pos e, if_neg e2]
      have hb : atI τ k = -10 - tT τ 17 k := by unfold atI; rw [if_pos e, if_neg e2]
      obtain ⟨o1, o2, o3, o4⟩ := ho.2 (by omega)
      have n1 : ¬ aimI τ k = 1 := by rw [ha]; decide
      refine Or.inr (Or.inr (Or.inr ⟨ha, o1, o2.trans hb.symm, ?_, ?_, tgS_0 n1, off_0 n1, ?_, ?_⟩))
      · unfold seI; rw [if_pos o1, o2, hb]
      · rw [hb, ← o2]; exact o3
      · rw [hb, ← o2]; omega
      · rw [hb, ← o2]; omega
  · obtain ⟨o1, o2, o3⟩ := st_no (x := tT τ 17 k) (by omega)
    by_cases e1 : aimI τ k = 1
    · refine Or.inr (Or.inl ⟨e1, o1, o2, o3, tgS_1 hV hk e1, at_lt hV hk e1, ?_⟩)
      obtain ⟨d, h1, h2, h3, h4, h5⟩ := at_place hV hk e1
      rw [h3]; exact h4
    · have ht := tgO_none e1
      refine Or.inl ⟨?_, o1, o2, o3, tgS_0 e1, off_0 e1, ?_⟩
      · unfold aimI; rw [if_neg e, ht]
      · unfold atI; rw [if_neg e, ht]
theorem cl_eq {x y : Int32} (hx : 0 ≤ x.toInt) (hy : 0 ≤ y.toInt) : cl x = cl y ↔ x = y := ⟨cl_inj hx hy, fun e => by rw [e]⟩
/-- the same target -/
theorem ha_iff {τ : tx_T} (hV : TV τ) {k l : Nat} (hk : k < tN τ 2) (hl : l < tN τ 2) : (tgS τ k = tgS τ l ∧ stI (tT τ 17 k) = stI (tT τ 17 l) ∧ spI (tT τ 17 k) = spI (tT τ 17 l) ∧ offI τ k = offI τ l) ↔ saB τ k l = true := by
  have hs : saB τ k l = true ↔ aimI τ k = aimI τ l ∧ atI τ k = atI τ l ∧ offI τ k = offI τ l := by
    unfold saB; simp [and_assoc]
  rw [hs]
  have n01 : ¬ (0 : Int32) = 1 := by decide
  rcases aim_4 hV hk with ⟨a1, a2, a3, a4, a5, a6, a7⟩ | ⟨a1, a2, a3, a4, a5, a6, a7⟩ | ⟨a1, a2, a3, a4, a5, a6, a7, a8, a9⟩ | ⟨a1, a2, a3, a4, a5, a6, a7, a8, a9⟩ <;> rcases aim_4 hV hl with ⟨b1, b2, b3, b4, b5, b6, b7⟩ | ⟨b1, b2, b3, b4, b5, b6, b7⟩ | ⟨b1, b2, b3, b4, b5, b6, b7, b8, b9⟩ | ⟨b1, b2, b3, b4, b5, b6, b7, b8, b9⟩
  · simp [a1, a2, a3, a5, a6, a7, b1, b2, b3, b5, b6, b7]
  · simp [a1, a5, b1, b5]
  · have := b5; simp [a1, a2, a3, a5, a6, b1, b2, b3, b6, Ne.symm b5]
  · simp [a1, a2, a3, a5, a6, b1, b2, b3, b6, Ne.symm b5]
  · simp [a1, a5, b1, b5]
  · simp [a1, a2, a3, a5, b1, b2, b3, b5, cl_eq a7 b7]
  · simp [a1, a5, b1, b6]
  · simp [a1, a5, b1, b6]
  · simp [a1, a2, a3, a6, a7, b1, b2, b3, b5, b6, a5]
  · simp [a1, a6, b1, b5]
  · simp [a1, a2, a3, a6, a7, b1, b2, b3, b6, b7]
  · simp [a1, a2, a3, a6, b1, b2, b3, b6, a5]
  · simp [a1, a2, a3, a6, a7, b1, b2, b3, b5, b6, a5]
  · simp [a1, a6, b1, b5]
  · simp [a1, a2, a3, a6, b1, b2, b3, b6, Ne.symm b5]
  · simp [a1, a2, a3, a6, a7, b1, b2, b3, b6, b7]
/-! ===== Pure: kin are alike ===== -/
def rLL (τ : tx_T) (x y : Nat) : Prop := tT τ 22 x = tT τ 22 y ∧ tT τ 23 x = tT τ 23 y ∧ tT τ 25 x = tT τ 25 y ∧ (tgS τ (cl (tT τ 24 x)) = none ↔ tgS τ (cl (tT τ 24 y)) = none) ∧ stI (tT τ 17 (cl (tT τ 24 x))) = stI (tT τ 17 (cl (tT τ 24 y))) ∧ spI (tT τ 17 (cl (tT τ 24 x))) = spI (tT τ 17 (cl (tT τ 24 y))) ∧ offI τ (cl (tT τ 24 x)) = offI τ (cl (tT τ 24 y))
def LL (τ : tx_T) (a b : Nat) : Prop := stA τ a b ∧ ∀ i, i < rlN τ a → rLL τ (rlG τ a i) (rlG τ b i)
def PJ (τ : tx_T) (w : Bool) (a b : Nat) : Prop := mayB τ w a = true ∧ mayB τ w b = true ∧ LL τ a b
def TK (τ : tx_T) (K : Nat → Nat) (a b : Nat) : Prop := ∀ i, i < rlN τ a → i < rlN τ b → ∀ t t', tgS τ (cl (tT τ 24 (rlG τ a i))) = some t → tgS τ (cl (tT τ 24 (rlG τ b i))) = some t' → K t = K t'
def PP (τ : tx_T) (K : Nat → Nat) (a b : Nat) : Prop := K a = K b ∧ TK τ K a b
theorem rLL.s {τ : tx_T} {x y : Nat} (h : rLL τ x y) : rLL τ y x := ⟨h.1.symm, h.2.1.symm, h.2.2.1.symm, h.2.2.2.1.symm, h.2.2.2.2.1.symm, h.2.2.2.2.2.1.symm, h.2.2.2.2.2.2.symm⟩
theorem rLL.t {τ : tx_T} {x y z : Nat} (h : rLL τ x y) (g : rLL τ y z) : rLL τ x z := ⟨h.1.trans g.1, h.2.1.trans g.2.1, h.2.2.1.trans g.2.2.1, h.2.2.2.1.trans g.2.2.2.1, h.2.2.2.2.1.trans g.2.2.2.2.1, h.2.2.2.2.2.1.trans g.2.2.2.2.2.1, h.2.2.2.2.2.2.trans g.2.2.2.2.2.2⟩
theorem LL.s {τ : tx_T} {a b : Nat} (h : LL τ a b) : LL τ b a := ⟨stA_symm h.1, fun i hi => (h.2 i (by rw [h.1.2.2.2.1]; exact hi)).s⟩
theorem LL.t {τ : tx_T} {a b c : Nat} (h : LL τ a b) (g : LL τ b c) : LL τ a c := ⟨stA_trans h.1 g.1, fun i hi => (h.2 i hi).t (g.2 i (by rw [← h.1.2.2.2.1]; exact hi))⟩
theorem rl_y {τ : tx_T} (hV : TV τ) {a i : Nat} (h : i < rlN τ a) : cl (tT τ 24 (rlG τ a i)) < tN τ 2 := rl_lt hV (rlG_lt h).1
/-- as the reference has it -/
theorem rLL_pr {τ : tx_T} (hV : TV τ) {x y : Nat} (hx : cl (tT τ 24 x) < tN τ 2) (hy : cl (tT τ 24 y) < tN τ 2) {A : Nat → Nat → Prop} (h : prA τ A x y) : rLL τ x y := by
  obtain ⟨h1, h2, h3, h4, h5⟩ := h
  refine ⟨h1, h2, h3, ?_⟩
  rcases aim_4 hV hx with ⟨a1, a2, a3, a4, a5, a6, a7⟩ | ⟨a1, a2, a3, a4, a5, a6, a7⟩ | ⟨a1, a2, a3, a4, a5, a6, a7, a8, a9⟩ | ⟨a1, a2, a3, a4, a5, a6, a7, a8, a9⟩ <;> rcases aim_4 hV hy with ⟨b1, b2, b3, b4, b5, b6, b7⟩ | ⟨b1, b2, b3, b4, b5, b6, b7⟩ | ⟨b1, b2, b3, b4, b5, b6, b7, b8, b9⟩ | ⟨b1, b2, b3, b4, b5, b6, b7, b8, b9⟩ <;> first | (rw [a1, b1] at h4; exact absurd h4 (by decide)) | skip
  · simp [a2, a3, a5, a6, b2, b3, b5, b6]
  · have := (h5 (by rw [a1]; decide)).2
    simp [a2, a3, a5, b2, b3, b5, this]
  · have := (h5 (by rw [a1]; decide)).1
    rcases this with e | e
    · simp [a2, a3, a6, a7, b2, b3, b6, b7, e]
    · rw [a1] at e; exact absurd e.1 (by decide)
  · have := (h5 (by rw [a1]; decide)).1
    rcases this with e | e
    · simp [a2, a3, a6, a7, b2, b3, b6, b7, e]
    · rw [a1] at e; exact absurd e.1 (by decide)
theorem pr_rLL {τ : tx_T} (hV : TV τ) {x y : Nat} (hx : cl (tT τ 24 x) < tN τ 2) (hy : cl (tT τ 24 y) < tN τ 2) {A : Nat → Nat → Prop} (h : rLL τ x y) (hA : ∀ t t', tgS τ (cl (tT τ 24 x)) = some t → tgS τ (cl (tT τ 24 y)) = some t' → t = t' ∨ A t t') : prA τ A x y := by
  obtain ⟨h1, h2, h3, h4, h5, h6, h7⟩ := h
  refine ⟨h1, h2, h3, ?_⟩
  rcases aim_4 hV hx with ⟨a1, a2, a3, a4, a5, a6, a7⟩ | ⟨a1, a2, a3, a4, a5, a6, a7⟩ | ⟨a1, a2, a3, a4, a5, a6, a7, a8, a9⟩ | ⟨a1, a2, a3, a4, a5, a6, a7, a8, a9⟩ <;> rcases aim_4 hV hy with ⟨b1, b2, b3, b4, b5, b6, b7⟩ | ⟨b1, b2, b3, b4, b5, b6, b7⟩ | ⟨b1, b2, b3, b4, b5, b6, b7, b8, b9⟩ | ⟨b1, b2, b3, b4, b5, b6, b7, b8, b9⟩
  · exact ⟨a1.trans b1.symm, fun e => absurd a1 e⟩
  · rw [a5, b5] at h4; simp at h4
  · rw [a2, b2] at h5; exact absurd h5.symm b5
  · rw [a3, b3] at h6; exact absurd h6.symm b5
  · rw [a5, b5] at h4; simp at h4
  · refine ⟨a1.trans b1.symm, fun _ => ⟨?_, h7⟩⟩
    rcases hA _ _ a5 b5 with e | e
    · exact Or.inl (cl_inj a7 b7 e)
    · exact Or.inr ⟨a1, e⟩
  · rw [a2, b2] at h5; exact absurd h5.symm b5
  · rw [a3, b3] at h6; exact absurd h6.symm b5
  · rw [a2, b2] at h5; exact absurd h5 a5
  · rw [a2, b2] at h5; exact absurd h5 a5
  · exact ⟨a1.trans b1.symm, fun _ => ⟨Or.inl (by rw [a2, b2] at h5; exact h5), h7⟩⟩
  · rw [a2, b2] at h5; exact absurd h5 a5
  · rw [a3, b3] at h6; exact absurd h6 a5
  · rw [a3, b3] at h6; exact absurd h6 a5
  · rw [a2, b2] at h5; exact absurd h5.symm b5
  · exact ⟨a1.trans b1.symm, fun _ => ⟨Or.inl (by rw [a3, b3] at h6; exact h6), h7⟩⟩
def KI (τ : tx_T) (w : Bool) (K : Nat → Nat) : Prop := (∀ x, x < tN τ 1 → K x ≤ x ∧ K (K x) = K x) ∧ (∀ x y, x < tN τ 1 → y < tN τ 1 → x ≠ y → K x = K y → PJ τ w x y) ∧ (∀ x y, gA τ w x y → K x = K y)
theorem gA_LL {τ : tx_T} (hV : TV τ) {w : Bool} {x y : Nat} (h : gA τ w x y) : x < tN τ 1 ∧ y < tN τ 1 ∧ x ≠ y ∧ PJ τ w x y := by
  obtain ⟨h1, h2, ⟨h3, h4, h5, h6⟩, h7⟩ := gA_post h
  refine ⟨h1, h2, h3, h4, h5, h6, fun i hi => ?_⟩
  have hi' : i < rlN τ y := by rw [← h6.2.2.2.1]; exact hi
  exact rLL_pr hV (rl_y hV hi) (rl_y hV hi') (h7 i hi _ _ (rlG_lt hi).1 (rlG_lt hi').1)
theorem KI_join {τ : tx_T} (hV : TV τ) {w : Bool} {K : Nat → Nat} (hK : ∀ x, x < tN τ 1 → KF K (PJ τ w) x) : KI τ w K := by
  have hs : ∀ a b, a < tN τ 1 → b < tN τ 1 → PJ τ w a b → PJ τ w b a := fun a b _ _ h => ⟨h.2.1, h.1, h.2.2.s⟩
  have ht : ∀ a b c, a < tN τ 1 → b < tN τ 1 → c < tN τ 1 → a ≠ c → PJ τ w a b → PJ τ w b c → PJ τ w a c := fun a b c _ _ _ _ h g => ⟨h.1, g.2.1, h.2.2.t g.2.2⟩
  refine ⟨fun x hx => ⟨(KF_le (hK x hx)).1, (KF_le (hK x hx)).2.1⟩, fun x y hx hy hne e => (KF_iff hs ht hK hx hy hne).mp e, fun x y h => ?_⟩
  obtain ⟨h1, h2, h3, h4⟩ := gA_LL hV h
  exact (KF_iff hs ht hK h1 h2 h3).mpr h4
theorem PP_s {τ : tx_T} {K : Nat → Nat} {a b : Nat} (h : PP τ K a b) : PP τ K b a := ⟨h.1.symm, fun i h1 h2 t t' e1 e2 => (h.2 i h2 h1 t' t e2 e1).symm⟩
theorem PP_t {τ : tx_T} {w : Bool} {K : Nat → Nat} (hI : KI τ w K) {a b c : Nat} (ha : a < tN τ 1) (hb : b < tN τ 1) (h : PP τ K a b) (g : PP τ K b c) : PP τ K a c := by
  refine ⟨h.1.trans g.1, fun i h1 h2 t t' e1 e2 => ?_⟩
  by_cases e : a = b
  · subst e; exact g.2 i h1 h2 t t' e1 e2
  · have hl := (hI.2.1 a b ha hb e h.1).2.2
    have hi : i < rlN τ b := by rw [← hl.1.2.2.2.1]; exact h1
    cases e3 : tgS τ (cl (tT τ 24 (rlG τ b i))) with
    | none => rw [((hl.2 i h1).2.2.2.1).mpr e3] at e1; cases e1
    | some u => exact (h.2 i h1 hi t u e1 e3).trans (g.2 i hi h2 u t' e3 e2)
theorem KI_part {τ : tx_T} (hV : TV τ) {w : Bool} {K K' : Nat → Nat} (hI : KI τ w K) (hK : ∀ x, x < tN τ 1 → KF K' (PP τ K) x) : KI τ w K' := by
  have hs : ∀ a b, a < tN τ 1 → b < tN τ 1 → PP τ K a b → PP τ K b a := fun a b _ _ h => PP_s h
  have ht : ∀ a b c, a < tN τ 1 → b < tN τ 1 → c < tN τ 1 → a ≠ c → PP τ K a b → PP τ K b c → PP τ K a c := fun a b c ha hb _ _ h g => PP_t hI ha hb h g
  refine ⟨fun x hx => ⟨(KF_le (hK x hx)).1, (KF_le (hK x hx)).2.1⟩, fun x y hx hy hne e => hI.2.1 x y hx hy hne ((KF_iff hs ht hK hx hy hne).mp e).1, fun x y h => ?_⟩
  obtain ⟨h1, h2, h3, h4⟩ := gA_LL hV h
  refine (KF_iff hs ht hK h1 h2 h3).mpr ⟨hI.2.2 x y h, fun i hi hi' t t' e1 e2 => ?_⟩
  have hp := (gA_post h).2.2.2 i hi _ _ (rlG_lt hi).1 (rlG_lt hi').1
  obtain ⟨a1, a2, _⟩ := tgS_lt hV (rl_y hV hi) e1
  obtain ⟨b1, b2, _⟩ := tgS_lt hV (rl_y hV hi') e2
  rcases (hp.2.2.2.2 (by rw [a1]; decide)).1 with e | ⟨_, e⟩
  · rw [a2, b2, e]
  · rw [a2, b2]; exact hI.2.2 _ _ e
theorem KI_end {τ : tx_T} (hV : TV τ) {w : Bool} {K : Nat → Nat} (hI : KI τ w K) (hK : ∀ x, x < tN τ 1 → KF K (PP τ K) x) {x : Nat} (hx : x < tN τ 1) : inO τ w x = if K x = x then none else some (K x) := by
  have hs : ∀ a b, a < tN τ 1 → b < tN τ 1 → PP τ K a b → PP τ K b a := fun a b _ _ h => PP_s h
  have ht : ∀ a b c, a < tN τ 1 → b < tN τ 1 → c < tN τ 1 → a ≠ c → PP τ K a b → PP τ K b c → PP τ K a c := fun a b c ha hb _ _ h g => PP_t hI ha hb h g
  have hg : ∀ a b, a < tN τ 1 → b < tN τ 1 → a ≠ b → K a = K b → gA τ w a b := by
    intro a b ha hb hne he
    refine ⟨fun a b => a < tN τ 1 ∧ b < tN τ 1 ∧ a ≠ b ∧ K a = K b, ⟨ha, hb, hne, he⟩, fun x y h => ?_⟩
    obtain ⟨h1, h2, h3, h4⟩ := h
    have hj := hI.2.1 x y h1 h2 h3 h4
    have hp := (KF_iff hs ht hK h1 h2 h3).mp h4
    refine ⟨h1, h2, ⟨h3, hj.1, hj.2.1, hj.2.2.1⟩, fun i hi u v hu hv => ?_⟩
    have hi' : i < rlN τ y := by rw [← hj.2.2.1.2.2.2.1]; exact hi
    have eu : u = rlG τ x i := by have := (rlG_lt hi).1; rw [hu] at this; exact Option.some.inj this
    have ev : v = rlG τ y i := by have := (rlG_lt hi').1; rw [hv] at this; exact Option.some.inj this
    subst eu ev
    refine pr_rLL hV (rl_y hV hi) (rl_y hV hi') (hj.2.2.2 i hi) (fun t t' e1 e2 => ?_)
    by_cases e : t = t'
    · exact Or.inl e
    · exact Or.inr ⟨(tgS_lt hV (rl_y hV hi) e1).2.2, (tgS_lt hV (rl_y hV hi') e2).2.2, e, hp.2 i hi hi' t t' e1 e2⟩
  obtain ⟨a1, a2⟩ := hI.1 x hx
  have hno : ∀ a, a < K x → gB τ w a x = false := by
    intro a ha
    cases e : gB τ w a x
    · rfl
    · have h1 := hI.2.2 a x (gB_t.mp e)
      have h2 := (hI.1 a (by omega)).1
      omega
  by_cases e : K x = x
  · rw [if_pos e]
    refine fst1_none.mpr (fun a ha => hno a (by omega))
  · rw [if_neg e]
    refine fst1_some.mpr ⟨by omega, gB_t.mpr (hg (K x) x (by omega) hx e a2), hno⟩
/-! ===== Pure: a relocation more ===== -/
theorem fst1_congr {f g : Nat → Bool} {n : Nat} (h : ∀ k, k < n → f k = g k) : fst1 f n = fst1 g n := by
  induction n with
  | zero => rfl
  | succ n ih => rw [fst1, fst1, ih (fun k hk => h k (by omega)), h n (by omega)]
theorem rlN_add {τ τ' : tx_T} (hN : tN τ' 3 = tN τ 3 + 1) (hT : ∀ k, k < tN τ 3 → tT τ' 21 k = tT τ 21 k) (x : Nat) : rlN τ' x = rlN τ x + (bif tT τ' 21 (tN τ 3) == nI x then 1 else 0) := by
  unfold rlN
  rw [hN, cnt]
  congr 1
  exact cnt_congr (fun k hk => by unfold rlB; rw [hT k hk])
theorem rlG_old {τ τ' : tx_T} (hN : tN τ' 3 = tN τ 3 + 1) (hT : ∀ k, k < tN τ 3 → tT τ' 21 k = tT τ 21 k) {x j : Nat} (h : j < rlN τ x) : rlG τ' x j = rlG τ x j := by
  obtain ⟨k, h1, h2, h3, h4⟩ := rlO_ex h
  have hb : ∀ k, k < tN τ 3 → rlB τ' x k = rlB τ x k := fun k hk => by unfold rlB; rw [hT k hk]
  have e : rlO τ' x j = rlO τ x j := by
    unfold rlO at h1 ⊢
    rw [hN]
    have e2 : fst1 (fun k => rlB τ' x k && Nat.beq (cnt (rlB τ' x) k) j) (tN τ 3) = fst1 (fun k => rlB τ x k && Nat.beq (cnt (rlB τ x) k) j) (tN τ 3) := fst1_congr (fun k hk => by
      rw [hb k hk, cnt_congr (f := rlB τ' x) (g := rlB τ x) (fun i hi => hb i (by omega))])
    rw [fst1_s (e2.trans h1), h1]
  unfold rlG; rw [e]
theorem rlG_new {τ τ' : tx_T} (hN : tN τ' 3 = tN τ 3 + 1) (hT : ∀ k, k < tN τ 3 → tT τ' 21 k = tT τ 21 k) {x : Nat} (h : tT τ' 21 (tN τ 3) = nI x) : rlG τ' x (rlN τ x) = tN τ 3 := by
  have hb : ∀ k, k < tN τ 3 → rlB τ' x k = rlB τ x k := fun k hk => by unfold rlB; rw [hT k hk]
  have e : rlO τ' x (rlN τ x) = some (tN τ 3) := by
    unfold rlO
    rw [hN]
    refine fst1_some.mpr ⟨by omega, ?_, fun k hk => ?_⟩
    · have e1 : rlB τ' x (tN τ 3) = true := by unfold rlB; rw [h]; simp
      have e2 : cnt (rlB τ' x) (tN τ 3) = rlN τ x := cnt_congr (fun i hi => hb i hi)
      rw [e1, e2]; simp
    · cases e1 : rlB τ' x k
      · rfl
      · have e2 : cnt (rlB τ' x) k = cnt (rlB τ x) k := cnt_congr (fun i hi => hb i (by omega))
        have e3 : cnt (rlB τ x) (k + 1) ≤ rlN τ x := cnt_mono (by omega)
        rw [cnt, ← hb k hk, e1] at e3
        simp at e3
        rw [e2]
        have : Nat.beq (cnt (rlB τ x) k) (rlN τ x) = false := by
          cases e4 : Nat.beq (cnt (rlB τ x) k) (rlN τ x)
          · rfl
          · have := Nat.eq_of_beq_eq_true e4; omega
        rw [this]; rfl
  unfold rlG; rw [e]; rfl
