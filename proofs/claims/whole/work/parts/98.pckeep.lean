/-! ===== Pure: keeping, as the class does it ===== -/
theorem rlG_cnt {τ : tx_T} {x n : Nat} (hn : n < tN τ 3) (h : rlB τ x n = true) : rlG τ x (cnt (rlB τ x) n) = n ∧ cnt (rlB τ x) n < rlN τ x := by
  have h1 : cnt (rlB τ x) (n + 1) ≤ rlN τ x := cnt_mono (by omega)
  rw [cnt, h] at h1
  simp at h1
  obtain ⟨k, a1, a2, a3, a4⟩ := rlO_ex (τ := τ) (x := x) (i := cnt (rlB τ x) n) (by omega)
  have e : k = n := by
    rcases Nat.lt_trichotomy k n with e | e | e
    · have : cnt (rlB τ x) (k + 1) ≤ cnt (rlB τ x) n := cnt_mono (by omega)
      rw [cnt, a3] at this
      simp at this; omega
    · exact e
    · have : cnt (rlB τ x) (n + 1) ≤ cnt (rlB τ x) k := cnt_mono (by omega)
      rw [cnt, h] at this
      simp at this; omega
  refine ⟨?_, by omega⟩
  unfold rlG; rw [a1, e]; rfl
/-- over a section's relocations -/
theorem fo_rl {α : Type} {τ : tx_T} {x : Nat} (g : α → Nat → α) (a : α) {n : Nat} (hn : n ≤ tN τ 3) : fo (fun a k => bif rlB τ x k then g a k else a) a n = fo (fun a j => g a (rlG τ x j)) a (cnt (rlB τ x) n) := by
  induction n with
  | zero => rfl
  | succ n ih =>
    rw [fo, ih (by omega), cnt]
    cases e : rlB τ x n
    · simp
    · simp only [cond_true]
      rw [fo, (rlG_cnt (by omega) e).1]
theorem fo_id {α : Type} {f : α → Nat → α} (h : ∀ a k, f a k = a) (a : α) (n : Nat) : fo f a n = a := by
  induction n with
  | zero => rfl
  | succ n ih => rw [fo, ih, h]
theorem fo_congr {α : Type} {f g : α → Nat → α} {n : Nat} (h : ∀ a k, k < n → f a k = g a k) (a : α) : fo f a n = fo g a n := by
  induction n with
  | zero => rfl
  | succ n ih => rw [fo, fo, ih (fun a k hk => h a k (by omega)), h _ n (by omega)]
def ksL (τ : tx_T) (Q : kQ) (x n : Nat) : kQ := fo (fun Q j => kcb τ Q x (cl (tT τ 24 (rlG τ x j)))) Q n
theorem ks1_L (τ : tx_T) (Q : kQ) (x : Nat) : ks1 τ Q x (tN τ 3) = ksL τ Q x (rlN τ x) := fo_rl (fun Q k => kcb τ Q x (cl (tT τ 24 k))) Q (Nat.le_refl _)
/-- by the set whose number is v -/
def kset (τ : tx_T) (Q : kQ) (x : Nat) (v : Int32) (n : Nat) : kQ := fo (fun Q t => bif tT τ 9 t == v then kadd τ Q t (nI x) else Q) Q n
def kgrp (τ : tx_T) (Q : kQ) (x n : Nat) : kQ := fo (fun Q t => bif tT τ 10 t == tT τ 10 x then kadd τ Q t (nI x) else Q) Q n
theorem kcb_1 {τ : tx_T} {Q : kQ} {x y : Nat} (h : aimI τ y = 1) : kcb τ Q x y = kadd τ Q (cl (atI τ y)) (nI x) := by
  unfold kcb kc2 kc1
  rw [h]
  exact fo_id (fun a k => by simp) _ _
theorem kcb_0 {τ : tx_T} {Q : kQ} {x y : Nat} (h : aimI τ y = 0) : kcb τ Q x y = Q := by
  unfold kcb kc2 kc1
  rw [h]
  exact fo_id (fun a k => by simp) _ _
theorem kcb_2 {τ : tx_T} {Q : kQ} {x y : Nat} (h : aimI τ y = 2 ∨ aimI τ y = 3) : kcb τ Q x y = kset τ Q x (atI τ y) (tN τ 1) := by
  have h1 : (aimI τ y == 1) = false := by rcases h with h | h <;> rw [h] <;> decide
  have h2 : decide (1 < (aimI τ y).toInt) = true := by rcases h with h | h <;> rw [h] <;> decide
  unfold kcb kc2 kc1 kset
  rw [h1, h2]; rfl
theorem ks2_0 {τ : tx_T} {Q : kQ} {x n : Nat} (h : tT τ 10 x = -1) : ks2 τ Q x n = Q := by
  unfold ks2
  exact fo_id (fun a k => by simp [h]) _ _
theorem ks2_1 {τ : tx_T} {Q : kQ} {x n : Nat} (h : ¬ tT τ 10 x = -1) : ks2 τ Q x n = kgrp τ Q x n := by
  unfold ks2 kgrp
  have : (tT τ 10 x == -1) = false := by simpa using h
  rw [this]; rfl
/-- by whom, as the class holds it -/
def kbO (Q : kQ) (x : Nat) : Option Nat := if kby Q x = -1 then none else some (cl (kby Q x))
theorem oI_cl {o : Option Nat} (h : ∀ j, o = some j → j < 2 ^ 31) : (if oI o = -1 then none else some (cl (oI o))) = o := by
  cases o with
  | none => rfl
  | some j =>
    have hj := h j rfl
    rw [if_neg (fun e => by have := (oI_none h).mp e; cases this)]
    exact congrArg some (nI_clamp hj)
theorem kbO_app {Q : kQ} {x : Nat} {o : Option Nat} (y : Nat) (hx : kin Q x = false) (h : ∀ j, o = some j → j < 2 ^ 31) : kbO (Q ++ [(x, oI o)]) y = if y = x then o else kbO Q y := by
  unfold kbO
  rw [kby_app y hx]
  by_cases e : y = x
  · rw [if_pos e, if_pos e]; exact oI_cl h
  · rw [if_neg e, if_neg e]
theorem krk_kin {Q : kQ} (hl : Q.length < 2 ^ 31) (x : Nat) : krk Q x = -1 ↔ kin Q x = false := by
  unfold krk kin
  cases e : Q.findIdx? (fun e => Nat.beq e.1 x) with
  | none =>
    have := List.findIdx?_eq_none_iff.mp e
    simp only [true_iff]
    rw [List.any_eq_false]
    intro a ha; rw [this a ha]; simp
  | some i =>
    have h1 := List.findIdx?_eq_some_iff_getElem.mp e
    obtain ⟨h2, h3, _⟩ := h1
    constructor
    · intro e2
      exfalso
      have e3 : (nI i).toInt = (-1 : Int32).toInt := congrArg Int32.toInt e2
      rw [nI_toInt (by omega)] at e3
      have : (-1 : Int32).toInt = -1 := by decide
      omega
    · intro e2
      exfalso
      rw [List.any_eq_false] at e2
      exact e2 _ (List.getElem_mem h2) h3
theorem kby_nil (x : Nat) : kby [] x = -1 := rfl
theorem krk_nil (x : Nat) : krk [] x = -1 := rfl
theorem kadd_no {τ : tx_T} {Q : kQ} {x : Nat} {b : Int32} (h : kin Q x = true ∨ lostB τ x = true) : kadd τ Q x b = Q := by
  unfold kadd
  rcases h with h | h <;> rw [h] <;> simp
theorem kadd_yes {τ : tx_T} {Q : kQ} {x : Nat} {b : Int32} (h : kin Q x = false) (h2 : lostB τ x = false) : kadd τ Q x b = Q ++ [(x, b)] := by
  unfold kadd; rw [h, h2]; rfl
def kao (τ : tx_T) (Q : kQ) (o : Option Nat) (b : Int32) : kQ := match o with
  | none => Q
  | some x => kadd τ Q x b
theorem kcb_c {τ : tx_T} (hV : TV τ) {Q : kQ} {x y : Nat} (hy : y < tN τ 2) : (seI (tT τ 17 y) = -1 → kcb τ Q x y = kao τ Q (tgS τ y) (nI x)) ∧ (¬ seI (tT τ 17 y) = -1 → kcb τ Q x y = kset τ (kao τ Q (tgS τ y) (nI x)) x (seI (tT τ 17 y)) (tN τ 1)) := by
  rcases aim_4 hV hy with ⟨a1, a2, a3, a4, a5, a6, a7⟩ | ⟨a1, a2, a3, a4, a5, a6, a7⟩ | ⟨a1, a2, a3, a4, a5, a6, a7, a8, a9⟩ | ⟨a1, a2, a3, a4, a5, a6, a7, a8, a9⟩
  · exact ⟨fun _ => by rw [kcb_0 a1, a5]; rfl, fun h => absurd a4 h⟩
  · exact ⟨fun _ => by rw [kcb_1 a1, a5]; rfl, fun h => absurd a4 h⟩
  · exact ⟨fun h => absurd (a4.symm.trans h) a5, fun _ => by rw [kcb_2 (Or.inl a1), a6, a4]; rfl⟩
  · exact ⟨fun h => absurd (a4.symm.trans h) a5, fun _ => by rw [kcb_2 (Or.inr a1), a6, a4]; rfl⟩
theorem kV_set {τ : tx_T} {Q : kQ} (h : kV τ Q) {x n : Nat} {v : Int32} (hn : n ≤ tN τ 1) : kV τ (kset τ Q x v n) := kV_fo h (fun Q k hk h => by
  cases tT τ 9 k == v
  · exact h
  · exact kV_add h (by omega) _)
theorem kV_grp {τ : tx_T} {Q : kQ} (h : kV τ Q) {x n : Nat} (hn : n ≤ tN τ 1) : kV τ (kgrp τ Q x n) := kV_fo h (fun Q k hk h => by
  cases tT τ 10 k == tT τ 10 x
  · exact h
  · exact kV_add h (by omega) _)
theorem kV_ao {τ : tx_T} {Q : kQ} (h : kV τ Q) {o : Option Nat} (ho : ∀ j, o = some j → j < tN τ 1) (b : Int32) : kV τ (kao τ Q o b) := by
  cases o with
  | none => exact h
  | some x => exact kV_add h (ho x rfl) b
theorem kV_L {τ : tx_T} (hV : TV τ) {Q : kQ} (h : kV τ Q) {x n : Nat} (hn : n ≤ rlN τ x) : kV τ (ksL τ Q x n) := kV_fo h (fun Q k hk h => by
  have hy := rl_y hV (a := x) (i := k) (by omega)
  have ho : ∀ j, tgS τ (cl (tT τ 24 (rlG τ x k))) = some j → j < tN τ 1 := fun j hj => (tgS_lt hV hy hj).2.2
  by_cases e : seI (tT τ 17 (cl (tT τ 24 (rlG τ x k)))) = -1
  · rw [(kcb_c hV hy).1 e]; exact kV_ao h ho _
  · rw [(kcb_c hV hy).2 e]; exact kV_set (kV_ao h ho _) (Nat.le_refl _))
theorem kst_L (τ : tx_T) (Q : kQ) (x : Nat) : kst τ Q x = ks2 τ (ksL τ Q x (rlN τ x)) x (tN τ 1) := by unfold kst; rw [ks1_L]
