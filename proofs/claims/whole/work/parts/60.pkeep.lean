/-! ===== Pure: the rows of kept sections ===== -/
abbrev kQ : Type := List (Nat × Int32)
def fo {α : Type} (f : α → Nat → α) (a : α) : Nat → α
  | 0 => a
  | n + 1 => f (fo f a n) n
def kin (Q : kQ) (x : Nat) : Bool := Q.any (fun e => Nat.beq e.1 x)
def kadd (τ : tx_T) (Q : kQ) (x : Nat) (b : Int32) : kQ := bif kin Q x || lostB τ x then Q else Q ++ [(x, b)]
def kby (Q : kQ) (x : Nat) : Int32 := match Q.find? (fun e => Nat.beq e.1 x) with
  | none => -1
  | some e => e.2
def krk (Q : kQ) (x : Nat) : Int32 := match Q.findIdx? (fun e => Nat.beq e.1 x) with
  | none => -1
  | some i => nI i
def kp1 (τ : tx_T) (n : Nat) : kQ := fo (fun Q x => bif tT τ 8 x == 0 then Q else kadd τ Q x (-1)) [] n
def kp2 (τ : tx_T) (n : Nat) : kQ := fo (fun Q r => match defO τ (tT τ 27 r) with
  | none => Q
  | some d => kadd τ Q (cl (tT τ 17 d)) (-1)) (kp1 τ (tN τ 1)) n
/-- by a symbol: its section, or its set -/
def kc1 (τ : tx_T) (Q : kQ) (x y : Nat) : kQ := bif aimI τ y == 1 then kadd τ Q (cl (atI τ y)) (nI x) else Q
def kc2 (τ : tx_T) (Q : kQ) (x y n : Nat) : kQ := fo (fun Q t => bif decide (1 < (aimI τ y).toInt) && (tT τ 9 t == atI τ y) then kadd τ Q t (nI x) else Q) Q n
def kcb (τ : tx_T) (Q : kQ) (x y : Nat) : kQ := kc2 τ (kc1 τ Q x y) x y (tN τ 1)
def ks1 (τ : tx_T) (Q : kQ) (x n : Nat) : kQ := fo (fun Q k => bif tT τ 21 k == nI x then kcb τ Q x (cl (tT τ 24 k)) else Q) Q n
def ks2 (τ : tx_T) (Q : kQ) (x n : Nat) : kQ := fo (fun Q t => bif !(tT τ 10 x == -1) && (tT τ 10 t == tT τ 10 x) then kadd τ Q t (nI x) else Q) Q n
def kst (τ : tx_T) (Q : kQ) (x : Nat) : kQ := ks2 τ (ks1 τ Q x (tN τ 3)) x (tN τ 1)
def kit (τ : tx_T) : Nat → Nat → kQ → kQ
  | 0, _, Q => Q
  | f + 1, q, Q => match Q[q]? with
    | none => Q
    | some e => kit τ f (q + 1) (kst τ Q e.1)
def kR (τ : tx_T) : kQ := kit τ 61 0 (kp2 τ (tN τ 4))
/-- rows are of sections, each but once -/
def kV (τ : tx_T) (Q : kQ) : Prop := (∀ i, (h : i < Q.length) → (Q[i]).1 < tN τ 1) ∧ cnt (kin Q) (tN τ 1) = Q.length
theorem cnt_le (f : Nat → Bool) (n : Nat) : cnt f n ≤ n := by
  induction n with
  | zero => exact Nat.le_refl _
  | succ n ih => rw [cnt]; cases f n <;> simp <;> omega
theorem cnt_congr {f g : Nat → Bool} {n : Nat} (h : ∀ k, k < n → f k = g k) : cnt f n = cnt g n := by
  induction n with
  | zero => rfl
  | succ n ih => rw [cnt, cnt, ih (fun k hk => h k (by omega)), h n (by omega)]
theorem cnt_add {f g : Nat → Bool} {n x : Nat} (hx : x < n) (h0 : f x = false) (h1 : g x = true) (h : ∀ k, k ≠ x → g k = f k) : cnt g n = cnt f n + 1 := by
  induction n with
  | zero => omega
  | succ n ih =>
    rw [cnt, cnt]
    by_cases e : x = n
    · subst e
      rw [h0, h1, cnt_congr (fun k hk => h k (by omega))]; rfl
    · rw [ih (by omega), h n (by omega)]; omega
theorem kV_len {τ : tx_T} {Q : kQ} (h : kV τ Q) : Q.length ≤ tN τ 1 := by rw [← h.2]; exact cnt_le _ _
theorem kin_app (Q : kQ) (x : Nat) (b : Int32) (y : Nat) : kin (Q ++ [(x, b)]) y = (kin Q y || Nat.beq x y) := by
  unfold kin; rw [List.any_append]; simp
theorem kby_app {Q : kQ} {x : Nat} {b : Int32} (y : Nat) (hx : kin Q x = false) : kby (Q ++ [(x, b)]) y = if y = x then b else kby Q y := by
  unfold kby
  rw [List.find?_append]
  by_cases e : y = x
  · subst e
    rw [if_pos rfl]
    have : Q.find? (fun e => Nat.beq e.1 y) = none := by
      rw [List.find?_eq_none]
      intro a ha hb
      have : kin Q y = true := List.any_eq_true.mpr ⟨a, ha, hb⟩
      rw [hx] at this; cases this
    rw [this]; simp
  · rw [if_neg e]
    have hb : Nat.beq x y = false := by
      cases h : Nat.beq x y
      · rfl
      · exact absurd (Nat.eq_of_beq_eq_true h).symm e
    cases Q.find? (fun e => Nat.beq e.1 y) <;> simp [hb]
theorem krk_app {Q : kQ} {x : Nat} {b : Int32} (y : Nat) (hx : kin Q x = false) : krk (Q ++ [(x, b)]) y = if y = x then nI Q.length else krk Q y := by
  unfold krk
  rw [List.findIdx?_append]
  by_cases e : y = x
  · subst e
    rw [if_pos rfl]
    have : Q.findIdx? (fun e => Nat.beq e.1 y) = none := by
      rw [List.findIdx?_eq_none_iff]
      intro a ha
      cases hb : Nat.beq a.1 y
      · rfl
      · have : kin Q y = true := List.any_eq_true.mpr ⟨a, ha, hb⟩
        rw [hx] at this; cases this
    rw [this]; simp
  · rw [if_neg e]
    have hb : Nat.beq x y = false := by
      cases h : Nat.beq x y
      · rfl
      · exact absurd (Nat.eq_of_beq_eq_true h).symm e
    cases Q.findIdx? (fun e => Nat.beq e.1 y) <;> simp [hb]
theorem kV_add {τ : tx_T} {Q : kQ} (h : kV τ Q) {x : Nat} (hx : x < tN τ 1) (b : Int32) : kV τ (kadd τ Q x b) := by
  unfold kadd
  cases h1 : kin Q x || lostB τ x
  · rw [Bool.or_eq_false_iff] at h1
    refine ⟨fun i hi => ?_, ?_⟩
    · simp only [cond_false, List.length_append, List.length_cons, List.length_nil] at hi ⊢
      by_cases e : i < Q.length
      · rw [List.getElem_append_left e]; exact h.1 i e
      · rw [List.getElem_append_right (by omega)]
        simpa using hx
    · simp only [cond_false, List.length_append, List.length_cons, List.length_nil]
      rw [cnt_add hx h1.1 (by rw [kin_app]; simp) (fun k hk => by
        rw [kin_app]
        have : Nat.beq x k = false := by
          cases h : Nat.beq x k
          · rfl
          · exact absurd (Nat.eq_of_beq_eq_true h).symm hk
        rw [this]; simp), h.2]
  · exact h
theorem kV_fo {τ : tx_T} {f : kQ → Nat → kQ} {Q : kQ} {n : Nat} (h : kV τ Q) (hf : ∀ Q k, k < n → kV τ Q → kV τ (f Q k)) : kV τ (fo f Q n) := by
  induction n with
  | zero => exact h
  | succ n ih => exact hf _ n (by omega) (ih (fun Q k hk => hf Q k (by omega)))
theorem kV_nil (τ : tx_T) : kV τ [] := by
  refine ⟨fun i hi => absurd hi (Nat.not_lt_zero _), ?_⟩
  have : ∀ n, cnt (kin []) n = 0 := by
    intro n
    induction n with
    | zero => rfl
    | succ n ih => rw [cnt, ih]; rfl
  exact this _
theorem kV_1 {τ : tx_T} {n : Nat} (hn : n ≤ tN τ 1) : kV τ (kp1 τ n) := kV_fo (kV_nil τ) (fun Q k hk h => by
  cases tT τ 8 k == 0
  · exact kV_add h (by omega) _
  · exact h)
theorem isD_sec {τ : tx_T} (hV : TV τ) {n : Int32} {d : Nat} (hd : d < tN τ 2) (h : isD τ n d = true) : 0 ≤ (tT τ 17 d).toInt ∧ cl (tT τ 17 d) < tN τ 1 := by
  unfold isD at h
  simp only [Bool.and_eq_true, decide_eq_true_eq] at h
  have h1 := (hV.2.2.1 d hd).2.2.1
  have h2 := clI h.1.2
  exact ⟨h.1.2, by omega⟩
theorem kV_2 {τ : tx_T} (hV : TV τ) {n : Nat} : kV τ (kp2 τ n) := kV_fo (kV_1 (Nat.le_refl _)) (fun Q k hk h => by
  cases e : defO τ (tT τ 27 k) with
  | none => exact h
  | some d => exact kV_add h (isD_sec hV (defO_lt e).1 (defO_lt e).2).2 _)
/-- where a symbol leads, if to a place -/
theorem at_place {τ : tx_T} (hV : TV τ) {y : Nat} (hy : y < tN τ 2) (h : aimI τ y = 1) : ∃ d, tgO τ y = some d ∧ d < tN τ 2 ∧ atI τ y = tT τ 17 d ∧ 0 ≤ (tT τ 17 d).toInt ∧ cl (tT τ 17 d) < tN τ 1 := by
  unfold aimI at h
  by_cases h1 : (tT τ 17 y).toInt < -1
  · rw [if_pos h1] at h
    split at h <;> exact absurd h (by decide)
  · rw [if_neg h1] at h
    cases e : tgO τ y with
    | none => rw [e] at h; exact absurd h (by decide)
    | some d =>
      have hd := tgO_lt hy e
      refine ⟨d, rfl, hd, ?_, ?_⟩
      · unfold atI; rw [if_neg h1, e]
      · unfold tgO at e
        rw [if_neg h1] at e
        have hk := (hV.2.2.1 d hd)
        by_cases h2 : tT τ 19 y = 0
        · rw [if_pos h2] at e
          cases e
          have h3 : 0 ≤ (tT τ 17 y).toInt := by
            have h4 := hk.2.2.2.2.2.2.2.1
            by_cases h5 : (tT τ 17 y).toInt = -1
            · have := h4 h5
              rw [h2] at this; exact absurd this (by decide)
            · omega
          have := clI h3
          have := hk.2.2.1.2
          exact ⟨h3, by omega⟩
        · rw [if_neg h2] at e
          exact isD_sec hV hd (defO_lt e).2
theorem kV_c1 {τ : tx_T} (hV : TV τ) {Q : kQ} (h : kV τ Q) {x y : Nat} (hy : y < tN τ 2) : kV τ (kc1 τ Q x y) := by
  unfold kc1
  cases e : aimI τ y == 1
  · exact h
  · obtain ⟨d, _, h2, h3, h4, h5⟩ := at_place hV hy (beq_iff_eq.mp e)
    rw [h3]; exact kV_add h h5 _
theorem kV_c2 {τ : tx_T} {Q : kQ} (h : kV τ Q) {x y n : Nat} (hn : n ≤ tN τ 1) : kV τ (kc2 τ Q x y n) := kV_fo h (fun Q k hk h => by
  cases decide (1 < (aimI τ y).toInt) && (tT τ 9 k == atI τ y)
  · exact h
  · exact kV_add h (by omega) _)
theorem kV_s1 {τ : tx_T} (hV : TV τ) {Q : kQ} (h : kV τ Q) {x n : Nat} (hn : n ≤ tN τ 3) : kV τ (ks1 τ Q x n) := kV_fo h (fun Q k hk h => by
  cases tT τ 21 k == nI x
  · exact h
  · have h2 := (hV.2.2.2.1 k (by omega)).2.2.2.1
    have := clI h2.1
    exact kV_c2 (kV_c1 hV h (by omega)) (Nat.le_refl _))
theorem kV_s2 {τ : tx_T} {Q : kQ} (h : kV τ Q) {x n : Nat} (hn : n ≤ tN τ 1) : kV τ (ks2 τ Q x n) := kV_fo h (fun Q k hk h => by
  cases !(tT τ 10 x == -1) && (tT τ 10 k == tT τ 10 x)
  · exact h
  · exact kV_add h (by omega) _)
theorem kit_end {τ : tx_T} {f q : Nat} {Q : kQ} (h : Q.length ≤ q) : kit τ f q Q = Q := by
  cases f with
  | zero => rfl
  | succ f => rw [kit, List.getElem?_eq_none h]
theorem kit_step {τ : tx_T} {f q : Nat} {Q : kQ} (h : q < Q.length) : kit τ (f + 1) q Q = kit τ f (q + 1) (kst τ Q (Q[q]).1) := by
  rw [kit, List.getElem?_eq_getElem h]
/-- the model's rows -/
def KQ (s : rx_S) (τ : tx_T) (Q : kQ) : Prop := rX s 0 0 39 = .inl (.int (nI Q.length)) ∧ (∀ i, (h : i < Q.length) → rI s 1 38 i = nI (Q[i]).1) ∧ (∀ x, x < 60 → rI s 1 40 x = b32 (kin Q x)) ∧ (∀ x, x < 60 → rI s 1 41 x = kby Q x) ∧ (∀ x, x < 60 → rI s 1 42 x = krk Q x)
