/-! ===== A new array of references, at the role that bears its address ===== -/
def sN9 (s : rx_S) (a cap : Nat) (g : Nat → Option (Nat × Nat)) : rx_S := (rA s, (fun r i => bif Nat.beq r 9 && Nat.beq i a then true else rU s r i), (fun r i f => bif Nat.beq r 9 && Nat.beq i a then .inl .null else rX s r i f), rI s, rL s, (fun r i k => bif Nat.beq r 9 && Nat.beq i a then g k else rQ s r i k), (fun r i => bif Nat.beq r 9 && Nat.beq i a then cap else rY s r i))
theorem b2_if {α : Type} (a b c d : Nat) (x y : α) : (bif Nat.beq a b && Nat.beq c d then x else y) = if a = b ∧ c = d then x else y := by
  by_cases h : a = b ∧ c = d
  · obtain ⟨rfl, rfl⟩ := h; simp
  · rw [if_neg h]
    have : (Nat.beq a b && Nat.beq c d) = false := by
      cases e : (Nat.beq a b && Nat.beq c d)
      · rfl
      · rw [Bool.and_eq_true] at e
        exact absurd ⟨Nat.eq_of_beq_eq_true e.1, Nat.eq_of_beq_eq_true e.2⟩ h
    rw [this]; rfl
theorem N9_U {s : rx_S} {a cap : Nat} {g : Nat → Option (Nat × Nat)} (r i : Nat) : rU (sN9 s a cap g) r i = if r = 9 ∧ i = a then true else rU s r i := b2_if _ _ _ _ _ _
theorem N9_Q {s : rx_S} {a cap : Nat} {g : Nat → Option (Nat × Nat)} (r i k : Nat) : rQ (sN9 s a cap g) r i k = if r = 9 ∧ i = a then g k else rQ s r i k := b2_if _ _ _ _ _ _
theorem N9_X {s : rx_S} {a cap : Nat} {g : Nat → Option (Nat × Nat)} (r i f : Nat) : rX (sN9 s a cap g) r i f = if r = 9 ∧ i = a then .inl .null else rX s r i f := b2_if _ _ _ _ _ _
theorem N9_Y {s : rx_S} {a cap : Nat} {g : Nat → Option (Nat × Nat)} (r i : Nat) : rY (sN9 s a cap g) r i = if r = 9 ∧ i = a then cap else rY s r i := b2_if _ _ _ _ _ _
theorem N9_mono {s : rx_S} {a cap : Nat} {g : Nat → Option (Nat × Nat)} {r i : Nat} (h : rU s r i = true) : rU (sN9 s a cap g) r i = true := by rw [N9_U]; split <;> simp [h]
section
variable {b0 mi z1 z2 : Nat} {E : Nat → Nat} {O : Nat → Option mx_C} {s : rx_S} {G : mx_H}
theorem rx_fr9 (R : rx_R b0 O z1 z2 s G) : rU s 9 G.2.1 = false := by
  cases e : rU s 9 G.2.1
  · rfl
  · have h := (R.1 9 G.2.1 e).2.2
    rw [R.2.2.2.2.1] at h; omega
theorem rx_c_N9 {a cap : Nat} {g : Nat → Option (Nat × Nat)} {r i : Nat} (h : ¬ (r = 9 ∧ i = a)) : rx_c (sN9 s a cap g) r i = rx_c s r i := by
  have e1 : rx_t (rY (sN9 s a cap g)) r i = rx_t (rY s) r i := by
    unfold rx_t
    split
    · rfl
    · rw [N9_Y, if_neg (fun e => h ⟨rfl, e.2⟩)]
    · rfl
    · rw [N9_Y, if_neg (by omega)]
    · rfl
    · rfl
  have e2 : ∀ k, rQ (sN9 s a cap g) r i k = rQ s r i k := fun k => by rw [N9_Q, if_neg h]
  have e3 : ∀ f, rX (sN9 s a cap g) r i f = rX s r i f := fun k => by rw [N9_X, if_neg h]
  simp only [rx_c]
  cases hk : rx_k r with
  | some q => simp only [e3]; rfl
  | none =>
    simp only [e1]
    congr 3
    simp only [rx_d, e2]
    rfl
theorem rx_N9 (R : rx_R b0 O z1 z2 s G) {cap : Nat} {g : Nat → Option (Nat × Nat)} (hg : ∀ k q, g k = some q → rU s q.1 q.2 = true) : rx_R b0 O (z1 + 1) (z2 + cap) (sN9 s G.2.1 cap g) (mx_pu G (.inl (4, cap, mx_aq (fun k => rx_o (rA s) (g k)))) cap) := by
  have hfr := rx_fr9 R
  refine ⟨fun r i hu => ?_, fun r i r' i' hu hu' he => ?_, fun r i f q hu hq => ?_, fun r i k q hu hq => ?_, R.2.2.2.2.1, ?_, ?_, ?_, fun a ha => ?_⟩
  · rw [N9_U] at hu
    by_cases e : r = 9 ∧ i = G.2.1
    · obtain ⟨rfl, rfl⟩ := e
      have ha : rA (sN9 s G.2.1 cap g) 9 G.2.1 = G.2.1 := R.2.2.2.2.1 _
      refine ⟨?_, ?_, ?_⟩
      · rw [ha, mx_pu_s]
        have e1 : rY (sN9 s G.2.1 cap g) 9 G.2.1 = cap := by rw [N9_Y, if_pos ⟨rfl, rfl⟩]
        have e2 : ∀ k, rQ (sN9 s G.2.1 cap g) 9 G.2.1 k = g k := fun k => by rw [N9_Q, if_pos ⟨rfl, rfl⟩]
        show some _ = some (Sum.inl (4, rY (sN9 s G.2.1 cap g) 9 G.2.1, mx_aq (fun k => rx_o (rA s) (rQ (sN9 s G.2.1 cap g) 9 G.2.1 k))))
        rw [e1]
        simp only [e2]
      · rw [ha]; exact R.2.2.2.2.2.1
      · rw [ha]; exact Nat.lt_succ_self _
    · rw [if_neg e] at hu
      obtain ⟨h1, h2, h3⟩ := R.1 r i hu
      refine ⟨?_, h2, Nat.lt_succ_of_lt h3⟩
      rw [rx_c_N9 e]
      show (mx_pu G _ cap).1 (rA s r i) = _
      rw [mx_pu_n _ _ _ (by omega)]; exact h1
  · rw [N9_U] at hu hu'
    have he : rA s r i = rA s r' i' := he
    by_cases e : r = 9 ∧ i = G.2.1
    · by_cases e' : r' = 9 ∧ i' = G.2.1
      · exact ⟨e.1.trans e'.1.symm, e.2.trans e'.2.symm⟩
      · rw [if_neg e'] at hu'
        have := (R.1 r' i' hu').2.2
        rw [← he, e.1, e.2, R.2.2.2.2.1] at this; omega
    · rw [if_neg e] at hu
      by_cases e' : r' = 9 ∧ i' = G.2.1
      · have := (R.1 r i hu).2.2
        rw [he, e'.1, e'.2, R.2.2.2.2.1] at this; omega
      · rw [if_neg e'] at hu'
        exact R.2.1 r i r' i' hu hu' he
  · rw [N9_U] at hu
    by_cases e : r = 9 ∧ i = G.2.1
    · rw [N9_X, if_pos e] at hq; cases hq
    · rw [if_neg e] at hu
      rw [N9_X, if_neg e] at hq
      exact N9_mono (R.2.2.1 r i f q hu hq)
  · rw [N9_U] at hu
    rw [N9_Q] at hq
    by_cases e : r = 9 ∧ i = G.2.1
    · rw [if_pos e] at hq; exact N9_mono (hg k q hq)
    · rw [if_neg e] at hu hq
      exact N9_mono (R.2.2.2.1 r i k q hu hq)
  · exact Nat.le_succ_of_le R.2.2.2.2.2.1
  · exact Nat.succ_le_succ R.2.2.2.2.2.2.1
  · exact Nat.add_le_add_right R.2.2.2.2.2.2.2.1 _
  · rw [mx_pu_n _ _ _ (by have := R.2.2.2.2.2.1; omega)]; exact R.2.2.2.2.2.2.2.2 a ha
theorem mx_up_pu (G : mx_H) (c d : mx_C) (n : Nat) : mx_up (mx_pu G c n) G.2.1 d = mx_pu G d n := by
  simp only [mx_up, mx_pu]
  congr 1
  funext b
  by_cases h : b = G.2.1 <;> simp [h]
end
