/-! ===== A new object or array, at a role that was not in use ===== -/
def sNw (s : rx_S) (r i a n : Nat) (g : Nat → Value) : rx_S := ((fun r' i' => bif Nat.beq r' r && Nat.beq i' i then a else rA s r' i'), (fun r' i' => bif Nat.beq r' r && Nat.beq i' i then true else rU s r' i'), (fun r' i' f => bif Nat.beq r' r && Nat.beq i' i then .inl (g f) else rX s r' i' f), (fun r' i' k => bif Nat.beq r' r && Nat.beq i' i then 0 else rI s r' i' k), (fun r' i' k => bif Nat.beq r' r && Nat.beq i' i then 0 else rL s r' i' k), (fun r' i' k => bif Nat.beq r' r && Nat.beq i' i then none else rQ s r' i' k), (fun r' i' => bif Nat.beq r' r && Nat.beq i' i then n else rY s r' i'))
theorem lb9 {r : Nat} (h : Nat.beq r 9 = false) : r ≠ 9 := fun e => by rw [e] at h; cases h
section
variable {s : rx_S} {r i a n : Nat} {g : Nat → Value}
theorem Nw_A (r' i' : Nat) : rA (sNw s r i a n g) r' i' = if r' = r ∧ i' = i then a else rA s r' i' := b2_if _ _ _ _ _ _
theorem Nw_U (r' i' : Nat) : rU (sNw s r i a n g) r' i' = if r' = r ∧ i' = i then true else rU s r' i' := b2_if _ _ _ _ _ _
theorem Nw_X (r' i' f : Nat) : rX (sNw s r i a n g) r' i' f = if r' = r ∧ i' = i then .inl (g f) else rX s r' i' f := b2_if _ _ _ _ _ _
theorem Nw_I (r' i' f : Nat) : rI (sNw s r i a n g) r' i' f = if r' = r ∧ i' = i then 0 else rI s r' i' f := b2_if _ _ _ _ _ _
theorem Nw_L (r' i' f : Nat) : rL (sNw s r i a n g) r' i' f = if r' = r ∧ i' = i then 0 else rL s r' i' f := b2_if _ _ _ _ _ _
theorem Nw_Q (r' i' f : Nat) : rQ (sNw s r i a n g) r' i' f = if r' = r ∧ i' = i then none else rQ s r' i' f := b2_if _ _ _ _ _ _
theorem Nw_Y (r' i' : Nat) : rY (sNw s r i a n g) r' i' = if r' = r ∧ i' = i then n else rY s r' i' := b2_if _ _ _ _ _ _
theorem Nw_mono {r' i' : Nat} (h : rU s r' i' = true) : rU (sNw s r i a n g) r' i' = true := by rw [Nw_U]; split <;> simp [h]
theorem Nw_s : rU (sNw s r i a n g) r i = true := by rw [Nw_U, if_pos ⟨rfl, rfl⟩]
end
section
variable {b0 mi z1 z2 : Nat} {E : Nat → Nat} {O : Nat → Option mx_C} {s : rx_S} {G : mx_H} {M : mx_M} {pc : Nat} {L : mx_L} {st : List Value} {Q : mx_O → mx_H → Prop}
theorem rx_c_Nw (R : rx_R b0 O z1 z2 s G) {r i a n : Nat} {g : Nat → Value} (hu : rU s r i = false) {r' i' : Nat} (hu' : rU s r' i' = true) : rx_c (sNw s r i a n g) r' i' = rx_c s r' i' := by
  have hne : ¬ (r' = r ∧ i' = i) := fun e => by rw [e.1, e.2, hu] at hu'; cases hu'
  have hq : ∀ q : Nat × Nat, rU s q.1 q.2 = true → rA (sNw s r i a n g) q.1 q.2 = rA s q.1 q.2 := fun q h => by
    rw [Nw_A, if_neg (fun e => by rw [e.1, e.2, hu] at h; cases h)]
  have e1 : rx_t (rY (sNw s r i a n g)) r' i' = rx_t (rY s) r' i' := by
    unfold rx_t
    split
    · rfl
    · rw [Nw_Y, if_neg hne]
    · rfl
    · rw [Nw_Y, if_neg hne]
    · rfl
    · rfl
  have e2 : ∀ k, rx_o (rA (sNw s r i a n g)) (rQ (sNw s r i a n g) r' i' k) = rx_o (rA s) (rQ s r' i' k) := fun k => by
    rw [Nw_Q, if_neg hne]
    cases h : rQ s r' i' k with
    | none => rfl
    | some q => exact congrArg some (hq q (R.2.2.2.1 r' i' k q hu' h))
  have e3 : ∀ f, rx_v (rA (sNw s r i a n g)) (rX (sNw s r i a n g) r' i' f) = rx_v (rA s) (rX s r' i' f) := fun f => by
    rw [Nw_X, if_neg hne]
    cases h : rX s r' i' f with
    | inl v => rfl
    | inr q => exact congrArg Value.ref (hq q (R.2.2.1 r' i' f q hu' h))
  have e4 : rI (sNw s r i a n g) r' i' = rI s r' i' := by funext k; rw [Nw_I, if_neg hne]
  have e5 : rL (sNw s r i a n g) r' i' = rL s r' i' := by funext k; rw [Nw_L, if_neg hne]
  simp only [rx_c]
  cases hk : rx_k r' with
  | some q => simp only [e3]
  | none =>
    simp only [e1]
    congr 3
    simp only [rx_d, e2, e4, e5]
theorem rx_Nw (R : rx_R b0 O z1 z2 s G) {r i n m : Nat} {g : Nat → Value} {c : mx_C} (hr : r ≠ 9) (hu : rU s r i = false) (hc : rx_c (sNw s r i G.2.1 n g) r i = c) : rx_R b0 O (z1 + 1) (z2 + m) (sNw s r i G.2.1 n g) (mx_pu G c m) := by
  have h9 : ∀ q q', rU s q q' = true → ¬ (q = r ∧ q' = i) := fun q q' h e => by rw [e.1, e.2, hu] at h; cases h
  refine ⟨fun r' i' hu' => ?_, fun r' i' r2 i2 hu' hu2 he => ?_, fun r' i' f q hu' hq => ?_, fun r' i' k q hu' hq => ?_, fun k => ?_, ?_, ?_, ?_, fun a ha => ?_⟩
  · rw [Nw_U] at hu'
    by_cases e : r' = r ∧ i' = i
    · obtain ⟨rfl, rfl⟩ := e
      have ha : rA (sNw s r' i' G.2.1 n g) r' i' = G.2.1 := by rw [Nw_A, if_pos ⟨rfl, rfl⟩]
      refine ⟨?_, ?_, ?_⟩
      · rw [ha, mx_pu_s, hc]
      · rw [ha]; exact R.2.2.2.2.2.1
      · rw [ha]; exact Nat.lt_succ_self _
    · rw [if_neg e] at hu'
      obtain ⟨h1, h2, h3⟩ := R.1 r' i' hu'
      have ha : rA (sNw s r i G.2.1 n g) r' i' = rA s r' i' := by rw [Nw_A, if_neg e]
      rw [ha, rx_c_Nw R hu hu']
      refine ⟨?_, h2, Nat.lt_succ_of_lt h3⟩
      rw [mx_pu_n _ _ _ (by omega)]; exact h1
  · rw [Nw_U] at hu' hu2
    rw [Nw_A, Nw_A] at he
    by_cases e : r' = r ∧ i' = i
    · by_cases e' : r2 = r ∧ i2 = i
      · exact ⟨e.1.trans e'.1.symm, e.2.trans e'.2.symm⟩
      · rw [if_neg e'] at hu2
        rw [if_pos e, if_neg e'] at he
        have := (R.1 r2 i2 hu2).2.2
        omega
    · rw [if_neg e] at hu'
      by_cases e' : r2 = r ∧ i2 = i
      · rw [if_neg e, if_pos e'] at he
        have := (R.1 r' i' hu').2.2
        omega
      · rw [if_neg e'] at hu2
        rw [if_neg e, if_neg e'] at he
        exact R.2.1 r' i' r2 i2 hu' hu2 he
  · rw [Nw_U] at hu'
    by_cases e : r' = r ∧ i' = i
    · rw [Nw_X, if_pos e] at hq; cases hq
    · rw [if_neg e] at hu'
      rw [Nw_X, if_neg e] at hq
      exact Nw_mono (R.2.2.1 r' i' f q hu' hq)
  · rw [Nw_U] at hu'
    rw [Nw_Q] at hq
    by_cases e : r' = r ∧ i' = i
    · rw [if_pos e] at hq; cases hq
    · rw [if_neg e] at hu' hq
      exact Nw_mono (R.2.2.2.1 r' i' k q hu' hq)
  · rw [Nw_A, if_neg (fun e => hr e.1.symm)]; exact R.2.2.2.2.1 k
  · exact Nat.le_succ_of_le R.2.2.2.2.2.1
  · exact Nat.succ_le_succ R.2.2.2.2.2.2.1
  · exact Nat.add_le_add_right R.2.2.2.2.2.2.2.1 _
  · rw [mx_pu_n _ _ _ (by have := R.2.2.2.2.2.1; omega)]; exact R.2.2.2.2.2.2.2.2 a ha
theorem Nw_a {s : rx_S} {r i a n : Nat} {g : Nat → Value} : rA (sNw s r i a n g) r i = a := by rw [Nw_A, if_pos ⟨rfl, rfl⟩]
theorem r_new {j c : Nat} {fs : List Value} (r i : Nat) (g : Nat → Value) (hd : decode (mx_mb M) pc = .ok (.new j, 3)) (ht : mx_tn (gt_P b0 mi E) (mx_mc M) j = some (c, fs)) (R : rx_R b0 O z1 z2 s G) (hr : r ≠ 9) (hu : rU s r i = false) (hc : rx_c (sNw s r i G.2.1 0 g) r i = .inr (c, fs)) (k9 : ∀ G', rx_R b0 O (z1 + 1) (z2 + fs.length) (sNw s r i G.2.1 0 g) G' → mx_W (gt_P b0 mi E) M (pc + 3) L (.ref (rA (sNw s r i G.2.1 0 g) r i) :: st) G' Q) : mx_W (gt_P b0 mi E) M pc L st G Q := by
  refine w_new hd ht ?_
  have := k9 _ (rx_Nw R hr hu hc)
  rw [Nw_a] at this; exact this
theorem r_newi {n : Nat} (r i : Nat) (hd : decode (mx_mb M) pc = .ok (.newarray .int, 2)) (hn : n ≤ 1000000) (R : rx_R b0 O z1 z2 s G) (hr : r ≠ 9) (hu : rU s r i = false) (hc : rx_c (sNw s r i G.2.1 n (fun _ => .null)) r i = .inl (0, n, .inl (fun _ => 0))) (k9 : ∀ G', rx_R b0 O (z1 + 1) (z2 + n) (sNw s r i G.2.1 n (fun _ => .null)) G' → mx_W (gt_P b0 mi E) M (pc + 2) L (.ref (rA (sNw s r i G.2.1 n (fun _ => .null)) r i) :: st) G' Q) : mx_W (gt_P b0 mi E) M pc L (.int (nI n) :: st) G Q := by
  refine w_newa_int hd hn ?_
  have := k9 _ (rx_Nw R hr hu hc)
  rw [Nw_a] at this; exact this
theorem r_newl {n : Nat} (r i : Nat) (hd : decode (mx_mb M) pc = .ok (.newarray .long, 2)) (hn : n ≤ 1000000) (R : rx_R b0 O z1 z2 s G) (hr : r ≠ 9) (hu : rU s r i = false) (hc : rx_c (sNw s r i G.2.1 n (fun _ => .null)) r i = .inl (1, n, .inr (.inl (fun _ => 0)))) (k9 : ∀ G', rx_R b0 O (z1 + 1) (z2 + n) (sNw s r i G.2.1 n (fun _ => .null)) G' → mx_W (gt_P b0 mi E) M (pc + 2) L (.ref (rA (sNw s r i G.2.1 n (fun _ => .null)) r i) :: st) G' Q) : mx_W (gt_P b0 mi E) M pc L (.int (nI n) :: st) G Q := by
  refine w_newa_long hd hn ?_
  have := k9 _ (rx_Nw R hr hu hc)
  rw [Nw_a] at this; exact this
theorem r_newb {n : Nat} (r i : Nat) (hd : decode (mx_mb M) pc = .ok (.newarray .byte, 2)) (hn : n ≤ 1000000) (R : rx_R b0 O z1 z2 s G) (hr : r ≠ 9) (hu : rU s r i = false) (hc : rx_c (sNw s r i G.2.1 n (fun _ => .null)) r i = .inl (2, n, .inl (fun _ => 0))) (k9 : ∀ G', rx_R b0 O (z1 + 1) (z2 + n) (sNw s r i G.2.1 n (fun _ => .null)) G' → mx_W (gt_P b0 mi E) M (pc + 2) L (.ref (rA (sNw s r i G.2.1 n (fun _ => .null)) r i) :: st) G' Q) : mx_W (gt_P b0 mi E) M pc L (.int (nI n) :: st) G Q := by
  refine w_newa_byte hd hn ?_
  have := k9 _ (rx_Nw R hr hu hc)
  rw [Nw_a] at this; exact this
theorem r_newz {n : Nat} (r i : Nat) (hd : decode (mx_mb M) pc = .ok (.newarray .boolean, 2)) (hn : n ≤ 1000000) (R : rx_R b0 O z1 z2 s G) (hr : r ≠ 9) (hu : rU s r i = false) (hc : rx_c (sNw s r i G.2.1 n (fun _ => .null)) r i = .inl (3, n, .inl (fun _ => 0))) (k9 : ∀ G', rx_R b0 O (z1 + 1) (z2 + n) (sNw s r i G.2.1 n (fun _ => .null)) G' → mx_W (gt_P b0 mi E) M (pc + 2) L (.ref (rA (sNw s r i G.2.1 n (fun _ => .null)) r i) :: st) G' Q) : mx_W (gt_P b0 mi E) M pc L (.int (nI n) :: st) G Q := by
  refine w_newa_boolean hd hn ?_
  have := k9 _ (rx_Nw R hr hu hc)
  rw [Nw_a] at this; exact this
theorem r_newA {j t n : Nat} (r i : Nat) (hd : decode (mx_mb M) pc = .ok (.anewarray j, 3)) (ht : mx_ta (gt_P b0 mi E) (mx_mc M) j = some t) (hn : n ≤ 1000000) (R : rx_R b0 O z1 z2 s G) (hr : r ≠ 9) (hu : rU s r i = false) (hc : rx_c (sNw s r i G.2.1 n (fun _ => .null)) r i = .inl (t, n, mx_aq (fun _ => none))) (k9 : ∀ G', rx_R b0 O (z1 + 1) (z2 + n) (sNw s r i G.2.1 n (fun _ => .null)) G' → mx_W (gt_P b0 mi E) M (pc + 3) L (.ref (rA (sNw s r i G.2.1 n (fun _ => .null)) r i) :: st) G' Q) : mx_W (gt_P b0 mi E) M pc L (.int (nI n) :: st) G Q := by
  refine w_anew hd ht hn ?_
  have := k9 _ (rx_Nw R hr hu hc)
  rw [Nw_a] at this; exact this
end
