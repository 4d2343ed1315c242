/-! ===== The heap by roles: what lies at a role's address. A value is a value of the machine, or the role of an object. A state: addresses, roles in use, fields, contents of arrays of ints (also bytes and booleans), of longs, of references, lengths ===== -/
abbrev rx_V : Type := Value ⊕ (Nat × Nat)
abbrev rx_S : Type := (Nat → Nat → Nat) × (Nat → Nat → Bool) × (Nat → Nat → Nat → rx_V) × (Nat → Nat → Nat → Int32) × (Nat → Nat → Nat → Int64) × (Nat → Nat → Nat → Option (Nat × Nat)) × (Nat → Nat → Nat)
abbrev rA (s : rx_S) : Nat → Nat → Nat := s.1
abbrev rU (s : rx_S) : Nat → Nat → Bool := s.2.1
abbrev rX (s : rx_S) : Nat → Nat → Nat → rx_V := s.2.2.1
abbrev rI (s : rx_S) : Nat → Nat → Nat → Int32 := s.2.2.2.1
abbrev rL (s : rx_S) : Nat → Nat → Nat → Int64 := s.2.2.2.2.1
abbrev rQ (s : rx_S) : Nat → Nat → Nat → Option (Nat × Nat) := s.2.2.2.2.2.1
abbrev rY (s : rx_S) : Nat → Nat → Nat := s.2.2.2.2.2.2
/-- objects: class, number of fields. 0 the model; 2 the garden, 3 told, 4 names, 5 keeping, 6 folding, 7 placing, 8 told's lists and the rows, 20 sections, 21 their lists, 22 their lists of patches, 23 patches (64 * p + i: the section i's patch p), 24 symbols, 25 relocations -/
def rx_k : Nat → Option (Nat × Nat)
  | 0 => some (9, 54)
  | 2 => some (8, 8)
  | 3 => some (7, 8)
  | 4 => some (2, 2)
  | 5 => some (1, 1)
  | 6 => some (0, 1)
  | 7 => some (3, 7)
  | 8 => some (10, 3)
  | 20 => some (5, 20)
  | 21 => some (10, 3)
  | 22 => some (10, 3)
  | 23 => some (11, 2)
  | 24 => some (6, 9)
  | 25 => some (4, 6)
  | _ => none
/-- arrays of the model by field: type, length -/
def rx_m (k : Nat) : Nat × Nat := [(0, 0), (0, 0), (0, 0), (0, 60), (0, 60), (0, 60), (0, 60), (0, 60), (3, 60), (0, 60), (0, 60), (0, 60000), (0, 0), (0, 0), (0, 0), (0, 120), (0, 120), (0, 120), (0, 120), (0, 120), (0, 0), (0, 200), (0, 200), (0, 200), (0, 200), (0, 200), (0, 0), (0, 8), (1, 4), (0, 0), (0, 0), (0, 0), (0, 0), (3, 60), (0, 64), (0, 120), (0, 120), (0, 120), (0, 60), (0, 0), (3, 60), (0, 60), (0, 60), (0, 60), (3, 60), (3, 3600), (1, 60), (1, 4), (1, 4), (0, 0), (0, 0), (0, 200), (0, 200), (0, 200)].getD k (0, 0)
/-- the garden's arrays: roots, bases, first objects, definitions, begins, ends, has sections, starts, stops -/
def rx_g (k : Nat) : Nat × Nat := [(0, 8), (0, 4), (0, 16), (5, 64), (1, 4), (1, 4), (3, 4), (1, 8), (1, 8)].getD k (0, 0)
/-- arrays: type, length: 1 the model's, 10 the garden's, 9 the lists', 26 the law's -/
def rx_t (y : Nat → Nat → Nat) (r i : Nat) : Nat × Nat := match r with
  | 1 => rx_m i
  | 9 => (4, y 9 i)
  | 10 => rx_g i
  | 23 => (2, y 23 i)
  | 26 => (1, 1)
  | _ => (0, 0)
def rx_v (A : Nat → Nat → Nat) : rx_V → Value
  | .inl v => v
  | .inr q => .ref (A q.1 q.2)
def rx_o (A : Nat → Nat → Nat) : Option (Nat × Nat) → Option Nat
  | none => none
  | some q => some (A q.1 q.2)
def rx_d (s : rx_S) (t r i : Nat) : (Nat → Int32) ⊕ (Nat → Int64) ⊕ (Nat → UInt32) ⊕ (Nat → UInt64) ⊕ (Nat → Option Nat) := match t with
  | 0 => .inl (rI s r i)
  | 1 => .inr (.inl (rL s r i))
  | 2 => .inl (rI s r i)
  | 3 => .inl (rI s r i)
  | _ => mx_aq (fun k => rx_o (rA s) (rQ s r i k))
/-- the cell of a role -/
def rx_c (s : rx_S) (r i : Nat) : mx_C := match rx_k r with
  | some q => .inr (q.1, (List.range q.2).map (fun f => rx_v (rA s) (rX s r i f)))
  | none => .inl ((rx_t (rY s) r i).1, (rx_t (rY s) r i).2, rx_d s (rx_t (rY s) r i).1 r i)
def rx_R (b0 : Nat) (O : Nat → Option mx_C) (z1 z2 : Nat) (s : rx_S) (G : mx_H) : Prop :=
  (∀ r i, rU s r i = true → G.1 (rA s r i) = some (rx_c s r i) ∧ b0 ≤ rA s r i ∧ rA s r i < G.2.1) ∧
  (∀ r i r' i', rU s r i = true → rU s r' i' = true → rA s r i = rA s r' i' → r = r' ∧ i = i') ∧
  (∀ r i f q, rU s r i = true → rX s r i f = .inr q → rU s q.1 q.2 = true) ∧
  (∀ r i k q, rU s r i = true → rQ s r i k = some q → rU s q.1 q.2 = true) ∧
  (∀ k, rA s 9 k = k) ∧ b0 ≤ G.2.1 ∧ G.2.1 ≤ z1 ∧ G.2.2 ≤ z2 ∧ (∀ a, a < b0 → G.1 a = O a)
/-- updates: a field, an int, a long, a reference -/
def u3 {α : Type} (x : Nat → Nat → Nat → α) (r i f : Nat) (w : α) : Nat → Nat → Nat → α := fun a b c => bif Nat.beq a r && (Nat.beq c f && Nat.beq b i) then w else x a b c
def w3 {α : Type} (x : Nat → Nat → Nat → α) (r i f : Nat) (w : α) : Nat → Nat → Nat → α := fun a b c => bif Nat.beq a r && (Nat.beq b i && Nat.beq c f) then w else x a b c
def sX (s : rx_S) (r i f : Nat) (w : rx_V) : rx_S := (s.1, s.2.1, u3 s.2.2.1 r i f w, s.2.2.2)
def sI (s : rx_S) (r i f : Nat) (w : Int32) : rx_S := (s.1, s.2.1, s.2.2.1, w3 s.2.2.2.1 r i f w, s.2.2.2.2)
def sL (s : rx_S) (r i f : Nat) (w : Int64) : rx_S := (s.1, s.2.1, s.2.2.1, s.2.2.2.1, w3 s.2.2.2.2.1 r i f w, s.2.2.2.2.2)
def sQ (s : rx_S) (r i f : Nat) (w : Option (Nat × Nat)) : rx_S := (s.1, s.2.1, s.2.2.1, s.2.2.2.1, s.2.2.2.2.1, w3 s.2.2.2.2.2.1 r i f w, s.2.2.2.2.2.2)
theorem u3_s {α : Type} (x : Nat → Nat → Nat → α) (r i f : Nat) (w : α) : u3 x r i f w r i f = w := by simp [u3]
theorem u3_if {α : Type} (x : Nat → Nat → Nat → α) (r i f a b c : Nat) (w : α) : u3 x r i f w a b c = if a = r ∧ b = i ∧ c = f then w else x a b c := by
  simp only [u3]
  by_cases h : a = r ∧ b = i ∧ c = f
  · obtain ⟨rfl, rfl, rfl⟩ := h; simp
  · rw [if_neg h]
    have : (Nat.beq a r && (Nat.beq c f && Nat.beq b i)) = false := by
      cases hb : (Nat.beq a r && (Nat.beq c f && Nat.beq b i))
      · rfl
      · rw [Bool.and_eq_true, Bool.and_eq_true] at hb
        exact absurd ⟨Nat.eq_of_beq_eq_true hb.1, Nat.eq_of_beq_eq_true hb.2.2, Nat.eq_of_beq_eq_true hb.2.1⟩ h
    rw [this]; rfl
theorem w3_s {α : Type} (x : Nat → Nat → Nat → α) (r i f : Nat) (w : α) : w3 x r i f w r i f = w := by simp [w3]
theorem w3_if {α : Type} (x : Nat → Nat → Nat → α) (r i f a b c : Nat) (w : α) : w3 x r i f w a b c = if a = r ∧ b = i ∧ c = f then w else x a b c := by
  simp only [w3]
  by_cases h : a = r ∧ b = i ∧ c = f
  · obtain ⟨rfl, rfl, rfl⟩ := h; simp
  · rw [if_neg h]
    have : (Nat.beq a r && (Nat.beq b i && Nat.beq c f)) = false := by
      cases hb : (Nat.beq a r && (Nat.beq b i && Nat.beq c f))
      · rfl
      · rw [Bool.and_eq_true, Bool.and_eq_true] at hb
        exact absurd ⟨Nat.eq_of_beq_eq_true hb.1, Nat.eq_of_beq_eq_true hb.2.1, Nat.eq_of_beq_eq_true hb.2.2⟩ h
    rw [this]; rfl
theorem u3_n {α : Type} (x : Nat → Nat → Nat → α) {r i f a b c : Nat} (w : α) (h : ¬ (a = r ∧ b = i ∧ c = f)) : u3 x r i f w a b c = x a b c := by rw [u3_if, if_neg h]
theorem w3_n {α : Type} (x : Nat → Nat → Nat → α) {r i f a b c : Nat} (w : α) (h : ¬ (a = r ∧ b = i ∧ c = f)) : w3 x r i f w a b c = x a b c := by rw [w3_if, if_neg h]
theorem rx_set {α : Type} (g : Nat → α) (n f : Nat) (w : α) : ((List.range n).map g).set f w = (List.range n).map (fun k => if k = f then w else g k) := by
  apply List.ext_getElem
  · simp
  · intro k h1 h2
    simp only [List.length_set, List.length_map, List.length_range] at h1
    rw [List.getElem_set]
    by_cases h : f = k
    · subst h; simp
    · rw [if_neg h]; simp [Ne.symm h]
theorem rx_get {α : Type} (g : Nat → α) {n f : Nat} (h : f < n) : ((List.range n).map g)[f]? = some (g f) := by simp [h]
section
variable {b0 mi z1 z2 : Nat} {E : Nat → Nat} {O : Nat → Option mx_C} {s : rx_S} {M : mx_M} {pc : Nat} {L : mx_L} {st : List Value} {G : mx_H} {Q : mx_O → mx_H → Prop}
theorem rx_obj {r i c n : Nat} (R : rx_R b0 O z1 z2 s G) (hu : rU s r i = true) (hk : rx_k r = some (c, n)) : G.1 (rA s r i) = some (.inr (c, (List.range n).map (fun f => rx_v (rA s) (rX s r i f)))) := by
  rw [(R.1 r i hu).1]; simp only [rx_c, hk]
theorem rx_arr {r i t n : Nat} (R : rx_R b0 O z1 z2 s G) (hu : rU s r i = true) (hk : rx_k r = none) (ht : rx_t (rY s) r i = (t, n)) : G.1 (rA s r i) = some (.inl (t, n, rx_d s t r i)) := by
  rw [(R.1 r i hu).1]; simp only [rx_c, hk, ht]
theorem rx_cX {r i f c n : Nat} {w : rx_V} (hk : rx_k r = some (c, n)) : rx_c (sX s r i f w) r i = .inr (c, ((List.range n).map (fun f => rx_v (rA s) (rX s r i f))).set f (rx_v (rA s) w)) := by
  simp only [rx_c, hk, rx_set]
  congr 2
  apply List.map_congr_left
  intro k _
  show rx_v s.1 (u3 s.2.2.1 r i f w r i k) = _
  rw [u3_if]
  by_cases h : k = f
  · rw [if_pos ⟨rfl, rfl, h⟩, if_pos h]
  · rw [if_neg (fun e => h e.2.2), if_neg h]
theorem rx_cXn {r i f a b : Nat} {w : rx_V} (h : ¬ (a = r ∧ b = i)) : rx_c (sX s r i f w) a b = rx_c s a b := by
  simp only [rx_c]
  cases hk : rx_k a with
  | none => rfl
  | some q =>
    simp only
    congr 2
    apply List.map_congr_left
    intro k _
    show rx_v s.1 (u3 s.2.2.1 r i f w a b k) = _
    rw [u3_n _ _ (fun e => h ⟨e.1, e.2.1⟩)]
/-- a field written -/
theorem rx_X {r i f c n : Nat} {w : rx_V} (R : rx_R b0 O z1 z2 s G) (hu : rU s r i = true) (hk : rx_k r = some (c, n)) (hw : ∀ q, w = .inr q → rU s q.1 q.2 = true) : rx_R b0 O z1 z2 (sX s r i f w) (mx_up G (rA s r i) (.inr (c, ((List.range n).map (fun f => rx_v (rA s) (rX s r i f))).set f (rx_v (rA s) w)))) := by
  refine ⟨fun a b h => ⟨?_, (R.1 a b h).2⟩, R.2.1, fun a b k q h hq => ?_, R.2.2.2.1, R.2.2.2.2.1, R.2.2.2.2.2.1, R.2.2.2.2.2.2.1, R.2.2.2.2.2.2.2.1, fun a ha => ?_⟩
  · by_cases e : a = r ∧ b = i
    · obtain ⟨rfl, rfl⟩ := e
      rw [rx_cX hk]; exact mx_up_s _ _ _
    · rw [rx_cXn e]
      have hne : rA s a b ≠ rA s r i := fun e2 => e (R.2.1 a b r i h hu e2)
      show (mx_up G (rA s r i) _).1 (rA s a b) = _
      rw [mx_up_n _ _ hne]; exact (R.1 a b h).1
  · have hq' : u3 s.2.2.1 r i f w a b k = .inr q := hq
    rw [u3_if] at hq'
    by_cases e : a = r ∧ b = i ∧ k = f
    · rw [if_pos e] at hq'; exact hw q hq'
    · rw [if_neg e] at hq'; exact R.2.2.1 a b k q h hq'
  · rw [mx_up_n _ _ (by have := (R.1 r i hu).2.1; omega)]; exact R.2.2.2.2.2.2.2.2 a ha
theorem rx_cI {r i f t n : Nat} {w : Int32} (hk : rx_k r = none) (ht : rx_t (rY s) r i = (t, n)) (h0 : t = 0 ∨ t = 2 ∨ t = 3) : rx_c (sI s r i f w) r i = .inl (t, n, .inl (upd (rI s r i) f w)) := by
  have e : w3 s.2.2.2.1 r i f w r i = upd (rI s r i) f w := by
    funext k
    rw [w3_if]; simp [upd]
  simp only [rx_c, hk]
  show Sum.inl ((rx_t (rY s) r i).1, (rx_t (rY s) r i).2, rx_d (sI s r i f w) (rx_t (rY s) r i).1 r i) = _
  rw [ht]
  rcases h0 with rfl | rfl | rfl <;> exact congrArg (fun q => Sum.inl (_, n, Sum.inl q)) e
theorem rx_cIn {r i f a b : Nat} {w : Int32} (h : ¬ (a = r ∧ b = i)) : rx_c (sI s r i f w) a b = rx_c s a b := by
  have e : rI (sI s r i f w) a b = rI s a b := by
    funext k
    exact w3_n _ _ (fun e => h ⟨e.1, e.2.1⟩)
  simp only [rx_c]
  cases hk : rx_k a with
  | some q => rfl
  | none =>
    show Sum.inl ((rx_t (rY s) a b).1, (rx_t (rY s) a b).2, rx_d (sI s r i f w) (rx_t (rY s) a b).1 a b) = Sum.inl ((rx_t (rY s) a b).1, (rx_t (rY s) a b).2, rx_d s (rx_t (rY s) a b).1 a b)
    congr 3
    simp only [rx_d, e]
    rfl
theorem rx_I {r i f t n : Nat} {w : Int32} (R : rx_R b0 O z1 z2 s G) (hu : rU s r i = true) (hk : rx_k r = none) (ht : rx_t (rY s) r i = (t, n)) (h0 : t = 0 ∨ t = 2 ∨ t = 3) : rx_R b0 O z1 z2 (sI s r i f w) (mx_up G (rA s r i) (.inl (t, n, .inl (upd (rI s r i) f w)))) := by
  refine ⟨fun a b h => ⟨?_, (R.1 a b h).2⟩, R.2.1, R.2.2.1, R.2.2.2.1, R.2.2.2.2.1, R.2.2.2.2.2.1, R.2.2.2.2.2.2.1, R.2.2.2.2.2.2.2.1, fun a ha => ?_⟩
  · by_cases e : a = r ∧ b = i
    · obtain ⟨rfl, rfl⟩ := e
      rw [rx_cI hk ht h0]; exact mx_up_s _ _ _
    · rw [rx_cIn e]
      have hne : rA s a b ≠ rA s r i := fun e2 => e (R.2.1 a b r i h hu e2)
      show (mx_up G (rA s r i) _).1 (rA s a b) = _
      rw [mx_up_n _ _ hne]; exact (R.1 a b h).1
  · rw [mx_up_n _ _ (by have := (R.1 r i hu).2.1; omega)]; exact R.2.2.2.2.2.2.2.2 a ha
theorem rx_cL {r i f n : Nat} {w : Int64} (hk : rx_k r = none) (ht : rx_t (rY s) r i = (1, n)) : rx_c (sL s r i f w) r i = .inl (1, n, .inr (.inl (vp_updL (rL s r i) f w))) := by
  have e : w3 s.2.2.2.2.1 r i f w r i = vp_updL (rL s r i) f w := by
    funext k
    rw [w3_if]; simp [vp_updL]
  simp only [rx_c, hk]
  show Sum.inl ((rx_t (rY s) r i).1, (rx_t (rY s) r i).2, rx_d (sL s r i f w) (rx_t (rY s) r i).1 r i) = _
  rw [ht]
  exact congrArg (fun q => Sum.inl (_, n, Sum.inr (Sum.inl q))) e
theorem rx_cLn {r i f a b : Nat} {w : Int64} (h : ¬ (a = r ∧ b = i)) : rx_c (sL s r i f w) a b = rx_c s a b := by
  have e : rL (sL s r i f w) a b = rL s a b := by
    funext k
    exact w3_n _ _ (fun e => h ⟨e.1, e.2.1⟩)
  simp only [rx_c]
  cases hk : rx_k a with
  | some q => rfl
  | none =>
    show Sum.inl ((rx_t (rY s) a b).1, (rx_t (rY s) a b).2, rx_d (sL s r i f w) (rx_t (rY s) a b).1 a b) = Sum.inl ((rx_t (rY s) a b).1, (rx_t (rY s) a b).2, rx_d s (rx_t (rY s) a b).1 a b)
    congr 3
    simp only [rx_d, e]
    rfl
theorem rx_L {r i f n : Nat} {w : Int64} (R : rx_R b0 O z1 z2 s G) (hu : rU s r i = true) (hk : rx_k r = none) (ht : rx_t (rY s) r i = (1, n)) : rx_R b0 O z1 z2 (sL s r i f w) (mx_up G (rA s r i) (.inl (1, n, .inr (.inl (vp_updL (rL s r i) f w))))) := by
  refine ⟨fun a b h => ⟨?_, (R.1 a b h).2⟩, R.2.1, R.2.2.1, R.2.2.2.1, R.2.2.2.2.1, R.2.2.2.2.2.1, R.2.2.2.2.2.2.1, R.2.2.2.2.2.2.2.1, fun a ha => ?_⟩
  · by_cases e : a = r ∧ b = i
    · obtain ⟨rfl, rfl⟩ := e
      rw [rx_cL hk ht]; exact mx_up_s _ _ _
    · rw [rx_cLn e]
      have hne : rA s a b ≠ rA s r i := fun e2 => e (R.2.1 a b r i h hu e2)
      show (mx_up G (rA s r i) _).1 (rA s a b) = _
      rw [mx_up_n _ _ hne]; exact (R.1 a b h).1
  · rw [mx_up_n _ _ (by have := (R.1 r i hu).2.1; omega)]; exact R.2.2.2.2.2.2.2.2 a ha
theorem rx_cQ {r i f t n : Nat} {w : Option (Nat × Nat)} (hk : rx_k r = none) (ht : rx_t (rY s) r i = (t, n)) (h4 : 4 ≤ t) : rx_c (sQ s r i f w) r i = .inl (t, n, mx_aq (va_up (fun k => rx_o (rA s) (rQ s r i k)) f (rx_o (rA s) w))) := by
  have e : (fun k => rx_o (rA s) (w3 s.2.2.2.2.2.1 r i f w r i k)) = va_up (fun k => rx_o (rA s) (rQ s r i k)) f (rx_o (rA s) w) := by
    funext k
    rw [w3_if]
    simp only [va_up]
    by_cases h : k = f <;> simp [h]
  simp only [rx_c, hk]
  show Sum.inl ((rx_t (rY s) r i).1, (rx_t (rY s) r i).2, rx_d (sQ s r i f w) (rx_t (rY s) r i).1 r i) = _
  rw [ht]
  match t, h4 with
  | t + 4, _ => exact congrArg (fun q => Sum.inl (_, n, mx_aq q)) e
theorem rx_cQn {r i f a b : Nat} {w : Option (Nat × Nat)} (h : ¬ (a = r ∧ b = i)) : rx_c (sQ s r i f w) a b = rx_c s a b := by
  have e : ∀ k, rQ (sQ s r i f w) a b k = rQ s a b k := fun k => w3_n _ _ (fun e => h ⟨e.1, e.2.1⟩)
  simp only [rx_c]
  cases hk : rx_k a with
  | some q => rfl
  | none =>
    show Sum.inl ((rx_t (rY s) a b).1, (rx_t (rY s) a b).2, rx_d (sQ s r i f w) (rx_t (rY s) a b).1 a b) = Sum.inl ((rx_t (rY s) a b).1, (rx_t (rY s) a b).2, rx_d s (rx_t (rY s) a b).1 a b)
    congr 3
    simp only [rx_d, e]
    rfl
theorem rx_Q {r i f t n : Nat} {w : Option (Nat × Nat)} (R : rx_R b0 O z1 z2 s G) (hu : rU s r i = true) (hk : rx_k r = none) (ht : rx_t (rY s) r i = (t, n)) (h4 : 4 ≤ t) (hw : ∀ q, w = some q → rU s q.1 q.2 = true) : rx_R b0 O z1 z2 (sQ s r i f w) (mx_up G (rA s r i) (.inl (t, n, mx_aq (va_up (fun k => rx_o (rA s) (rQ s r i k)) f (rx_o (rA s) w))))) := by
  refine ⟨fun a b h => ⟨?_, (R.1 a b h).2⟩, R.2.1, R.2.2.1, fun a b k q h hq => ?_, R.2.2.2.2.1, R.2.2.2.2.2.1, R.2.2.2.2.2.2.1, R.2.2.2.2.2.2.2.1, fun a ha => ?_⟩
  · by_cases e : a = r ∧ b = i
    · obtain ⟨rfl, rfl⟩ := e
      rw [rx_cQ hk ht h4]; exact mx_up_s _ _ _
    · rw [rx_cQn e]
      have hne : rA s a b ≠ rA s r i := fun e2 => e (R.2.1 a b r i h hu e2)
      show (mx_up G (rA s r i) _).1 (rA s a b) = _
      rw [mx_up_n _ _ hne]; exact (R.1 a b h).1
  · have hq' : w3 s.2.2.2.2.2.1 r i f w a b k = some q := hq
    rw [w3_if] at hq'
    by_cases e : a = r ∧ b = i ∧ k = f
    · rw [if_pos e] at hq'; exact hw q hq'
    · rw [if_neg e] at hq'; exact R.2.2.2.1 a b k q h hq'
  · rw [mx_up_n _ _ (by have := (R.1 r i hu).2.1; omega)]; exact R.2.2.2.2.2.2.2.2 a ha
end
