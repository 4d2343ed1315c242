/-! ===== Pure: what is known, and what the questions answer ===== -/
def kn (τ : tx_T) (l : Option Bool) : Option Bool := match l with
  | none => none
  | some w => if (secO τ).isNone then some w else none
noncomputable def im (τ : tx_T) (l : Option Bool) : Option Bool := match kn τ l with
  | none => none
  | some w => if (lkR τ w).1 = 0 then some w else none
noncomputable def a_fault (τ : tx_T) (l : Option Bool) : Int32 := match l with
  | none => -1
  | some w => match secO τ with
    | some k => nI k
    | none => (lkR τ w).2
noncomputable def a_link (τ : tx_T) (w : Bool) : Int32 := match secO τ with
  | some _ => 1
  | none => (lkR τ w).1
/-- the model's state of link l -/
def ML (s : rx_S) (τ : tx_T) (l : Option Bool) : Prop := MR s τ ∧ rX s 0 0 32 = .inl (.int (a_fault τ l)) ∧
  (kn τ l = none → ∃ a b : Int32, rX s 0 0 29 = .inl (.int a) ∧ rX s 0 0 31 = .inl (.int b) ∧ (a = 0 ∨ b = 1)) ∧
  (∀ w, kn τ l = some w → NF s τ w ∧ rX s 0 0 29 = .inl (.int 1) ∧ ∃ b : Int32, rX s 0 0 31 = .inl (.int b) ∧ ¬ b = 1) ∧
  (im τ l = none → rX s 0 0 30 = .inl (.int 0)) ∧
  (∀ w, im τ l = some w → NF s τ w ∧ rX s 0 0 30 = .inl (.int 1) ∧ AO τ ∧ VS s (vR τ w).1 ∧ rX s 0 0 49 = .inl (.int (nI (vR τ w).2)) ∧ PL s τ w (vR τ w).1.1 ∧ vV τ (vR τ w).1 ∧ vPl τ w (vR τ w).1)
theorem bd_1 {p : Int32 × Int32} {c n : Int32} (h : ¬ p.1 = 1) (hc : ¬ c = 1) : ¬ (bd p c n).1 = 1 := by
  unfold bd; split
  · exact hc
  · exact h
theorem fo_1 {f : Nat → Bool} {c : Int32} {g : Nat → Int32} {p : Int32 × Int32} {n : Nat} (h : ¬ p.1 = 1) (hc : ¬ c = 1) : ¬ (fo (fun p i => bif f i then bd p c (g i) else p) p n).1 = 1 := by
  refine fo_ind (P := fun p : Int32 × Int32 => ¬ p.1 = 1) h (fun a k _ h => ?_)
  cases f k
  · exact h
  · exact bd_1 h hc
theorem lkR_1 (τ : tx_T) (w : Bool) : ¬ (lkR τ w).1 = 1 := by
  have h2 : ¬ (W2 τ (tN τ 4)).1 = 1 := fo_1 (by decide) (by decide)
  have h3 : ¬ (W3 τ (tN τ 3)).1 = 1 := fo_1 h2 (by decide)
  have h4 : ¬ (W4 τ (tN τ 3)).1 = 1 := fo_1 h3 (by decide)
  have h5 : ¬ (W5 τ w (vR τ w).1.1 4).1 = 1 := fo_ind (P := fun p : Int32 × Int32 => ¬ p.1 = 1) h4 (fun a k _ h => fo_1 (c := 5) (g := fun _ => nI k) h (by decide))
  have h6 : ¬ (W6 τ w (vR τ w).1 (tN τ 3)).1 = 1 := fo_1 h5 (by decide)
  unfold lkR
  split
  · exact h6
  · exact h4
theorem ML_told {s : rx_S} {τ : tx_T} (h : MR s τ) (h2 : MT s) : ML s τ none := ⟨h, h2.2.2.2, fun _ => ⟨0, 0, h2.1, h2.2.2.1, Or.inl rfl⟩, fun w hw => (by cases hw), fun _ => h2.2.1, fun w hw => (by cases hw)⟩
theorem ML_1 {s : rx_S} {τ : tx_T} {w : Bool} {k : Nat} (h : MR s τ) (hk : secO τ = some k) (h29 : rX s 0 0 29 = .inl (.int 1)) (h30 : rX s 0 0 30 = .inl (.int 0)) (h31 : rX s 0 0 31 = .inl (.int 1)) (h32 : rX s 0 0 32 = .inl (.int (nI k))) : ML s τ (some w) := by
  have e : kn τ (some w) = none := by unfold kn; simp [hk]
  have e2 : im τ (some w) = none := by unfold im; rw [e]
  refine ⟨h, ?_, fun _ => ⟨1, 1, h29, h31, Or.inr rfl⟩, fun w hw => (by rw [e] at hw; cases hw), fun _ => h30, fun w hw => (by rw [e2] at hw; cases hw)⟩
  unfold a_fault; rw [hk]; exact h32
theorem ML_2 {s : rx_S} {τ : tx_T} {w : Bool} (hF : NF s τ w) (hk : secO τ = none) (h29 : rX s 0 0 29 = .inl (.int 1)) (h30 : rX s 0 0 30 = .inl (.int (if (lkR τ w).1 = 0 then 1 else 0))) (h31 : rX s 0 0 31 = .inl (.int (lkR τ w).1)) (h32 : rX s 0 0 32 = .inl (.int (lkR τ w).2)) (h0 : (lkR τ w).1 = 0 → AO τ ∧ VS s (vR τ w).1 ∧ rX s 0 0 49 = .inl (.int (nI (vR τ w).2)) ∧ PL s τ w (vR τ w).1.1 ∧ vV τ (vR τ w).1 ∧ vPl τ w (vR τ w).1) : ML s τ (some w) := by
  have e : kn τ (some w) = some w := by unfold kn; simp [hk]
  refine ⟨hF.1.1.1, ?_, fun hw => (by rw [e] at hw; cases hw), fun w' hw => ?_, fun hw => ?_, fun w' hw => ?_⟩
  · unfold a_fault; rw [hk]; exact h32
  · rw [e] at hw; cases hw
    exact ⟨hF, h29, _, h31, lkR_1 τ w⟩
  · unfold im at hw
    rw [e] at hw
    simp only at hw
    by_cases e2 : (lkR τ w).1 = 0
    · rw [if_pos e2] at hw; cases hw
    · rw [if_neg e2] at h30; exact h30
  · unfold im at hw
    rw [e] at hw
    simp only at hw
    by_cases e2 : (lkR τ w).1 = 0
    · rw [if_pos e2] at hw h30
      cases hw
      exact ⟨hF, h30, h0 e2⟩
    · rw [if_neg e2] at hw; cases hw
theorem ML_0 {s : rx_S} {τ : tx_T} {l : Option Bool} (h : ML s τ l) {v : Int32} : ML (sX s 0 0 0 (.inl (.int v))) τ l := by
  have e : ∀ f, f ≠ 0 → rX (sX s 0 0 0 (.inl (.int v))) 0 0 f = rX s 0 0 f := fun f hf => sX_p (by omega)
  refine ⟨MR_X h.1 (by omega) rfl, (e 32 (by omega)).trans h.2.1, fun hk => ?_, fun w hk => ?_, fun hk => (e 30 (by omega)).trans (h.2.2.2.2.1 hk), fun w hk => ?_⟩
  · obtain ⟨a, b, h1, h2, h3⟩ := h.2.2.1 hk
    exact ⟨a, b, (e 29 (by omega)).trans h1, (e 31 (by omega)).trans h2, h3⟩
  · obtain ⟨h1, h2, b, h3, h4⟩ := h.2.2.2.1 w hk
    exact ⟨NF_X h1 (by omega) (by omega) rfl, (e 29 (by omega)).trans h2, b, (e 31 (by omega)).trans h3, h4⟩
  · obtain ⟨h1, h2, h3, h4, h5, h6⟩ := h.2.2.2.2.2 w hk
    exact ⟨NF_X h1 (by omega) (by omega) rfl, (e 30 (by omega)).trans h2, h3, ⟨(e 50 (by omega)).trans h4.1, h4.2⟩, (e 49 (by omega)).trans h5, h6⟩
theorem im_kn {τ : tx_T} {l : Option Bool} {w : Bool} (h : im τ l = some w) : kn τ l = some w := by
  unfold im at h
  cases e : kn τ l with
  | none => rw [e] at h; cases h
  | some v =>
    rw [e] at h
    simp only at h
    split at h
    · exact h
    · cases h
/-- answers -/
noncomputable def a_kept (τ : tx_T) (l : Option Bool) (x t : Int32) : Int32 := if ¬ (0 ≤ x.toInt ∧ x.toInt < tN τ 1) then -101 else if ¬ iw t 0 4 then -102 else match kn τ l with
  | none => -103
  | some w => if t = 0 then b32 (kin (kR τ) (cl x)) else if t = 1 then kby (kR τ) (cl x) else if t = 2 then oI (inO τ w (cl x)) else if t = 3 then b32 (lostB τ (cl x)) else krk (kR τ) (cl x)
/-- a place: how it is refused; the answer -/
noncomputable def t_place (τ : tx_T) (l : Option Bool) (x : Int32) : Int32 := if ¬ (0 ≤ x.toInt ∧ x.toInt < tN τ 1) then 1 else match im τ l with
  | none => 2
  | some _ => if kin (kR τ) (cl x) then 0 else 2
noncomputable def a_place (τ : tx_T) (l : Option Bool) (x : Int32) : Int64 := match im τ l with
  | none => 0
  | some w => lN (poN τ w (vR τ w).1.1 (cl x))
noncomputable def t_value (τ : tx_T) (l : Option Bool) (y : Int32) : Int32 := if ¬ (0 ≤ y.toInt ∧ y.toInt < tN τ 2) then 1 else match im τ l with
  | none => 2
  | some _ => if aimI τ (cl y) = 1 ∧ kin (kR τ) (cl (atI τ (cl y))) = false then 2 else 0
noncomputable def a_value (τ : tx_T) (l : Option Bool) (y : Int32) : Int64 := match im τ l with
  | none => 0
  | some w => lN (vaN τ w (vR τ w).1.1 (cl y))
noncomputable def t_range (τ : tx_T) (l : Option Bool) (k : Int32) : Int32 := if ¬ iw k 0 3 then 1 else match im τ l with
  | none => 2
  | some _ => 0
noncomputable def a_range (τ : tx_T) (l : Option Bool) (k : Int32) (e : Bool) : Int64 := match im τ l with
  | none => 0
  | some w => bif e then lN (enN τ w (vR τ w).1.1 (cl k)) else lN (bgN τ w (vR τ w).1.1 (cl k))
noncomputable def a_veneers (τ : tx_T) (l : Option Bool) (x : Int32) : Int32 := if ¬ (0 ≤ x.toInt ∧ x.toInt < tN τ 1) then -101 else match im τ l with
  | none => -103
  | some w => nI (nvN (vR τ w).1.1 (cl x))
noncomputable def a_found (τ : tx_T) (l : Option Bool) (f : Bool) : Nat := match kn τ l with
  | none => 0
  | some w => cnt (fun x => bif f then (inO τ w x).isSome else kin (kR τ) x) (tN τ 1)
noncomputable def a_count (τ : tx_T) (l : Option Bool) (t : Int32) : Int32 := if t = 0 then nI (tN τ 0) else if t = 1 then nI (tN τ 1) else if t = 2 then nI (tN τ 2) else if t = 3 then nI (tN τ 3) else if t = 4 then nI (tN τ 4) else if t = 5 then nI (a_found τ l false) else if t = 6 then nI (a_found τ l true) else if t = 7 then (match im τ l with
  | none => 0
  | some w => nI (vR τ w).2) else if t = 8 then (match im τ l with
  | none => 0
  | some w => nI (vR τ w).1.1.length) else -102
/-- a byte of an amount -/
def sby (v : Int64) (j : Int32) : Int32 := (v >>> ((8 * j).toInt64 &&& 63)).toInt32 &&& 255
noncomputable def byI (τ : tx_T) (w : Bool) (S : vS) (x i : Nat) (n : Nat) : Int32 := fo (fun b k => bif (tT τ 21 k == nI x) && decide ((tT τ 22 k).toInt ≤ i ∧ (i : Int) < (tT τ 22 k).toInt + t_wide (tT τ 23 k)) then sby (Int64.ofInt (wrI τ w S k)) (nI i - tT τ 22 k) else b) (tY τ x i) n
noncomputable def byS (τ : tx_T) (w : Bool) (S : vS) (x i : Nat) : Int32 := if tT τ 4 x = 3 then 0 else byI τ w S x i (tN τ 3)
noncomputable def o1B (τ : tx_T) (w : Bool) (V : List (Nat × Nat)) (p : Int) (x : Nat) : Bool := plB τ w x && decide ((plN τ w V x : Int) ≤ p ∧ p < (plN τ w V x : Int) + cl (tT τ 5 x))
noncomputable def o2B (τ : tx_T) (w : Bool) (V : List (Nat × Nat)) (p : Int) (i : Nat) : Bool := match V[i]? with
  | none => false
  | some e => decide ((vpN τ w V e.1 i : Int) ≤ p ∧ p ≤ (vpN τ w V e.1 i : Int) + 7)
/-- a byte of a veneer -/
noncomputable def vby (τ : tx_T) (w : Bool) (V : List (Nat × Nat)) (i : Nat) (j : Int) : Int32 := match V[i]? with
  | none => 0
  | some e => if j = 0 then 234 else if j < 4 then 0 else sby (Int64.ofInt (vvI τ w V e.2)) (Int32.ofInt (j - 4))
noncomputable def a_octet (τ : tx_T) (l : Option Bool) (p : Int) : Int32 := match im τ l with
  | none => -103
  | some w => match fst1 (o1B τ w (vR τ w).1.1 p) (tN τ 1) with
    | some x => byS τ w (vR τ w).1 x (p - plN τ w (vR τ w).1.1 x).toNat
    | none => match fst1 (o2B τ w (vR τ w).1.1 p) (vR τ w).1.1.length with
      | some i => vby τ w (vR τ w).1.1 i (p - (match (vR τ w).1.1[i]? with
        | none => 0
        | some e => (vpN τ w (vR τ w).1.1 e.1 i : Int)))
      | none => -1
