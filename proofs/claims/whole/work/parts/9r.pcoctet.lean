/-! ===== Pure: bytes of the image, as the class finds them ===== -/
theorem rwN_st {τ : tx_T} (hV : TV τ) {w : Bool} {V : List (Nat × Nat)} (hv : ∀ x, nvN V x ≤ 200) (k b : Nat) {x : Nat} (hx : x < tN τ 1) : rwN τ w V k b x ≤ rwN τ w V k b (x + 1) := by
  show _ ≤ (bif (tT τ 4 x == nI k) && plB τ w x then endN τ V x (upN (rwN τ w V k b x) (cl (tT τ 6 x))) else rwN τ w V k b x)
  cases (tT τ 4 x == nI k) && plB τ w x
  · exact Nat.le_refl _
  · simp only [cond_true]
    have ra := (hV.2.1 x hx).2.2.2.1
    have ca := clI ra.1
    have h1 := (upN_le (rwN τ w V k b x) (a := cl (tT τ 6 x)) (by omega)).2
    have h2 := (endN_le hV hx (hv x) (p := upN (rwN τ w V k b x) (cl (tT τ 6 x)))).2
    omega
theorem rwN_m {τ : tx_T} (hV : TV τ) {w : Bool} {V : List (Nat × Nat)} (hv : ∀ x, nvN V x ≤ 200) (k b : Nat) {m n : Nat} (hmn : m ≤ n) (hn : n ≤ tN τ 1) : rwN τ w V k b m ≤ rwN τ w V k b n := by
  induction n with
  | zero => rw [show m = 0 by omega]; exact Nat.le_refl _
  | succ n ih =>
    by_cases e : m = n + 1
    · rw [e]; exact Nat.le_refl _
    · exact Nat.le_trans (ih (by omega) (by omega)) (rwN_st hV hv k b (by omega))
theorem pl_in {τ : tx_T} (hV : TV τ) {w : Bool} {V : List (Nat × Nat)} (hv : ∀ x, nvN V x ≤ 200) {x : Nat} (hx : x < tN τ 1) (hp : plB τ w x = true) : rwN τ w V (cl (tT τ 4 x)) (bgN τ w V (cl (tT τ 4 x))) x ≤ plN τ w V x ∧ rwN τ w V (cl (tT τ 4 x)) (bgN τ w V (cl (tT τ 4 x))) (x + 1) = endN τ V x (plN τ w V x) ∧ plN τ w V x ≤ endN τ V x (plN τ w V x) := by
  have ra := (hV.2.1 x hx).2.2.2.1
  have ca := clI ra.1
  have rk := (hV.2.1 x hx).2.1
  refine ⟨(upN_le _ (a := cl (tT τ 6 x)) (by omega)).2, ?_, (endN_le hV hx (hv x)).2⟩
  have e : nI (cl (tT τ 4 x)) = tT τ 4 x := by
    obtain ⟨j, hj, ej⟩ := nI_of (x := tT τ 4 x) (fun q => by have := i32lt.mp q; simp at this; omega)
    rw [ej, show cl (nI j) = j from nI_clamp hj]
  have eb : ((tT τ 4 x == nI (cl (tT τ 4 x))) && plB τ w x) = true := by rw [hp, e]; simp
  show (bif (tT τ 4 x == nI (cl (tT τ 4 x))) && plB τ w x then _ else _) = _
  rw [eb]; rfl
theorem dj {τ : tx_T} (hV : TV τ) {w : Bool} {V : List (Nat × Nat)} (hv : ∀ x, nvN V x ≤ 200) (ho : ∀ k j, k < 4 → j < k → ovB τ w V k j = false) {x y : Nat} (hx : x < tN τ 1) (hy : y < tN τ 1) (hpx : plB τ w x = true) (hpy : plB τ w y = true) {p : Nat} (h1 : plN τ w V x ≤ p ∧ p < endN τ V x (plN τ w V x)) (h2 : plN τ w V y ≤ p ∧ p < endN τ V y (plN τ w V y)) : x = y := by
  have rx := (hV.2.1 x hx).2.1
  have ry := (hV.2.1 y hy).2.1
  have cx := clI rx.1
  have cy := clI ry.1
  obtain ⟨a1, a2, a3⟩ := pl_in hV hv hx hpx
  obtain ⟨b1, b2, b3⟩ := pl_in hV hv hy hpy
  have ax := rwN_m hV hv (w := w) (cl (tT τ 4 x)) (bgN τ w V (cl (tT τ 4 x))) (m := 0) (n := x) (by omega) (by omega)
  have ay := rwN_m hV hv (w := w) (cl (tT τ 4 y)) (bgN τ w V (cl (tT τ 4 y))) (m := 0) (n := y) (by omega) (by omega)
  have ex := rwN_m hV hv (w := w) (cl (tT τ 4 x)) (bgN τ w V (cl (tT τ 4 x))) (m := x + 1) (n := tN τ 1) (by omega) (by omega)
  have ey := rwN_m hV hv (w := w) (cl (tT τ 4 y)) (bgN τ w V (cl (tT τ 4 y))) (m := y + 1) (n := tN τ 1) (by omega) (by omega)
  have ax : bgN τ w V (cl (tT τ 4 x)) ≤ _ := ax
  have ay : bgN τ w V (cl (tT τ 4 y)) ≤ _ := ay
  have ex : _ ≤ enN τ w V (cl (tT τ 4 x)) := ex
  have ey : _ ≤ enN τ w V (cl (tT τ 4 y)) := ey
  have en : ∀ z, z < tN τ 1 → nI (cl (tT τ 4 z)) = tT τ 4 z := fun z hz => by
    obtain ⟨j, hj, ej⟩ := nI_of (x := tT τ 4 z) (fun q => by have := i32lt.mp q; have := (hV.2.1 z hz).2.1; simp at *; omega)
    rw [ej, show cl (nI j) = j from nI_clamp hj]
  have hpb : ∀ z, z < tN τ 1 → plB τ w z = true → hpB τ w (cl (tT τ 4 z)) = true := fun z hz hp => an_iff.mpr ⟨z, hz, by rw [en z hz, hp]; simp⟩
  by_cases hk : cl (tT τ 4 x) = cl (tT τ 4 y)
  · rw [hk] at a1 a2
    rcases Nat.lt_trichotomy x y with h | h | h
    · have := rwN_m hV hv (w := w) (cl (tT τ 4 y)) (bgN τ w V (cl (tT τ 4 y))) (m := x + 1) (n := y) (by omega) (by omega)
      omega
    · exact h
    · have := rwN_m hV hv (w := w) (cl (tT τ 4 y)) (bgN τ w V (cl (tT τ 4 y))) (m := y + 1) (n := x) (by omega) (by omega)
      omega
  · exfalso
    have key : ∀ k j, k < 4 → j < k → hpB τ w k = true → hpB τ w j = true → bgN τ w V k < enN τ w V j → bgN τ w V j < enN τ w V k → False := fun k j hk hj q1 q2 q3 q4 => by
      have := ho k j hk hj
      unfold ovB at this
      rw [q1, q2, decide_eq_true q3, decide_eq_true q4] at this
      cases this
    rcases Nat.lt_or_gt_of_ne hk with h | h
    · exact key (cl (tT τ 4 y)) (cl (tT τ 4 x)) (by omega) h (hpb y hy hpy) (hpb x hx hpx) (by omega) (by omega)
    · exact key (cl (tT τ 4 x)) (cl (tT τ 4 y)) (by omega) h (hpb x hx hpx) (hpb y hy hpy) (by omega) (by omega)
theorem cnt_ex {f : Nat → Bool} {v : Nat} : ∀ n, v < cnt f n → ∃ k, k < n ∧ f k = true ∧ cnt f k = v := by
  intro n
  induction n with
  | zero => intro h; exact absurd h (Nat.not_lt_zero _)
  | succ n ih =>
    intro h
    rw [cnt] at h
    by_cases e : v < cnt f n
    · obtain ⟨k, h1, h2⟩ := ih e; exact ⟨k, by omega, h2⟩
    · cases hb : f n
      · rw [hb] at h; simp at h; omega
      · rw [hb] at h; simp at h; exact ⟨n, by omega, hb, by omega⟩
def vxB (V : List (Nat × Nat)) (x j : Nat) : Bool := match V[j]? with
  | none => false
  | some e => Nat.beq e.1 x
theorem take_cnt (V : List (Nat × Nat)) (x : Nat) : ∀ i, i ≤ V.length → (V.take i).countP (fun e => Nat.beq e.1 x) = cnt (vxB V x) i := by
  intro i
  induction i with
  | zero => intro _; rfl
  | succ i ih =>
    intro h
    rw [cnt, ← ih (by omega), List.take_succ_eq_append_getElem (by omega), List.countP_append, List.countP_singleton]
    have : vxB V x i = Nat.beq (V[i]'(by omega)).1 x := by unfold vxB; rw [List.getElem?_eq_getElem (by omega)]
    rw [this]
    cases Nat.beq (V[i]'(by omega)).1 x <;> simp
theorem vx_t {V : List (Nat × Nat)} {x j : Nat} (hj : j < V.length) : vxB V x j = true ↔ (V[j]).1 = x := by
  unfold vxB
  rw [List.getElem?_eq_getElem hj]
  exact ⟨fun h => Nat.eq_of_beq_eq_true h, fun h => by show Nat.beq (V[j]).1 x = true; rw [h]; simp⟩
/-- the v-th veneer of a section -/
theorem vx_ex {V : List (Nat × Nat)} {x v : Nat} (h : v < nvN V x) : ∃ i, ∃ hi : i < V.length, (V[i]).1 = x ∧ (V.take i).countP (fun e => Nat.beq e.1 x) = v := by
  have e : nvN V x = cnt (vxB V x) V.length := by rw [← take_cnt V x _ (Nat.le_refl _), List.take_length]; rfl
  rw [e] at h
  obtain ⟨i, h1, h2, h3⟩ := cnt_ex _ h
  exact ⟨i, h1, (vx_t h1).mp h2, by rw [take_cnt V x i (by omega)]; exact h3⟩
theorem vx_lt {V : List (Nat × Nat)} {x i : Nat} (hi : i < V.length) (h : (V[i]).1 = x) : (V.take i).countP (fun e => Nat.beq e.1 x) < nvN V x := by
  have e : nvN V x = cnt (vxB V x) V.length := by rw [← take_cnt V x _ (Nat.le_refl _), List.take_length]; rfl
  rw [e, take_cnt V x i (by omega)]
  have : cnt (vxB V x) (i + 1) ≤ cnt (vxB V x) V.length := cnt_mono (by omega)
  rw [cnt, (vx_t hi).mpr h] at this
  simp at this; omega
theorem vx_in {V : List (Nat × Nat)} {x i j : Nat} (hi : i < V.length) (hj : j < V.length) (h : (V[i]).1 = x) (h2 : (V[j]).1 = x) (e : (V.take i).countP (fun e => Nat.beq e.1 x) = (V.take j).countP (fun e => Nat.beq e.1 x)) : i = j := by
  rw [take_cnt V x i (by omega), take_cnt V x j (by omega)] at e
  rcases Nat.lt_trichotomy i j with q | q | q
  · have : cnt (vxB V x) (i + 1) ≤ cnt (vxB V x) j := cnt_mono (by omega)
    rw [cnt, (vx_t hi).mpr h] at this; simp at this; omega
  · exact q
  · have : cnt (vxB V x) (j + 1) ≤ cnt (vxB V x) i := cnt_mono (by omega)
    rw [cnt, (vx_t hj).mpr h2] at this; simp at this; omega
theorem vv_same {τ : tx_T} {w : Bool} {V : List (Nat × Nat)} {k o : Nat} (h : tT τ 25 k = tT τ 25 o) (h2 : saB τ (cl (tT τ 24 k)) (cl (tT τ 24 o)) = true) : vvI τ w V k = vvI τ w V o := by
  obtain ⟨a1, a2, a3⟩ := saB_iff.mp h2
  unfold vvI vaN
  rw [h, a1, a2, a3]
/-- a section's byte, from its own relocations -/
noncomputable def byL (τ : tx_T) (w : Bool) (S : vS) (x i n : Nat) : Int32 := fo (fun b j => bif decide ((tT τ 22 (rlG τ x j)).toInt ≤ i ∧ (i : Int) < (tT τ 22 (rlG τ x j)).toInt + t_wide (tT τ 23 (rlG τ x j))) then sby (Int64.ofInt (wrI τ w S (rlG τ x j))) (nI i - tT τ 22 (rlG τ x j)) else b) (tY τ x i) n
theorem byI_L (τ : tx_T) (w : Bool) (S : vS) (x i : Nat) : byI τ w S x i (tN τ 3) = byL τ w S x i (rlN τ x) := by
  unfold byI byL
  have := fo_rl (τ := τ) (x := x) (fun b k => bif decide ((tT τ 22 k).toInt ≤ i ∧ (i : Int) < (tT τ 22 k).toInt + t_wide (tT τ 23 k)) then sby (Int64.ofInt (wrI τ w S k)) (nI i - tT τ 22 k) else b) (tY τ x i) (Nat.le_refl (tN τ 3))
  rw [show rlN τ x = cnt (rlB τ x) (tN τ 3) from rfl, ← this]
  refine fo_congr (fun b k _ => ?_) _
  unfold rlB
  cases tT τ 21 k == nI x <;> simp
