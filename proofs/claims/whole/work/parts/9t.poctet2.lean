/-! ===== Pure: an octet, from the one section that has its place ===== -/
/-- a place within a section, its veneers counted -/
def inS (τ : tx_T) (w : Bool) (V : List (Nat × Nat)) (p : Int) (x : Nat) : Prop := x < tN τ 1 ∧ plB τ w x = true ∧ (plN τ w V x : Int) ≤ p ∧ p < (endN τ V x (plN τ w V x) : Int)
theorem end_ge {τ : tx_T} (V : List (Nat × Nat)) (x p : Nat) : p + cl (tT τ 5 x) ≤ endN τ V x p := by
  unfold endN
  split
  · have := (upN_le (p + cl (tT τ 5 x)) (a := 2) (by omega)).2; omega
  · exact Nat.le_refl _
theorem ven_in {τ : tx_T} (hV : TV τ) {w : Bool} {S : vS} (hvi : VI τ w S) {i : Nat} (hi : i < S.1.length) {p : Int} (h1 : (vpN τ w S.1 (S.1[i]).1 i : Int) ≤ p) (h2 : p ≤ (vpN τ w S.1 (S.1[i]).1 i : Int) + 7) : inS τ w S.1 p (S.1[i]).1 ∧ (upN (plN τ w S.1 (S.1[i]).1 + cl (tT τ 5 (S.1[i]).1)) 2 : Int) ≤ p ∧ ((S.1.take i).countP (fun e => Nat.beq e.1 (S.1[i]).1) : Int) = (p - upN (plN τ w S.1 (S.1[i]).1 + cl (tT τ 5 (S.1[i]).1)) 2) / 8 := by
  obtain ⟨b1, b2, b3, b4⟩ := hvi.1.1 i hi
  have hV0 := hV.1
  have hpl := (hvi.2.2.2 _ _ b4).2
  rw [b3, show cl (nI (S.1[i]).1) = (S.1[i]).1 from nI_clamp (by omega)] at hpl
  have hc := vx_lt hi rfl
  have hu := (upN_le (plN τ w S.1 (S.1[i]).1 + cl (tT τ 5 (S.1[i]).1)) (a := 2) (by omega)).2
  unfold vpN at h1 h2
  have he : endN τ S.1 (S.1[i]).1 (plN τ w S.1 (S.1[i]).1) = upN (plN τ w S.1 (S.1[i]).1 + cl (tT τ 5 (S.1[i]).1)) 2 + 8 * nvN S.1 (S.1[i]).1 := by unfold endN; rw [if_pos (by omega)]
  refine ⟨⟨b1, hpl, by omega, by rw [he]; omega⟩, by omega, by omega⟩
section
variable {τ : tx_T} {l : Option Bool} {w : Bool}
theorem oc_dj (hV : TV τ) (hvi : VI τ w (vR τ w).1) (ho : ∀ k j, k < 4 → j < k → ovB τ w (vR τ w).1.1 k j = false) {p : Int} {x y : Nat} (h1 : inS τ w (vR τ w).1.1 p x) (h2 : inS τ w (vR τ w).1.1 p y) : x = y := by
  obtain ⟨a1, a2, a3, a4⟩ := h1
  obtain ⟨b1, b2, b3, b4⟩ := h2
  exact dj hV (VI_nv hvi hV) ho a1 b1 a2 b2 (p := p.toNat) ⟨by omega, by omega⟩ ⟨by omega, by omega⟩
theorem o1_in {V : List (Nat × Nat)} {p : Int} {x : Nat} (hx : x < tN τ 1) (h : o1B τ w V p x = true) : inS τ w V p x ∧ p < (plN τ w V x : Int) + cl (tT τ 5 x) := by
  unfold o1B at h
  rw [Bool.and_eq_true, decide_eq_true_iff] at h
  have := end_ge (τ := τ) V x (plN τ w V x)
  exact ⟨⟨hx, h.1, h.2.1, by omega⟩, h.2.2⟩
theorem o2_in {S : vS} {p : Int} {i : Nat} (hi : i < S.1.length) : o2B τ w S.1 p i = true ↔ ((vpN τ w S.1 (S.1[i]).1 i : Int) ≤ p ∧ p ≤ (vpN τ w S.1 (S.1[i]).1 i : Int) + 7) := by
  unfold o2B
  rw [List.getElem?_eq_getElem hi]
  exact decide_eq_true_iff
theorem oct_1 (hV : TV τ) (hi : im τ l = some w) (hvi : VI τ w (vR τ w).1) (ho : ∀ k j, k < 4 → j < k → ovB τ w (vR τ w).1.1 k j = false) {p : Int} {x : Nat} (h : inS τ w (vR τ w).1.1 p x) (hp : p < (plN τ w (vR τ w).1.1 x : Int) + cl (tT τ 5 x)) : a_octet τ l p = byS τ w (vR τ w).1 x (p - plN τ w (vR τ w).1.1 x).toNat := by
  have hf : fst1 (o1B τ w (vR τ w).1.1 p) (tN τ 1) = some x := fst1_some.mpr ⟨h.1, by unfold o1B; rw [h.2.1, decide_eq_true ⟨h.2.2.1, hp⟩]; rfl, fun j hj => by
    cases e : o1B τ w (vR τ w).1.1 p j
    · rfl
    · have := oc_dj hV hvi ho h (o1_in (by have := h.1; omega) e).1; omega⟩
  unfold a_octet
  rw [hi]
  simp only [hf]
theorem o1_no (hV : TV τ) (hvi : VI τ w (vR τ w).1) (ho : ∀ k j, k < 4 → j < k → ovB τ w (vR τ w).1.1 k j = false) {p : Int} {x : Nat} (h : inS τ w (vR τ w).1.1 p x) (hp : (plN τ w (vR τ w).1.1 x : Int) + cl (tT τ 5 x) ≤ p) : fst1 (o1B τ w (vR τ w).1.1 p) (tN τ 1) = none := fst1_none.mpr (fun j hj => by
  cases e : o1B τ w (vR τ w).1.1 p j
  · rfl
  · have h2 := o1_in hj e
    have e2 := oc_dj hV hvi ho h h2.1
    subst e2
    omega)
theorem oct_2 (hV : TV τ) (hi : im τ l = some w) (hvi : VI τ w (vR τ w).1) (ho : ∀ k j, k < 4 → j < k → ovB τ w (vR τ w).1.1 k j = false) {p : Int} {x : Nat} (h : inS τ w (vR τ w).1.1 p x) (hp : (plN τ w (vR τ w).1.1 x : Int) + cl (tT τ 5 x) ≤ p) (hp2 : p < (upN (plN τ w (vR τ w).1.1 x + cl (tT τ 5 x)) 2 : Int)) : a_octet τ l p = -1 := by
  have hf2 : fst1 (o2B τ w (vR τ w).1.1 p) (vR τ w).1.1.length = none := fst1_none.mpr (fun i hi => by
    cases e : o2B τ w (vR τ w).1.1 p i
    · rfl
    · have h2 := (o2_in hi).mp e
      have h3 := ven_in hV hvi hi h2.1 h2.2
      have e2 := oc_dj hV hvi ho h h3.1
      rw [← e2] at h3
      omega)
  unfold a_octet
  rw [hi]
  simp only [o1_no hV hvi ho h hp, hf2]
theorem oct_3 (hV : TV τ) (hi : im τ l = some w) (hvi : VI τ w (vR τ w).1) (ho : ∀ k j, k < 4 → j < k → ovB τ w (vR τ w).1.1 k j = false) {n : Nat} {x g : Nat} (h : inS τ w (vR τ w).1.1 n x) (hp2 : upN (plN τ w (vR τ w).1.1 x + cl (tT τ 5 x)) 2 ≤ n) (hg : g < (vR τ w).1.1.length) (hgx : ((vR τ w).1.1[g]).1 = x) (hgv : ((vR τ w).1.1.take g).countP (fun e => Nat.beq e.1 x) = (n - upN (plN τ w (vR τ w).1.1 x + cl (tT τ 5 x)) 2) / 8) : a_octet τ l n = vby τ w (vR τ w).1.1 g (((n - upN (plN τ w (vR τ w).1.1 x + cl (tT τ 5 x)) 2) % 8 : Nat) : Int) := by
  have hu := (upN_le (plN τ w (vR τ w).1.1 x + cl (tT τ 5 x)) (a := 2) (by omega)).2
  have hvp : vpN τ w (vR τ w).1.1 ((vR τ w).1.1[g]).1 g = upN (plN τ w (vR τ w).1.1 x + cl (tT τ 5 x)) 2 + 8 * ((n - upN (plN τ w (vR τ w).1.1 x + cl (tT τ 5 x)) 2) / 8) := by
    unfold vpN; rw [hgx, hgv]
  have hf2 : fst1 (o2B τ w (vR τ w).1.1 n) (vR τ w).1.1.length = some g := fst1_some.mpr ⟨hg, (o2_in hg).mpr (by rw [hvp]; omega), fun i hi2 => by
    have hil : i < (vR τ w).1.1.length := by omega
    cases e : o2B τ w (vR τ w).1.1 n i
    · rfl
    · have h2 := (o2_in hil).mp e
      have h3 := ven_in hV hvi hil h2.1 h2.2
      have e2 := oc_dj hV hvi ho h h3.1
      have e3 : i = g := vx_in hil hg e2.symm hgx (by rw [hgv]; have h4 := h3.2.2; rw [← e2] at h4; omega)
      omega⟩
  unfold a_octet
  rw [hi]
  simp only [o1_no hV hvi ho h (by omega), hf2, List.getElem?_eq_getElem hg]
  have key : ((n : Int) - (vpN τ w (vR τ w).1.1 ((vR τ w).1.1[g]).1 g : Int)) = (((n - upN (plN τ w (vR τ w).1.1 x + cl (tT τ 5 x)) 2) % 8 : Nat) : Int) := by
    have hq : (vpN τ w (vR τ w).1.1 ((vR τ w).1.1[g]).1 g : Int) = ((upN (plN τ w (vR τ w).1.1 x + cl (tT τ 5 x)) 2 + 8 * ((n - upN (plN τ w (vR τ w).1.1 x + cl (tT τ 5 x)) 2) / 8) : Nat) : Int) := congrArg (fun q : Nat => (q : Int)) hvp
    omega
  exact congrArg (vby τ w (vR τ w).1.1 g) key
theorem oct_0 (hV : TV τ) (hi : im τ l = some w) (hvi : VI τ w (vR τ w).1) {p : Int} (h : ∀ x, ¬ inS τ w (vR τ w).1.1 p x) : a_octet τ l p = -1 := by
  have h1 : fst1 (o1B τ w (vR τ w).1.1 p) (tN τ 1) = none := fst1_none.mpr (fun j hj => by
    cases e : o1B τ w (vR τ w).1.1 p j
    · rfl
    · exact absurd (o1_in hj e).1 (h j))
  have h2 : fst1 (o2B τ w (vR τ w).1.1 p) (vR τ w).1.1.length = none := fst1_none.mpr (fun i hi => by
    cases e : o2B τ w (vR τ w).1.1 p i
    · rfl
    · have h2 := (o2_in hi).mp e
      exact absurd (ven_in hV hvi hi h2.1 h2.2).1 (h _))
  unfold a_octet
  rw [hi]
  simp only [h1, h2]
theorem im_ov (hi : im τ l = some w) : ∀ k j, k < 4 → j < k → ovB τ w (vR τ w).1.1 k j = false := by
  unfold im at hi
  cases ek : kn τ l with
  | none => rw [ek] at hi; cases hi
  | some u =>
    rw [ek] at hi
    simp only at hi
    by_cases e : (lkR τ u).1 = 0
    · rw [if_pos e] at hi
      cases hi
      unfold lkR at e
      by_cases e4 : (W4 τ (tN τ 3)).1 = 0
      · rw [if_pos e4] at e
        have hW : W4 τ (tN τ 3) = (0, -1) := by
          rw [W4_eq] at e4 ⊢
          cases e2 : fst1 (F2B τ) (tN τ 4) with
          | some r => rw [e2] at e4; exact absurd e4 (show ¬ (2 : Int32) = 0 by decide)
          | none =>
            rw [e2] at e4
            cases e3 : fst1 (f3B τ) (tN τ 3) with
            | some r => rw [e3] at e4; exact absurd e4 (show ¬ (3 : Int32) = 0 by decide)
            | none =>
              rw [e3] at e4
              cases e5 : fst1 (f4B τ) (tN τ 3) with
              | some r => rw [e5] at e4; exact absurd e4 (show ¬ (4 : Int32) = 0 by decide)
              | none => rfl
        rw [W6_eq τ w (vR τ w).1 hW] at e
        cases e6 : fst1 (fun k => an (ovB τ w (vR τ w).1.1 k) k) 4 with
        | some r => rw [e6] at e; exact absurd e (show ¬ (5 : Int32) = 0 by decide)
        | none => intro k j hk hj; exact an_false.mp (fst1_none.mp e6 k hk) j hj
      · rw [if_neg e4] at e; exact absurd e e4
    · rw [if_neg e] at hi; cases hi
end
