/-! ===== What one side does leaves the other as it is ===== -/
def nrm (X : Nat → rx_V) (I : Nat → Nat → Int32) (Lg : Nat → Nat → Int64) : rx_S := (fun _ _ => 0, fun _ _ => false, fun _ _ => X, fun _ => I, fun _ => Lg, fun _ _ _ => none, fun _ _ => 0)
theorem ML_n {s : rx_S} {τ : tx_T} {l : Option Bool} (h : ML s τ l) : ML (nrm (rX s 0 0) (rI s 1) (rL s 1)) τ l := h
theorem ML_u {s : rx_S} {τ : tx_T} {l : Option Bool} (h : ML (nrm (rX s 0 0) (rI s 1) (rL s 1)) τ l) : ML s τ l := h
theorem ML_g {s s' : rx_S} {τ : tx_T} {l : Option Bool} (h : ML s τ l) (f : gfp s s') : ML s' τ l := by
  refine ML_u ?_
  rw [show rX s' 0 0 = rX s 0 0 from funext f.2.1, f.2.2.1, f.2.2.2.1]
  exact ML_n h
theorem MR_g {s s' : rx_S} {τ : tx_T} (h : MR s τ) (f : gfp s s') : MR s' τ := by
  have h1 : MR (nrm (rX s 0 0) (rI s 1) (rL s 1)) τ := h
  show MR (nrm (rX s' 0 0) (rI s' 1) (rL s' 1)) τ
  rw [show rX s' 0 0 = rX s 0 0 from funext f.2.1, f.2.2.1, f.2.2.2.1]
  exact h1
/-- the class's roles are alike -/
def clE (s s' : rx_S) : Prop := ∀ r, r ≠ 0 → r ≠ 1 → r ≠ 26 → rA s' r = rA s r ∧ rU s' r = rU s r ∧ rX s' r = rX s r ∧ rI s' r = rI s r ∧ rL s' r = rL s r ∧ rQ s' r = rQ s r ∧ rY s' r = rY s r
def mgB (r : Nat) : Bool := Nat.beq r 0 || Nat.beq r 1 || Nat.beq r 26
def mg (s t : rx_S) : rx_S := (fun r => bif mgB r then rA t r else rA s r, fun r => bif mgB r then rU t r else rU s r, fun r => bif mgB r then rX t r else rX s r, fun r => bif mgB r then rI t r else rI s r, fun r => bif mgB r then rL t r else rL s r, fun r => bif mgB r then rQ t r else rQ s r, fun r => bif mgB r then rY t r else rY s r)
theorem mgB_f {r : Nat} (h : mgB r = false) : r ≠ 0 ∧ r ≠ 1 ∧ r ≠ 26 := by
  unfold mgB at h
  simp only [Bool.or_eq_false_iff] at h
  refine ⟨fun e => ?_, fun e => ?_, fun e => ?_⟩
  · rw [e] at h; cases h.1.1
  · rw [e] at h; cases h.1.2
  · rw [e] at h; cases h.2
theorem mg_eq {s s' : rx_S} (h : clE s s') : mg s s' = s' := by
  have k : ∀ r, mgB r = false → rA s' r = rA s r ∧ rU s' r = rU s r ∧ rX s' r = rX s r ∧ rI s' r = rI s r ∧ rL s' r = rL s r ∧ rQ s' r = rQ s r ∧ rY s' r = rY s r := fun r hr => h r (mgB_f hr).1 (mgB_f hr).2.1 (mgB_f hr).2.2
  obtain ⟨a1, a2, a3, a4, a5, a6, a7⟩ := s'
  show (_, _, _, _, _, _, _) = _
  congr 1
  · funext r
    cases e : mgB r with
    | true => rfl
    | false => exact (k r e).1.symm
  congr 1
  · funext r
    cases e : mgB r with
    | true => rfl
    | false => exact (k r e).2.1.symm
  congr 1
  · funext r
    cases e : mgB r with
    | true => rfl
    | false => exact (k r e).2.2.1.symm
  congr 1
  · funext r
    cases e : mgB r with
    | true => rfl
    | false => exact (k r e).2.2.2.1.symm
  congr 1
  · funext r
    cases e : mgB r with
    | true => rfl
    | false => exact (k r e).2.2.2.2.1.symm
  congr 1
  · funext r
    cases e : mgB r with
    | true => rfl
    | false => exact (k r e).2.2.2.2.2.1.symm
  · funext r
    cases e : mgB r with
    | true => rfl
    | false => exact (k r e).2.2.2.2.2.2.symm
theorem CT_mg {E : Nat → Nat} {s t : rx_S} {τ : tx_T} (h : CT E s τ) : CT E (mg s t) τ := by
  obtain ⟨h1, h2, h3, h4, h5, h6, h7, h8, h9, h10, h11, h12, h13⟩ := h
  refine ⟨fun r f q hq => ?_, h2, h3, ?_, h5, h6, h7, h8, h9, h10, h11, h12, h13⟩
  · obtain ⟨a1, a2⟩ := cst_lt hq
    have e : mgB r = false := by
      have : r = 0 ∨ r = 1 ∨ r = 2 ∨ r = 3 ∨ r = 4 ∨ r = 5 ∨ r = 6 ∨ r = 7 := by omega
      rcases this with rfl | rfl | rfl | rfl | rfl | rfl | rfl | rfl
      · exfalso; unfold cst at hq; split at hq <;> first | (cases hq; done) | omega
      · exfalso; unfold cst at hq; split at hq <;> first | (cases hq; done) | omega
      all_goals rfl
    show (bif mgB r then rX t r else rX s r) 0 f = _
    rw [e]
    exact h1 r f q hq
  · intro r i r' i' a q1 q2 q3 q4 q5 q6
    rcases q1 with rfl | rfl | rfl <;> rcases q2 with rfl | rfl | rfl
    · exact h4 8 i 8 i' a (Or.inl rfl) (Or.inl rfl) q3 q4 q5 q6
    · exact h4 8 i 21 i' a (Or.inl rfl) (Or.inr (Or.inl rfl)) q3 q4 q5 q6
    · exact h4 8 i 22 i' a (Or.inl rfl) (Or.inr (Or.inr rfl)) q3 q4 q5 q6
    · exact h4 21 i 8 i' a (Or.inr (Or.inl rfl)) (Or.inl rfl) q3 q4 q5 q6
    · exact h4 21 i 21 i' a (Or.inr (Or.inl rfl)) (Or.inr (Or.inl rfl)) q3 q4 q5 q6
    · exact h4 21 i 22 i' a (Or.inr (Or.inl rfl)) (Or.inr (Or.inr rfl)) q3 q4 q5 q6
    · exact h4 22 i 8 i' a (Or.inr (Or.inr rfl)) (Or.inl rfl) q3 q4 q5 q6
    · exact h4 22 i 21 i' a (Or.inr (Or.inr rfl)) (Or.inr (Or.inl rfl)) q3 q4 q5 q6
    · exact h4 22 i 22 i' a (Or.inr (Or.inr rfl)) (Or.inr (Or.inr rfl)) q3 q4 q5 q6
theorem CL_mg {E : Nat → Nat} {s t : rx_S} {τ : tx_T} {l : Option Bool} (h : CL E s τ l) : CL E (mg s t) τ l := ⟨CT_mg h.1, h.2⟩
theorem CT_e {E : Nat → Nat} {s s' : rx_S} {τ : tx_T} (h : CT E s τ) (f : clE s s') : CT E s' τ := by
  have := CT_mg (t := s') h
  rw [mg_eq f] at this; exact this
theorem CL_e {E : Nat → Nat} {s s' : rx_S} {τ : tx_T} {l : Option Bool} (h : CL E s τ l) (f : clE s s') : CL E s' τ l := by
  have := CL_mg (t := s') h
  rw [mg_eq f] at this; exact this
theorem mfr_e {s s' : rx_S} (f : mfr s s') : clE s s' := fun r h0 h1 _ => ⟨congrFun f.1 r, congrFun f.2.1 r, (f.2.2.2.2 r (by omega)).1, (f.2.2.2.2 r (by omega)).2.1, (f.2.2.2.2 r (by omega)).2.2, congrFun f.2.2.1 r, congrFun f.2.2.2.1 r⟩
theorem sL26_e {s : rx_S} {k : Nat} {v : Int64} : clE s (sL s 26 0 k v) := fun r _ _ h26 => ⟨rfl, rfl, rfl, rfl, funext fun i => funext fun j => sL_p (fun q => h26 q.1), rfl, rfl⟩
theorem GT_e {s s' : rx_S} (h : GT s) (f : clE s s') : GT s' := by
  obtain ⟨a1, a2, a3, -⟩ := f 2 (by decide) (by decide) (by decide)
  unfold GT
  rw [a3]; exact h
theorem pz_e {s s' : rx_S} {K : Nat} (h : pz s K) (f : clE s s') : pz s' K := by
  obtain ⟨-, a2, a3, -⟩ := f 22 (by decide) (by decide) (by decide)
  intro i m u x
  rw [a2] at u
  rw [a3] at x
  exact h i m u x
theorem nT_object {τ τ' : tx_T} {v : Int32} (e : f_object τ = (v, some τ')) : tN τ 1 ≤ tN τ' 1 := by
  unfold f_object at e
  repeat' split at e
  all_goals first | (cases e; done) | (cases e; exact Nat.le_refl _) | (cases e; exact Nat.le_succ _)
theorem nT_section {τ τ' : tx_T} {v : Int32} {o k z a sd : Int32} (e : f_section τ o k z a sd = (v, some τ')) : tN τ 1 ≤ tN τ' 1 := by
  unfold f_section at e
  repeat' split at e
  all_goals first | (cases e; done) | (cases e; exact Nat.le_refl _) | (cases e; exact Nat.le_succ _)
theorem nT_patch {τ τ' : tx_T} {v : Int32} {x i u : Int32} (e : f_patch τ x i u = (v, some τ')) : tN τ 1 ≤ tN τ' 1 := by
  unfold f_patch at e
  repeat' split at e
  all_goals first | (cases e; done) | (cases e; exact Nat.le_refl _) | (cases e; exact Nat.le_succ _)
theorem nT_mark {τ τ' : tx_T} {v : Int32} {x t u : Int32} (e : f_mark τ x t u = (v, some τ')) : tN τ 1 ≤ tN τ' 1 := by
  unfold f_mark at e
  repeat' split at e
  all_goals first | (cases e; done) | (cases e; exact Nat.le_refl _) | (cases e; exact Nat.le_succ _)
theorem nT_symbol {τ τ' : tx_T} {v : Int32} {o n x i r : Int32} (e : f_symbol τ o n x i r = (v, some τ')) : tN τ 1 ≤ tN τ' 1 := by
  unfold f_symbol at e
  repeat' split at e
  all_goals first | (cases e; done) | (cases e; exact Nat.le_refl _) | (cases e; exact Nat.le_succ _)
theorem nT_relocation {τ τ' : tx_T} {v : Int32} {x i t y a : Int32} (e : f_relocation τ x i t y a = (v, some τ')) : tN τ 1 ≤ tN τ' 1 := by
  unfold f_relocation at e
  repeat' split at e
  all_goals first | (cases e; done) | (cases e; exact Nat.le_refl _) | (cases e; exact Nat.le_succ _)
theorem nT_root {τ τ' : tx_T} {v : Int32} {n : Int32} (e : f_root τ n = (v, some τ')) : tN τ 1 ≤ tN τ' 1 := by
  unfold f_root at e
  repeat' split at e
  all_goals first | (cases e; done) | (cases e; exact Nat.le_refl _) | (cases e; exact Nat.le_succ _)
theorem nT_base {τ τ' : tx_T} {v : Int32} {k p : Int32} (e : f_base τ k p = (v, some τ')) : tN τ 1 ≤ tN τ' 1 := by
  unfold f_base at e
  repeat' split at e
  all_goals first | (cases e; done) | (cases e; exact Nat.le_refl _) | (cases e; exact Nat.le_succ _)
theorem rx_pv {b0 z1 z2 : Nat} {O : Nat → Option mx_C} {s : rx_S} {G : mx_H} (R : rx_R b0 O z1 z2 s G) : rx_R b0 O (z1 + 1) (z2 + 6) s (mx_pv G) :=
  ⟨fun r i h => ⟨(R.1 r i h).1, (R.1 r i h).2.1, Nat.lt_succ_of_lt (R.1 r i h).2.2⟩, R.2.1, R.2.2.1, R.2.2.2.1, R.2.2.2.2.1, Nat.le_succ_of_le R.2.2.2.2.2.1, Nat.succ_le_succ R.2.2.2.2.2.2.1, Nat.add_le_add_right R.2.2.2.2.2.2.2.1 6, R.2.2.2.2.2.2.2.2⟩
