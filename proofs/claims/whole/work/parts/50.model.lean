/-! ===== The model's object ===== -/
def rx_in (s : rx_S) : Prop := ∀ r i, rx_s r i = true → rU s r i = true
/-- the model's fields: arrays lie at their roles, the others hold ints -/
def rm_F (s : rx_S) : Prop := (∀ k, k < 54 → 0 < (rx_m k).2 → rX s 0 0 k = .inr (1, k)) ∧ (∀ k, k < 54 → (rx_m k).2 = 0 → ∃ v : Int32, rX s 0 0 k = .inl (.int v))
def mI (s : rx_S) (k : Nat) : Int32 := match rX s 0 0 k with
  | .inl (.int v) => v
  | _ => 0
def mN (s : rx_S) (k : Nat) : Nat := (mI s k).toNatClampNeg
theorem rm_s {s : rx_S} (h : rm_F s) (k : Nat) (h1 : k < 54) (h2 : (rx_m k).2 = 0) : rX s 0 0 k = .inl (.int (mI s k)) := by
  obtain ⟨v, hv⟩ := h.2 k h1 h2
  rw [hv]; simp only [mI, hv]
/-- a count -/
def mC (s : rx_S) (k n : Nat) : Prop := mI s k = nI n
theorem rm_n {s : rx_S} (h : rm_F s) {k n : Nat} (hc : mC s k n) (h1 : k < 54) (h2 : (rx_m k).2 = 0) : rX s 0 0 k = .inl (.int (nI n)) := by
  rw [rm_s h k h1 h2]; rw [show mI s k = nI n from hc]
theorem rm_X {s : rx_S} (h : rm_F s) {k : Nat} {v : Int32} (h2 : (rx_m k).2 = 0) : rm_F (sX s 0 0 k (.inl (.int v))) := by
  refine ⟨fun j h3 h4 => ?_, fun j h3 h4 => ?_⟩
  · show u3 s.2.2.1 0 0 k _ 0 0 j = _
    rw [u3_n _ _ (fun e => by rw [e.2.2] at h4; omega)]; exact h.1 j h3 h4
  · show ∃ w : Int32, u3 s.2.2.1 0 0 k _ 0 0 j = _
    rw [u3_if]
    by_cases e : j = k
    · exact ⟨v, by rw [if_pos ⟨rfl, rfl, e⟩]⟩
    · obtain ⟨w, hw⟩ := h.2 j h3 h4
      exact ⟨w, by rw [if_neg (fun q => e q.2.2)]; exact hw⟩
theorem rm_I {s : rx_S} (h : rm_F s) {r i k : Nat} {v : Int32} : rm_F (sI s r i k v) := h
theorem rm_L {s : rx_S} (h : rm_F s) {r i k : Nat} {v : Int64} : rm_F (sL s r i k v) := h
/-- told -/
def m_told (s : rx_S) : rx_S := sX (sX (sX (sX s 0 0 29 (.inl (.int 0))) 0 0 30 (.inl (.int 0))) 0 0 31 (.inl (.int 0))) 0 0 32 (.inl (.int (-1)))
theorem m_told_F {s : rx_S} (h : rm_F s) : rm_F (m_told s) := rm_X (rm_X (rm_X (rm_X h rfl) rfl) rfl) rfl
