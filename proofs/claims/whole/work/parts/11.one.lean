set_option maxHeartbeats 4000000 in
/-- an instruction goes on in one way, and takes nothing back -/
theorem mx_nx_one {P : mx_T} {M : mx_M} {pc : Nat} {L : mx_L} {st : List Value} {G : mx_H} {n : Nat} {K : Nat → mx_L → List Value → mx_H → Prop} {i : Instr} (h : mx_nx P M pc L st G n K i) :
    ∃ pc' L' st' G', K pc' L' st' G' ∧ G.2.1 ≤ G'.2.1 ∧ G.2.2 ≤ G'.2.2 ∧ ∀ K' : Nat → mx_L → List Value → mx_H → Prop, K' pc' L' st' G' → mx_nx P M pc L st G n K' i := by
  cases i
  case ifCond k off =>
    obtain ⟨e, x, r, t, e1, e2, ht, hf⟩ := h
    by_cases hc : mx_cd k x 0
    · exact ⟨_, _, _, _, ht hc, Nat.le_refl _, Nat.le_refl _, fun K' h' => ⟨e, x, r, t, e1, e2, fun _ => h', fun q => absurd hc q⟩⟩
    · exact ⟨_, _, _, _, hf hc, Nat.le_refl _, Nat.le_refl _, fun K' h' => ⟨e, x, r, t, e1, e2, fun q => absurd q hc, fun _ => h'⟩⟩
  case if_icmp k off =>
    obtain ⟨e, x, y, r, t, e1, e2, ht, hf⟩ := h
    by_cases hc : mx_cd k x y
    · exact ⟨_, _, _, _, ht hc, Nat.le_refl _, Nat.le_refl _, fun K' h' => ⟨e, x, y, r, t, e1, e2, fun _ => h', fun q => absurd hc q⟩⟩
    · exact ⟨_, _, _, _, hf hc, Nat.le_refl _, Nat.le_refl _, fun K' h' => ⟨e, x, y, r, t, e1, e2, fun q => absurd q hc, fun _ => h'⟩⟩
  case if_acmp k off =>
    cases k
    case eq =>
      obtain ⟨e, x, y, r, t, e1, e2, ht, hf⟩ := h
      by_cases hc : x = y
      · exact ⟨_, _, _, _, ht hc, Nat.le_refl _, Nat.le_refl _, fun K' h' => ⟨e, x, y, r, t, e1, e2, fun _ => h', fun q => absurd hc q⟩⟩
      · exact ⟨_, _, _, _, hf hc, Nat.le_refl _, Nat.le_refl _, fun K' h' => ⟨e, x, y, r, t, e1, e2, fun q => absurd q hc, fun _ => h'⟩⟩
    case ne =>
      obtain ⟨e, x, y, r, t, e1, e2, ht, hf⟩ := h
      by_cases hc : x = y
      · exact ⟨_, _, _, _, hf hc, Nat.le_refl _, Nat.le_refl _, fun K' h' => ⟨e, x, y, r, t, e1, e2, fun q => absurd hc q, fun _ => h'⟩⟩
      · exact ⟨_, _, _, _, ht hc, Nat.le_refl _, Nat.le_refl _, fun K' h' => ⟨e, x, y, r, t, e1, e2, fun _ => h', fun q => absurd q hc⟩⟩
  case ifnull off =>
    obtain ⟨e, x, r, t, e1, e2, ht, hf⟩ := h
    by_cases hc : x = none
    · exact ⟨_, _, _, _, ht hc, Nat.le_refl _, Nat.le_refl _, fun K' h' => ⟨e, x, r, t, e1, e2, fun _ => h', fun q => absurd hc q⟩⟩
    · exact ⟨_, _, _, _, hf hc, Nat.le_refl _, Nat.le_refl _, fun K' h' => ⟨e, x, r, t, e1, e2, fun q => absurd q hc, fun _ => h'⟩⟩
  case ifnonnull off =>
    obtain ⟨e, x, r, t, e1, e2, ht, hf⟩ := h
    by_cases hc : x = none
    · exact ⟨_, _, _, _, hf hc, Nat.le_refl _, Nat.le_refl _, fun K' h' => ⟨e, x, r, t, e1, e2, fun q => absurd hc q, fun _ => h'⟩⟩
    · exact ⟨_, _, _, _, ht hc, Nat.le_refl _, Nat.le_refl _, fun K' h' => ⟨e, x, r, t, e1, e2, fun _ => h', fun q => absurd q hc⟩⟩
  case tableswitch d lo hi offs =>
    obtain ⟨x, r, e1, ht, hf⟩ := h
    by_cases hc : x.toInt < lo ∨ hi < x.toInt
    · obtain ⟨t, e2, h⟩ := ht hc
      exact ⟨_, _, _, _, h, Nat.le_refl _, Nat.le_refl _, fun K' h' => ⟨x, r, e1, fun _ => ⟨t, e2, h'⟩, fun q => absurd hc q⟩⟩
    · obtain ⟨off, t, e2, e3, h⟩ := hf hc
      exact ⟨_, _, _, _, h, Nat.le_refl _, Nat.le_refl _, fun K' h' => ⟨x, r, e1, fun q => absurd q hc, fun _ => ⟨off, t, e2, e3, h'⟩⟩⟩
  case lookupswitch d ps =>
    obtain ⟨x, r, t, e1, e2, e3, h⟩ := h
    exact ⟨_, _, _, _, h, Nat.le_refl _, Nat.le_refl _, fun K' h' => ⟨x, r, t, e1, e2, e3, h'⟩⟩
  case invokestatic j9 =>
    obtain ⟨e, h⟩ := h
    rcases h with h | h | h | h | h
    · obtain ⟨a0, a1, a2, a3, a4, a5, a6, a7, a8, a9, a10, a11, a12, a13, a14, a15, a16, a17, a18, a19, a20, a21, a22, a23, a24, a25, a26, h⟩ := h
      exact ⟨_, _, _, _, h, Nat.le_refl _, Nat.le_refl _, fun K' h' => ⟨e, Or.inl ⟨a0, a1, a2, a3, a4, a5, a6, a7, a8, a9, a10, a11, a12, a13, a14, a15, a16, a17, a18, a19, a20, a21, a22, a23, a24, a25, a26, h'⟩⟩⟩
    · obtain ⟨x, y, r, na, M', e1, e2, e3, e4, e5, h⟩ := h
      exact ⟨_, _, _, _, h, Nat.le_refl _, Nat.le_refl _, fun K' h' => ⟨e, Or.inr (Or.inl ⟨x, y, r, na, M', e1, e2, e3, e4, e5, h'⟩)⟩⟩
    · obtain ⟨x, y, r, na, M', e1, e2, e3, e4, e5, h⟩ := h
      exact ⟨_, _, _, _, h, Nat.le_refl _, Nat.le_refl _, fun K' h' => ⟨e, Or.inr (Or.inr (Or.inl ⟨x, y, r, na, M', e1, e2, e3, e4, e5, h'⟩))⟩⟩
    · obtain ⟨x, y, r, na, M', e1, e2, e3, e4, e5, h⟩ := h
      exact ⟨_, _, _, _, h, Nat.le_refl _, Nat.le_refl _, fun K' h' => ⟨e, Or.inr (Or.inr (Or.inr (Or.inl ⟨x, y, r, na, M', e1, e2, e3, e4, e5, h'⟩)))⟩⟩
    · obtain ⟨x, y, r, na, M', e1, e2, e3, e4, e5, h⟩ := h
      exact ⟨_, _, _, _, h, Nat.le_refl _, Nat.le_refl _, fun K' h' => ⟨e, Or.inr (Or.inr (Or.inr (Or.inr ⟨x, y, r, na, M', e1, e2, e3, e4, e5, h'⟩)))⟩⟩
  case newarray at9 =>
    cases at9
    all_goals first
    | exact False.elim h
    | (obtain ⟨e, a0, a1, a2, h⟩ := h; exact ⟨_, _, _, _, h, by first | exact Nat.le_refl _ | exact Nat.le_add_right _ _, by first | exact Nat.le_refl _ | exact Nat.le_add_right _ _, fun K' h' => ⟨e, a0, a1, a2, h'⟩⟩)
    | (obtain ⟨e, a0, a1, a2, a3, h⟩ := h; exact ⟨_, _, _, _, h, by first | exact Nat.le_refl _ | exact Nat.le_add_right _ _, by first | exact Nat.le_refl _ | exact Nat.le_add_right _ _, fun K' h' => ⟨e, a0, a1, a2, a3, h'⟩⟩)
    | (obtain ⟨e, a0, a1, a2, a3, a4, h⟩ := h; exact ⟨_, _, _, _, h, by first | exact Nat.le_refl _ | exact Nat.le_add_right _ _, by first | exact Nat.le_refl _ | exact Nat.le_add_right _ _, fun K' h' => ⟨e, a0, a1, a2, a3, a4, h'⟩⟩)
  all_goals first
    | exact False.elim h
    | (obtain ⟨e, h⟩ := h; exact ⟨_, _, _, _, h, by first | exact Nat.le_refl _ | exact Nat.le_add_right _ _, by first | exact Nat.le_refl _ | exact Nat.le_add_right _ _, fun K' h' => ⟨e, h'⟩⟩)
    | (obtain ⟨e, a0, h⟩ := h; exact ⟨_, _, _, _, h, by first | exact Nat.le_refl _ | exact Nat.le_add_right _ _, by first | exact Nat.le_refl _ | exact Nat.le_add_right _ _, fun K' h' => ⟨e, a0, h'⟩⟩)
    | (obtain ⟨e, a0, a1, h⟩ := h; exact ⟨_, _, _, _, h, by first | exact Nat.le_refl _ | exact Nat.le_add_right _ _, by first | exact Nat.le_refl _ | exact Nat.le_add_right _ _, fun K' h' => ⟨e, a0, a1, h'⟩⟩)
    | (obtain ⟨e, a0, a1, a2, h⟩ := h; exact ⟨_, _, _, _, h, by first | exact Nat.le_refl _ | exact Nat.le_add_right _ _, by first | exact Nat.le_refl _ | exact Nat.le_add_right _ _, fun K' h' => ⟨e, a0, a1, a2, h'⟩⟩)
    | (obtain ⟨e, a0, a1, a2, a3, h⟩ := h; exact ⟨_, _, _, _, h, by first | exact Nat.le_refl _ | exact Nat.le_add_right _ _, by first | exact Nat.le_refl _ | exact Nat.le_add_right _ _, fun K' h' => ⟨e, a0, a1, a2, a3, h'⟩⟩)
    | (obtain ⟨e, a0, a1, a2, a3, a4, h⟩ := h; exact ⟨_, _, _, _, h, by first | exact Nat.le_refl _ | exact Nat.le_add_right _ _, by first | exact Nat.le_refl _ | exact Nat.le_add_right _ _, fun K' h' => ⟨e, a0, a1, a2, a3, a4, h'⟩⟩)
    | (obtain ⟨e, a0, a1, a2, a3, a4, a5, h⟩ := h; exact ⟨_, _, _, _, h, by first | exact Nat.le_refl _ | exact Nat.le_add_right _ _, by first | exact Nat.le_refl _ | exact Nat.le_add_right _ _, fun K' h' => ⟨e, a0, a1, a2, a3, a4, a5, h'⟩⟩)
    | (obtain ⟨e, a0, a1, a2, a3, a4, a5, a6, h⟩ := h; exact ⟨_, _, _, _, h, by first | exact Nat.le_refl _ | exact Nat.le_add_right _ _, by first | exact Nat.le_refl _ | exact Nat.le_add_right _ _, fun K' h' => ⟨e, a0, a1, a2, a3, a4, a5, a6, h'⟩⟩)
    | (obtain ⟨e, a0, a1, a2, a3, a4, a5, a6, a7, h⟩ := h; exact ⟨_, _, _, _, h, by first | exact Nat.le_refl _ | exact Nat.le_add_right _ _, by first | exact Nat.le_refl _ | exact Nat.le_add_right _ _, fun K' h' => ⟨e, a0, a1, a2, a3, a4, a5, a6, a7, h'⟩⟩)
    | (obtain ⟨e, a0, a1, a2, a3, a4, a5, a6, a7, a8, h⟩ := h; exact ⟨_, _, _, _, h, by first | exact Nat.le_refl _ | exact Nat.le_add_right _ _, by first | exact Nat.le_refl _ | exact Nat.le_add_right _ _, fun K' h' => ⟨e, a0, a1, a2, a3, a4, a5, a6, a7, a8, h'⟩⟩)
    | (obtain ⟨e, a0, a1, a2, a3, a4, a5, a6, a7, a8, a9, h⟩ := h; exact ⟨_, _, _, _, h, by first | exact Nat.le_refl _ | exact Nat.le_add_right _ _, by first | exact Nat.le_refl _ | exact Nat.le_add_right _ _, fun K' h' => ⟨e, a0, a1, a2, a3, a4, a5, a6, a7, a8, a9, h'⟩⟩)
    | (obtain ⟨e, a0, a1, a2, a3, a4, a5, a6, a7, a8, a9, a10, h⟩ := h; exact ⟨_, _, _, _, h, by first | exact Nat.le_refl _ | exact Nat.le_add_right _ _, by first | exact Nat.le_refl _ | exact Nat.le_add_right _ _, fun K' h' => ⟨e, a0, a1, a2, a3, a4, a5, a6, a7, a8, a9, a10, h'⟩⟩)
    | (obtain ⟨e, a0, a1, a2, a3, a4, a5, a6, a7, a8, a9, a10, a11, h⟩ := h; exact ⟨_, _, _, _, h, by first | exact Nat.le_refl _ | exact Nat.le_add_right _ _, by first | exact Nat.le_refl _ | exact Nat.le_add_right _ _, fun K' h' => ⟨e, a0, a1, a2, a3, a4, a5, a6, a7, a8, a9, a10, a11, h'⟩⟩)
    | (obtain ⟨e, a0, a1, a2, a3, a4, a5, a6, a7, a8, a9, a10, a11, a12, h⟩ := h; exact ⟨_, _, _, _, h, by first | exact Nat.le_refl _ | exact Nat.le_add_right _ _, by first | exact Nat.le_refl _ | exact Nat.le_add_right _ _, fun K' h' => ⟨e, a0, a1, a2, a3, a4, a5, a6, a7, a8, a9, a10, a11, a12, h'⟩⟩)
    | (obtain ⟨e, a0, a1, a2, a3, a4, a5, a6, a7, a8, a9, a10, a11, a12, a13, h⟩ := h; exact ⟨_, _, _, _, h, by first | exact Nat.le_refl _ | exact Nat.le_add_right _ _, by first | exact Nat.le_refl _ | exact Nat.le_add_right _ _, fun K' h' => ⟨e, a0, a1, a2, a3, a4, a5, a6, a7, a8, a9, a10, a11, a12, a13, h'⟩⟩)
    | (obtain ⟨e, a0, a1, a2, a3, a4, a5, a6, a7, a8, a9, a10, a11, a12, a13, a14, h⟩ := h; exact ⟨_, _, _, _, h, by first | exact Nat.le_refl _ | exact Nat.le_add_right _ _, by first | exact Nat.le_refl _ | exact Nat.le_add_right _ _, fun K' h' => ⟨e, a0, a1, a2, a3, a4, a5, a6, a7, a8, a9, a10, a11, a12, a13, a14, h'⟩⟩)
    | (obtain ⟨e, a0, a1, a2, a3, a4, a5, a6, a7, a8, a9, a10, a11, a12, a13, a14, a15, h⟩ := h; exact ⟨_, _, _, _, h, by first | exact Nat.le_refl _ | exact Nat.le_add_right _ _, by first | exact Nat.le_refl _ | exact Nat.le_add_right _ _, fun K' h' => ⟨e, a0, a1, a2, a3, a4, a5, a6, a7, a8, a9, a10, a11, a12, a13, a14, a15, h'⟩⟩)
    | (obtain ⟨e, a0, a1, a2, a3, a4, a5, a6, a7, a8, a9, a10, a11, a12, a13, a14, a15, a16, h⟩ := h; exact ⟨_, _, _, _, h, by first | exact Nat.le_refl _ | exact Nat.le_add_right _ _, by first | exact Nat.le_refl _ | exact Nat.le_add_right _ _, fun K' h' => ⟨e, a0, a1, a2, a3, a4, a5, a6, a7, a8, a9, a10, a11, a12, a13, a14, a15, a16, h'⟩⟩)
    | (obtain ⟨e, a0, a1, a2, a3, a4, a5, a6, a7, a8, a9, a10, a11, a12, a13, a14, a15, a16, a17, h⟩ := h; exact ⟨_, _, _, _, h, by first | exact Nat.le_refl _ | exact Nat.le_add_right _ _, by first | exact Nat.le_refl _ | exact Nat.le_add_right _ _, fun K' h' => ⟨e, a0, a1, a2, a3, a4, a5, a6, a7, a8, a9, a10, a11, a12, a13, a14, a15, a16, a17, h'⟩⟩)
    | (obtain ⟨e, a0, a1, a2, a3, a4, a5, a6, a7, a8, a9, a10, a11, a12, a13, a14, a15, a16, a17, a18, h⟩ := h; exact ⟨_, _, _, _, h, by first | exact Nat.le_refl _ | exact Nat.le_add_right _ _, by first | exact Nat.le_refl _ | exact Nat.le_add_right _ _, fun K' h' => ⟨e, a0, a1, a2, a3, a4, a5, a6, a7, a8, a9, a10, a11, a12, a13, a14, a15, a16, a17, a18, h'⟩⟩)
    | (obtain ⟨e, a0, a1, a2, a3, a4, a5, a6, a7, a8, a9, a10, a11, a12, a13, a14, a15, a16, a17, a18, a19, h⟩ := h; exact ⟨_, _, _, _, h, by first | exact Nat.le_refl _ | exact Nat.le_add_right _ _, by first | exact Nat.le_refl _ | exact Nat.le_add_right _ _, fun K' h' => ⟨e, a0, a1, a2, a3, a4, a5, a6, a7, a8, a9, a10, a11, a12, a13, a14, a15, a16, a17, a18, a19, h'⟩⟩)
    | (obtain ⟨e, a0, a1, a2, a3, a4, a5, a6, a7, a8, a9, a10, a11, a12, a13, a14, a15, a16, a17, a18, a19, a20, h⟩ := h; exact ⟨_, _, _, _, h, by first | exact Nat.le_refl _ | exact Nat.le_add_right _ _, by first | exact Nat.le_refl _ | exact Nat.le_add_right _ _, fun K' h' => ⟨e, a0, a1, a2, a3, a4, a5, a6, a7, a8, a9, a10, a11, a12, a13, a14, a15, a16, a17, a18, a19, a20, h'⟩⟩)
    | (obtain ⟨e, a0, a1, a2, a3, a4, a5, a6, a7, a8, a9, a10, a11, a12, a13, a14, a15, a16, a17, a18, a19, a20, a21, h⟩ := h; exact ⟨_, _, _, _, h, by first | exact Nat.le_refl _ | exact Nat.le_add_right _ _, by first | exact Nat.le_refl _ | exact Nat.le_add_right _ _, fun K' h' => ⟨e, a0, a1, a2, a3, a4, a5, a6, a7, a8, a9, a10, a11, a12, a13, a14, a15, a16, a17, a18, a19, a20, a21, h'⟩⟩)
    | (obtain ⟨e, a0, a1, a2, a3, a4, a5, a6, a7, a8, a9, a10, a11, a12, a13, a14, a15, a16, a17, a18, a19, a20, a21, a22, h⟩ := h; exact ⟨_, _, _, _, h, by first | exact Nat.le_refl _ | exact Nat.le_add_right _ _, by first | exact Nat.le_refl _ | exact Nat.le_add_right _ _, fun K' h' => ⟨e, a0, a1, a2, a3, a4, a5, a6, a7, a8, a9, a10, a11, a12, a13, a14, a15, a16, a17, a18, a19, a20, a21, a22, h'⟩⟩)
    | (obtain ⟨e, a0, a1, a2, a3, a4, a5, a6, a7, a8, a9, a10, a11, a12, a13, a14, a15, a16, a17, a18, a19, a20, a21, a22, a23, h⟩ := h; exact ⟨_, _, _, _, h, by first | exact Nat.le_refl _ | exact Nat.le_add_right _ _, by first | exact Nat.le_refl _ | exact Nat.le_add_right _ _, fun K' h' => ⟨e, a0, a1, a2, a3, a4, a5, a6, a7, a8, a9, a10, a11, a12, a13, a14, a15, a16, a17, a18, a19, a20, a21, a22, a23, h'⟩⟩)
    | (obtain ⟨e, a0, a1, a2, a3, a4, a5, a6, a7, a8, a9, a10, a11, a12, a13, a14, a15, a16, a17, a18, a19, a20, a21, a22, a23, a24, h⟩ := h; exact ⟨_, _, _, _, h, by first | exact Nat.le_refl _ | exact Nat.le_add_right _ _, by first | exact Nat.le_refl _ | exact Nat.le_add_right _ _, fun K' h' => ⟨e, a0, a1, a2, a3, a4, a5, a6, a7, a8, a9, a10, a11, a12, a13, a14, a15, a16, a17, a18, a19, a20, a21, a22, a23, a24, h'⟩⟩)
    | (obtain ⟨e, a0, a1, a2, a3, a4, a5, a6, a7, a8, a9, a10, a11, a12, a13, a14, a15, a16, a17, a18, a19, a20, a21, a22, a23, a24, a25, h⟩ := h; exact ⟨_, _, _, _, h, by first | exact Nat.le_refl _ | exact Nat.le_add_right _ _, by first | exact Nat.le_refl _ | exact Nat.le_add_right _ _, fun K' h' => ⟨e, a0, a1, a2, a3, a4, a5, a6, a7, a8, a9, a10, a11, a12, a13, a14, a15, a16, a17, a18, a19, a20, a21, a22, a23, a24, a25, h'⟩⟩)
    | (obtain ⟨e, a0, a1, a2, a3, a4, a5, a6, a7, a8, a9, a10, a11, a12, a13, a14, a15, a16, a17, a18, a19, a20, a21, a22, a23, a24, a25, a26, h⟩ := h; exact ⟨_, _, _, _, h, by first | exact Nat.le_refl _ | exact Nat.le_add_right _ _, by first | exact Nat.le_refl _ | exact Nat.le_add_right _ _, fun K' h' => ⟨e, a0, a1, a2, a3, a4, a5, a6, a7, a8, a9, a10, a11, a12, a13, a14, a15, a16, a17, a18, a19, a20, a21, a22, a23, a24, a25, a26, h'⟩⟩)
    | (obtain ⟨e, a0, a1, a2, a3, a4, a5, a6, a7, a8, a9, a10, a11, a12, a13, a14, a15, a16, a17, a18, a19, a20, a21, a22, a23, a24, a25, a26, a27, h⟩ := h; exact ⟨_, _, _, _, h, by first | exact Nat.le_refl _ | exact Nat.le_add_right _ _, by first | exact Nat.le_refl _ | exact Nat.le_add_right _ _, fun K' h' => ⟨e, a0, a1, a2, a3, a4, a5, a6, a7, a8, a9, a10, a11, a12, a13, a14, a15, a16, a17, a18, a19, a20, a21, a22, a23, a24, a25, a26, a27, h'⟩⟩)
    | (obtain ⟨e, a0, a1, a2, a3, a4, a5, a6, a7, a8, a9, a10, a11, a12, a13, a14, a15, a16, a17, a18, a19, a20, a21, a22, a23, a24, a25, a26, a27, a28, h⟩ := h; exact ⟨_, _, _, _, h, by first | exact Nat.le_refl _ | exact Nat.le_add_right _ _, by first | exact Nat.le_refl _ | exact Nat.le_add_right _ _, fun K' h' => ⟨e, a0, a1, a2, a3, a4, a5, a6, a7, a8, a9, a10, a11, a12, a13, a14, a15, a16, a17, a18, a19, a20, a21, a22, a23, a24, a25, a26, a27, a28, h'⟩⟩)
theorem mx_nx_mono {P : mx_T} {M : mx_M} {pc : Nat} {L : mx_L} {st : List Value} {G : mx_H} {n : Nat} {K K' : Nat → mx_L → List Value → mx_H → Prop} {i : Instr} (hK : ∀ pc L st G, K pc L st G → K' pc L st G) (h : mx_nx P M pc L st G n K i) : mx_nx P M pc L st G n K' i := by
  obtain ⟨pc', L', st', G', h1, -, -, h2⟩ := mx_nx_one h
  exact h2 K' (hK _ _ _ _ h1)
theorem mx_rt_one {M : mx_M} {st : List Value} {G : mx_H} {n : Nat} {Q : mx_O → mx_H → Prop} {i : Instr} (h : mx_rt M st G n Q i) : ∃ o, Q o G ∧ ∀ Q' : mx_O → mx_H → Prop, Q' o G → mx_rt M st G n Q' i := by
  cases i
  all_goals first
    | exact False.elim h
    | (obtain ⟨e, x, ty, e1, e2, e3, h⟩ := h; exact ⟨_, h, fun Q' h' => ⟨e, x, ty, e1, e2, e3, h'⟩⟩)
    | (obtain ⟨e, x, ty, e1, e2, e3, e4, h⟩ := h; exact ⟨_, h, fun Q' h' => ⟨e, x, ty, e1, e2, e3, e4, h'⟩⟩)
    | (obtain ⟨e, x, e1, e2, h⟩ := h; exact ⟨_, h, fun Q' h' => ⟨e, x, e1, e2, h'⟩⟩)
    | (obtain ⟨e, e1, e2, h⟩ := h; exact ⟨_, h, fun Q' h' => ⟨e, e1, e2, h'⟩⟩)
theorem mx_rt_mono {M : mx_M} {st : List Value} {G : mx_H} {n : Nat} {Q Q' : mx_O → mx_H → Prop} {i : Instr} (hQ : ∀ o G, Q o G → Q' o G) (h : mx_rt M st G n Q i) : mx_rt M st G n Q' i := by
  obtain ⟨o, h1, h2⟩ := mx_rt_one h
  exact h2 Q' (hQ _ _ h1)
theorem mx_th_one {M : mx_M} {pc : Nat} {st : List Value} {G : mx_H} {n : Nat} {Q : mx_O → mx_H → Prop} {i : Instr} (h : mx_th M pc st G n Q i) : ∃ o, Q o G ∧ ∀ Q' : mx_O → mx_H → Prop, Q' o G → mx_th M pc st G n Q' i := by
  cases i
  all_goals first
    | exact False.elim h
    | (obtain ⟨e, e1, e2, e3, tx, ic, h1, h2, h3, h⟩ := h; exact ⟨_, h, fun Q' h' => ⟨e, e1, e2, e3, tx, ic, h1, h2, h3, h'⟩⟩)
theorem mx_th_mono {M : mx_M} {pc : Nat} {st : List Value} {G : mx_H} {n : Nat} {Q Q' : mx_O → mx_H → Prop} {i : Instr} (hQ : ∀ o G, Q o G → Q' o G) (h : mx_th M pc st G n Q i) : mx_th M pc st G n Q' i := by
  obtain ⟨o, h1, h2⟩ := mx_th_one h
  exact h2 Q' (hQ _ _ h1)
theorem mx_tq_one {a : Nat} {o : mx_O} {G : mx_H} {K : Int32 → mx_H → Prop} (h : mx_tq a o G K) : ∃ x G', K x G' ∧ G.2.1 ≤ G'.2.1 ∧ G.2.2 ≤ G'.2.2 ∧ ∀ K' : Int32 → mx_H → Prop, K' x G' → mx_tq a o G K' := by
  rcases o with (_ | v) | ⟨e, q⟩
  · exact False.elim h
  · cases v
    all_goals first
      | exact False.elim h
      | (obtain ⟨f, h1, h2⟩ := h; exact ⟨0, _, h2, Nat.le_refl _, Nat.le_refl _, fun K' h' => ⟨f, h1, h'⟩⟩)
  · exact ⟨nI e, _, h.2, Nat.le_succ _, Nat.le_add_right _ 6, fun K' h' => ⟨h.1, h'⟩⟩
theorem mx_tq_mono {a : Nat} {o : mx_O} {G : mx_H} {K K' : Int32 → mx_H → Prop} (hK : ∀ x G, K x G → K' x G) (h : mx_tq a o G K) : mx_tq a o G K' := by
  obtain ⟨x, G', h1, -, -, h2⟩ := mx_tq_one h
  exact h2 K' (hK _ _ h1)
/-- more steps, a weaker end -/
theorem mx_mono {P : mx_T} : ∀ {k : Nat} {M : mx_M} {pc : Nat} {L : mx_L} {st : List Value} {G : mx_H} {Q Q' : mx_O → mx_H → Prop}, (∀ o G, Q o G → Q' o G) → mx_wp P k M pc L st G Q → mx_wp P k M pc L st G Q' := by
  intro k
  induction k with
  | zero => intro M pc L st G Q Q' _ h; exact h
  | succ k ih =>
    intro M pc L st G Q Q' hQ h
    obtain ⟨i, n, hd, h⟩ := h
    refine ⟨i, n, hd, ?_⟩
    rcases h with h | h | ⟨rest, h1, h2⟩ | ⟨M', as, rest, h1, h2⟩ | h | ⟨M', as, a, rest, h1, h2⟩
    · exact Or.inl (mx_nx_mono (fun _ _ _ _ h => ih hQ h) h)
    · exact Or.inr (Or.inl (mx_rt_mono hQ h))
    · exact Or.inr (Or.inr (Or.inl ⟨rest, h1, ih hQ h2⟩))
    · exact Or.inr (Or.inr (Or.inr (Or.inl ⟨M', as, rest, h1, ih (fun o G ⟨v, e, h⟩ => ⟨v, e, ih hQ h⟩) h2⟩)))
    · exact Or.inr (Or.inr (Or.inr (Or.inr (Or.inl (mx_th_mono hQ h)))))
    · exact Or.inr (Or.inr (Or.inr (Or.inr (Or.inr ⟨M', as, a, rest, h1, ih (fun o G h => mx_tq_mono (fun _ _ h => ih hQ h) h) h2⟩))))
theorem mx_more {P : mx_T} : ∀ {k : Nat} {M : mx_M} {pc : Nat} {L : mx_L} {st : List Value} {G : mx_H} {Q : mx_O → mx_H → Prop}, mx_wp P k M pc L st G Q → mx_wp P (k + 1) M pc L st G Q := by
  intro k
  induction k with
  | zero => intro M pc L st G Q h; exact h.elim
  | succ k ih =>
    intro M pc L st G Q h
    obtain ⟨i, n, hd, h⟩ := h
    refine ⟨i, n, hd, ?_⟩
    rcases h with h | h | ⟨rest, h1, h2⟩ | ⟨M', as, rest, h1, h2⟩ | h | ⟨M', as, a, rest, h1, h2⟩
    · exact Or.inl (mx_nx_mono (fun _ _ _ _ h => ih h) h)
    · exact Or.inr (Or.inl h)
    · exact Or.inr (Or.inr (Or.inl ⟨rest, h1, ih h2⟩))
    · exact Or.inr (Or.inr (Or.inr (Or.inl ⟨M', as, rest, h1, mx_mono (fun o G ⟨v, e, h⟩ => ⟨v, e, ih h⟩) (ih h2)⟩)))
    · exact Or.inr (Or.inr (Or.inr (Or.inr (Or.inl h))))
    · exact Or.inr (Or.inr (Or.inr (Or.inr (Or.inr ⟨M', as, a, rest, h1, mx_mono (fun o G h => mx_tq_mono (fun _ _ h => ih h) h) (ih h2)⟩))))
theorem mx_le {P : mx_T} {k k' : Nat} {M : mx_M} {pc : Nat} {L : mx_L} {st : List Value} {G : mx_H} {Q : mx_O → mx_H → Prop} (hk : k ≤ k') (h : mx_wp P k M pc L st G Q) : mx_wp P k' M pc L st G Q := by
  induction hk with
  | refl => exact h
  | step _ ih => exact mx_more ih
/-- the end that there is; the heap has only grown -/
theorem mx_exact {P : mx_T} : ∀ {k : Nat} {M : mx_M} {pc : Nat} {L : mx_L} {st : List Value} {G : mx_H} {Q : mx_O → mx_H → Prop}, mx_wp P k M pc L st G Q → ∃ o G', Q o G' ∧ G.2.1 ≤ G'.2.1 ∧ G.2.2 ≤ G'.2.2 ∧ mx_wp P k M pc L st G (fun a b => a = o ∧ b = G') := by
  intro k
  induction k with
  | zero => intro M pc L st G Q h; exact h.elim
  | succ k ih =>
    intro M pc L st G Q h
    obtain ⟨i, n, hd, h⟩ := h
    rcases h with h | h | ⟨rest, h1, h2⟩ | ⟨M', as, rest, h1, h2⟩ | h | ⟨M', as, a, rest, h1, h2⟩
    · obtain ⟨pc', L', st', G', h1, s1, s2, h2⟩ := mx_nx_one h
      obtain ⟨o, G'', q1, q2, q3, q4⟩ := ih h1
      exact ⟨o, G'', q1, Nat.le_trans s1 q2, Nat.le_trans s2 q3, i, n, hd, Or.inl (h2 _ q4)⟩
    · obtain ⟨o, q1, q2⟩ := mx_rt_one h
      exact ⟨o, G, q1, Nat.le_refl _, Nat.le_refl _, i, n, hd, Or.inr (Or.inl (q2 _ ⟨rfl, rfl⟩))⟩
    · obtain ⟨o, G'', q1, q2, q3, q4⟩ := ih h2
      exact ⟨o, G'', q1, q2, q3, i, n, hd, Or.inr (Or.inr (Or.inl ⟨rest, h1, q4⟩))⟩
    · obtain ⟨o1, G1, ⟨v, e, h3⟩, s1, s2, h4⟩ := ih h2
      obtain ⟨o, G'', q1, q2, q3, q4⟩ := ih h3
      exact ⟨o, G'', q1, Nat.le_trans s1 q2, Nat.le_trans s2 q3, i, n, hd, Or.inr (Or.inr (Or.inr (Or.inl ⟨M', as, rest, h1, mx_mono (fun a b ⟨e1, e2⟩ => ⟨v, e1.trans e, by rw [e2]; exact q4⟩) h4⟩)))⟩
    · obtain ⟨o, q1, q2⟩ := mx_th_one h
      exact ⟨o, G, q1, Nat.le_refl _, Nat.le_refl _, i, n, hd, Or.inr (Or.inr (Or.inr (Or.inr (Or.inl (q2 _ ⟨rfl, rfl⟩)))))⟩
    · obtain ⟨o1, G1, h3, s1, s2, h4⟩ := ih h2
      obtain ⟨x, G2, h5, t1, t2, h6⟩ := mx_tq_one h3
      obtain ⟨o, G'', q1, q2, q3, q4⟩ := ih h5
      exact ⟨o, G'', q1, Nat.le_trans s1 (Nat.le_trans t1 q2), Nat.le_trans s2 (Nat.le_trans t2 q3), i, n, hd, Or.inr (Or.inr (Or.inr (Or.inr (Or.inr ⟨M', as, a, rest, h1, mx_mono (fun u v ⟨e1, e2⟩ => by rw [e1, e2]; exact h6 _ q4) h4⟩))))⟩
/-- some number of steps does -/
def mx_W (P : mx_T) (M : mx_M) (pc : Nat) (L : mx_L) (st : List Value) (G : mx_H) (Q : mx_O → mx_H → Prop) : Prop := ∃ k, mx_wp P k M pc L st G Q
theorem mx_W.mono {P : mx_T} {M : mx_M} {pc : Nat} {L : mx_L} {st : List Value} {G : mx_H} {Q Q' : mx_O → mx_H → Prop} (hQ : ∀ o G, Q o G → Q' o G) (h : mx_W P M pc L st G Q) : mx_W P M pc L st G Q' := h.elim fun k hk => ⟨k, mx_mono hQ hk⟩
theorem mx_W.step {P : mx_T} {M : mx_M} {pc : Nat} {L : mx_L} {st : List Value} {G : mx_H} {Q : mx_O → mx_H → Prop} {i : Instr} {n : Nat} (hd : decode (mx_mb M) pc = .ok (i, n)) {pc' : Nat} {L' : mx_L} {st' : List Value} {G' : mx_H} (h : ∀ K : Nat → mx_L → List Value → mx_H → Prop, K pc' L' st' G' → mx_nx P M pc L st G n K i) (k : mx_W P M pc' L' st' G' Q) : mx_W P M pc L st G Q := by
  obtain ⟨k, hk⟩ := k
  exact ⟨k + 1, i, n, hd, Or.inl (h _ hk)⟩
theorem mx_W.two {P : mx_T} {M : mx_M} {pc : Nat} {L : mx_L} {st : List Value} {G : mx_H} {Q : mx_O → mx_H → Prop} {i : Instr} {n : Nat} (hd : decode (mx_mb M) pc = .ok (i, n)) {c : Prop} {p1 p2 : Nat} {L' : mx_L} {st' : List Value} {G' : mx_H} (h : ∀ K : Nat → mx_L → List Value → mx_H → Prop, (c → K p1 L' st' G') → (¬ c → K p2 L' st' G') → mx_nx P M pc L st G n K i) (kt : c → mx_W P M p1 L' st' G' Q) (kf : ¬ c → mx_W P M p2 L' st' G' Q) : mx_W P M pc L st G Q := by
  by_cases hc : c
  · obtain ⟨k, hk⟩ := kt hc
    exact ⟨k + 1, i, n, hd, Or.inl (h _ (fun _ => hk) (fun q => absurd hc q))⟩
  · obtain ⟨k, hk⟩ := kf hc
    exact ⟨k + 1, i, n, hd, Or.inl (h _ (fun q => absurd q hc) (fun _ => hk))⟩
