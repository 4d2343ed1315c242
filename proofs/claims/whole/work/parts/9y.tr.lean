set_option maxHeartbeats 8000000 in
/-- TRIES ARE SOUND -/
theorem gt_Tr {b0 mi : Nat} {E : Nat → Nat} {D : va_G} {aC : Nat → ClassId} {l : Launch} (hl : l.stackTraces = false) : ∀ k, mx_Fs (gt_P b0 mi E) gt_c gt_cl D aC gt_tbl gt_nst gt_ao (gt_Xu (gt_P b0 mi E)) l k → mx_Tr (gt_P b0 mi E) gt_c gt_cl D aC gt_tbl gt_nst gt_ao (gt_Xu (gt_P b0 mi E)) l k := by
  intro k hF M pc st G i M' as a rest o G1 x G2 hd hct hw s1 s2 htq p e R s m args below meth c H locs cells slots Qf ls X hXu hfr hlo hR hS hsz hc1 hs1 kk
  obtain ⟨hx, hb, hml, hown, hts, hU, hnm⟩ := X
  have hok := gt_ok b0 mi E
  obtain ⟨okW, okC, okF, okK, okN, okA, okY, okG, okT, okM⟩ := id hok
  cases i
  case invokestatic j =>
    obtain ⟨-, hm, hf, hw9, hrest, ha, ⟨f, hfa⟩, j', na, g, xs, hj, htm, hn, rfl, rfl, fs, hg⟩ := hct
    have hown' : s.vm.findClass "SectionGardenLaw" = some m.cls := by rw [hm] at hown; exact hown
    have hj3 : (j = 78 ∧ j' = 7) ∨ (j = 87 ∧ j' = 17) ∨ (j = 97 ∧ j' = 20) := by
      unfold mx_tj at hj
      split at hj
      · cases hj; exact Or.inl ⟨by assumption, rfl⟩
      · split at hj
        · cases hj; exact Or.inr (Or.inl ⟨by assumption, rfl⟩)
        · split at hj
          · cases hj; exact Or.inr (Or.inr ⟨by assumption, rfl⟩)
          · cases hj
    rcases hj3 with ⟨rfl, rfl⟩ | ⟨rfl, rfl⟩ | ⟨rfl, rfl⟩
    · have e9 : some (0, na, M') = some (0, 1, mX9_place) := htm.symm.trans mt_12_7
      cases e9
      obtain ⟨x0, rfl⟩ : ∃ x0, xs = [x0] := by
        match xs, hn with
        | [x0], _ => exact ⟨x0, rfl⟩
      have hM := gt_h_place hF hl (f := f) hw htq hg ha
      refine mx_call (vx_runSW (cc := mx_mb M) (nL := mx_ml M) (y := yL_place) (bytes := cL_place) (maxL := 4) (ret := some .int) (hh := [(0, 8, 11, 13), (0, 8, 14, 15)]) (As := Value.ref g :: ([Value.int x0] ++ [Value.ref a])) (rest := rest) (Ts := gt_tbl) (own := "SectionGardenLaw") (index := 78) (n := 3) ⟨hx, hb, hml, hown', hts⟩ hM (vx_cwSW 3 hts ?_ rfl rfl rfl ⟨by decide, by decide, by decide +kernel⟩ ⟨by show 7 + 1 ≤ R.frames; rw [hf] at hfr; exact Nat.le_trans (by decide) hfr, by show 8 + (4 + 11) + 112 ≤ R.locals; rw [hw9] at hlo; exact Nat.le_trans (by decide) hlo⟩) ⟨fun a9 U g9 mk h => ⟨mx_blind okW _ _ a9 U g9 mk h.1, h.2.calling g9 mk a9⟩, fun U hH hW => ⟨⟨rfl, by rw [hH]; exact hR, hU.moved okW hW (locs := locs) (by rw [hH]; exact hS)⟩, hXu.moved hW (locs := locs) (by rw [hH]; exact hS)⟩⟩ rfl rfl hsz rfl (lv_room hrest) hd ⟨hc1, hs1⟩) hS kk
      intro w hw
      have h : w ∈ gt_tbl := by
        rcases List.mem_append.mp (show w ∈ ([.methodLink "SectionGardenLaw" 78 yL_place, .static yL_place, .initialized "SectionGardenLaw"] : List Cond) ++ (Cond.codeWith yL_place cL_place 4 (some .int) [(0, 8, 11, 13), (0, 8, 14, 15)] :: gt_tbl) from hw) with h | h
        · simp only [List.mem_cons, List.not_mem_nil, or_false] at h
          rcases h with rfl | rfl | rfl
          · exact gt_tw_in (.methodLink "SectionGardenLaw" 78 yL_place) (by simp [gt_tw])
          · exact gt_tw_in (.static yL_place) (by simp [gt_tw])
          · exact gt_tw_in (.initialized "SectionGardenLaw") (by simp [gt_tw])
        · rcases List.mem_cons.mp h with rfl | h
          · exact gt_tw_in (Cond.codeWith yL_place cL_place 4 (some .int) [(0, 8, 11, 13), (0, 8, 14, 15)]) (by simp [gt_tw])
          · exact h
      exact ⟨h, good_of_word (okW.1 w h)⟩
    · have e9 : some (0, na, M') = some (0, 1, mX9_value) := htm.symm.trans mt_12_17
      cases e9
      obtain ⟨x0, rfl⟩ : ∃ x0, xs = [x0] := by
        match xs, hn with
        | [x0], _ => exact ⟨x0, rfl⟩
      have hM := gt_h_value hF hl (f := f) hw htq hg ha
      refine mx_call (vx_runSW (cc := mx_mb M) (nL := mx_ml M) (y := yL_value) (bytes := cL_value) (maxL := 4) (ret := some .int) (hh := [(0, 8, 11, 13), (0, 8, 14, 15)]) (As := Value.ref g :: ([Value.int x0] ++ [Value.ref a])) (rest := rest) (Ts := gt_tbl) (own := "SectionGardenLaw") (index := 87) (n := 3) ⟨hx, hb, hml, hown', hts⟩ hM (vx_cwSW 3 hts ?_ rfl rfl rfl ⟨by decide, by decide, by decide +kernel⟩ ⟨by show 7 + 1 ≤ R.frames; rw [hf] at hfr; exact Nat.le_trans (by decide) hfr, by show 8 + (4 + 11) + 112 ≤ R.locals; rw [hw9] at hlo; exact Nat.le_trans (by decide) hlo⟩) ⟨fun a9 U g9 mk h => ⟨mx_blind okW _ _ a9 U g9 mk h.1, h.2.calling g9 mk a9⟩, fun U hH hW => ⟨⟨rfl, by rw [hH]; exact hR, hU.moved okW hW (locs := locs) (by rw [hH]; exact hS)⟩, hXu.moved hW (locs := locs) (by rw [hH]; exact hS)⟩⟩ rfl rfl hsz rfl (lv_room hrest) hd ⟨hc1, hs1⟩) hS kk
      intro w hw
      have h : w ∈ gt_tbl := by
        rcases List.mem_append.mp (show w ∈ ([.methodLink "SectionGardenLaw" 87 yL_value, .static yL_value, .initialized "SectionGardenLaw"] : List Cond) ++ (Cond.codeWith yL_value cL_value 4 (some .int) [(0, 8, 11, 13), (0, 8, 14, 15)] :: gt_tbl) from hw) with h | h
        · simp only [List.mem_cons, List.not_mem_nil, or_false] at h
          rcases h with rfl | rfl | rfl
          · exact gt_tw_in (.methodLink "SectionGardenLaw" 87 yL_value) (by simp [gt_tw])
          · exact gt_tw_in (.static yL_value) (by simp [gt_tw])
          · exact gt_tw_in (.initialized "SectionGardenLaw") (by simp [gt_tw])
        · rcases List.mem_cons.mp h with rfl | h
          · exact gt_tw_in (Cond.codeWith yL_value cL_value 4 (some .int) [(0, 8, 11, 13), (0, 8, 14, 15)]) (by simp [gt_tw])
          · exact h
      exact ⟨h, good_of_word (okW.1 w h)⟩
    · have e9 : some (0, na, M') = some (0, 2, mX9_range) := htm.symm.trans mt_12_20
      cases e9
      obtain ⟨x0, x1, rfl⟩ : ∃ x0 x1, xs = [x0, x1] := by
        match xs, hn with
        | [x0, x1], _ => exact ⟨x0, x1, rfl⟩
      have hM := gt_h_range hF hl (f := f) hw htq hg ha
      refine mx_call (vx_runSW (cc := mx_mb M) (nL := mx_ml M) (y := yL_range) (bytes := cL_range) (maxL := 5) (ret := some .int) (hh := [(0, 9, 12, 13), (0, 9, 16, 15)]) (As := Value.ref g :: ([Value.int x0, Value.int x1] ++ [Value.ref a])) (rest := rest) (Ts := gt_tbl) (own := "SectionGardenLaw") (index := 97) (n := 4) ⟨hx, hb, hml, hown', hts⟩ hM (vx_cwSW 4 hts ?_ rfl rfl rfl ⟨by decide, by decide, by decide +kernel⟩ ⟨by show 7 + 1 ≤ R.frames; rw [hf] at hfr; exact Nat.le_trans (by decide) hfr, by show 8 + (5 + 11) + 112 ≤ R.locals; rw [hw9] at hlo; exact Nat.le_trans (by decide) hlo⟩) ⟨fun a9 U g9 mk h => ⟨mx_blind okW _ _ a9 U g9 mk h.1, h.2.calling g9 mk a9⟩, fun U hH hW => ⟨⟨rfl, by rw [hH]; exact hR, hU.moved okW hW (locs := locs) (by rw [hH]; exact hS)⟩, hXu.moved hW (locs := locs) (by rw [hH]; exact hS)⟩⟩ rfl rfl hsz rfl (lv_room hrest) hd ⟨hc1, hs1⟩) hS kk
      intro w hw
      have h : w ∈ gt_tbl := by
        rcases List.mem_append.mp (show w ∈ ([.methodLink "SectionGardenLaw" 97 yL_range, .static yL_range, .initialized "SectionGardenLaw"] : List Cond) ++ (Cond.codeWith yL_range cL_range 5 (some .int) [(0, 9, 12, 13), (0, 9, 16, 15)] :: gt_tbl) from hw) with h | h
        · simp only [List.mem_cons, List.not_mem_nil, or_false] at h
          rcases h with rfl | rfl | rfl
          · exact gt_tw_in (.methodLink "SectionGardenLaw" 97 yL_range) (by simp [gt_tw])
          · exact gt_tw_in (.static yL_range) (by simp [gt_tw])
          · exact gt_tw_in (.initialized "SectionGardenLaw") (by simp [gt_tw])
        · rcases List.mem_cons.mp h with rfl | h
          · exact gt_tw_in (Cond.codeWith yL_range cL_range 5 (some .int) [(0, 9, 12, 13), (0, 9, 16, 15)]) (by simp [gt_tw])
          · exact h
      exact ⟨h, good_of_word (okW.1 w h)⟩
  all_goals exact False.elim hct
