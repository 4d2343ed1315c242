theorem mx_rt_inl {M : mx_M} {st : List Value} {G : mx_H} {n : Nat} {Q : mx_O → mx_H → Prop} {i : Instr} (h : mx_rt M st G n Q i) : ∃ v, Q (.inl v) G := by
  cases i
  all_goals first
    | exact False.elim h
    | (obtain ⟨e, x, ty, e1, e2, e3, h⟩ := h; exact ⟨_, h⟩)
    | (obtain ⟨e, x, ty, e1, e2, e3, e4, h⟩ := h; exact ⟨_, h⟩)
    | (obtain ⟨e, x, e1, e2, h⟩ := h; exact ⟨_, h⟩)
    | (obtain ⟨e, e1, e2, h⟩ := h; exact ⟨_, h⟩)
set_option maxHeartbeats 4000000 in
theorem mx_metX {P : mx_T} {D : va_G} {aC : Nat → ClassId} {l : Launch} {k : Nat} (hF : mx_Fs P gt_c gt_cl D aC gt_tbl gt_nst gt_ao (gt_Xu P) l k) (hl : l.stackTraces = false) {M : mx_M} {as : List Value} {G : mx_H} {ex : Nat} {G' : mx_H} (hw : mx_wp P k M 0 (mx_en 0 as) [] G (fun a b => a = .inr (ex, 0) ∧ b = G')) (hlen : (lg_sl as).length ≤ mx_ml M) (hg : mx_eg (mx_mg M) 0 as = true) (hpl : plainName (mx_my M).cls = true) (hcl : (mx_my M).cls = gt_c (mx_mc M)) (hm : mx_mc M = 8) (hlt : mx_mf M < 12) (h5 : 5 < mx_mf M) (h82 : 82 ≤ mx_mw M) :
    vx_Met l (mx_my M) (Cond.code (mx_my M) (mx_mb M) (mx_ml M) (mx_mr M) :: gt_tbl) { frames := mx_mf M, cells := G'.2.1 + 1 - G.2.1, slots := G'.2.2 + 6 - G.2.2, locals := mx_mw M } (fun v U => mx_Pc P gt_c gt_cl D aC gt_tbl gt_nst gt_ao as G v U ∧ gt_Xu P U) (fun _ _ _ _ => False) (gt_XC P D aC ex G') (G'.2.1 + 1 - G.2.1) (G'.2.2 + 6 - G.2.2) (mx_A P) := by
  refine vx_ofW (cc := mx_mb M) (maxL := mx_ml M) (ret := mx_mr M) hpl rfl ?_
  intro p e s m args below meth c s₁ B hml hout hv
  obtain ⟨⟨rfl, hR, hU⟩, hXu⟩ := hv
  have hts := atoms_spec (ws := Cond.code (mx_my M) (mx_mb M) (mx_ml M) (mx_mr M) :: gt_tbl) B.pre
  have hown : s.vm.findClass (mx_my M).cls = some m.cls := findClass_of_methodNamed B.named
  have hown8 : s.vm.findClass "SectionGarden" = some m.cls := by rw [← hown, hcl, hm]; rfl
  have hsz := mx_sz hw
  rw [lg_entry_eq]
  refine hF M 0 _ [] G _ G' hw p e _ s m _ below meth c s.heap [] 0 0 _ _ G.2.1 G.2.2 ⟨B.exec, B.bytes, hml, by rw [← hcl]; exact hown, fun w h => hts w (List.mem_cons_of_mem _ h), hU, (name_of_methodNamed B.named B.method).1⟩ (Or.inl hlt) (Nat.le_refl _) (Nat.le_refl _) hR va_S.rf (mx_RL0 hlen hg) (Nat.zero_add _) (Nat.zero_add _) (by show _ ≤ _ + (G'.2.1 + 1 - G.2.1); omega) (by show _ ≤ _ + (G'.2.2 + 6 - G.2.2); omega) ?_
  intro H' locs' cells' slots' ls' pc' n' i st' hls hR' hS' hc hs hd hrt
  rcases hrt with hrt | hrt
  · exfalso
    obtain ⟨v9, h9, -⟩ := mx_rt_inl hrt
    cases h9
  · exact gt_thr (n := n') B.exec B.bytes hml hl hown8 (fun w h => hts w (List.mem_cons_of_mem _ h)) hXu hd hrt hout B.notSynchronized hR' hS' hls h5 h82 (by show _ ≤ G'.2.1 + 1 - G.2.1; omega) (by show _ ≤ G'.2.2 + 6 - G.2.2; omega) (by omega) (by omega)
theorem mx_thr0 {P : mx_T} : ∀ {k : Nat} {M : mx_M} {pc : Nat} {L : mx_L} {st : List Value} {G : mx_H} {ex q : Nat} {G' : mx_H}, mx_wp P k M pc L st G (fun a b => a = .inr (ex, q) ∧ b = G') → q = 0 := by
  intro k
  induction k with
  | zero => intro M pc L st G ex q G' h; exact h.elim
  | succ k ih =>
    intro M pc L st G ex q G' h
    obtain ⟨i, n, hd, h⟩ := h
    rcases h with h | h | ⟨rest, h1, h2⟩ | ⟨M', as, rest, h1, h2⟩ | h | ⟨M', as, a, rest, h1, h2⟩
    · obtain ⟨pc', L', st', G9, h1, -, -, -⟩ := mx_nx_one h
      exact ih h1
    · exfalso
      obtain ⟨v9, h9, -⟩ := mx_rt_inl h
      cases h9
    · exact ih h2
    · obtain ⟨o1, G1, ⟨v, e, h3⟩, -, -, -⟩ := mx_exact h2
      exact ih h3
    · cases i
      all_goals first
        | exact False.elim h
        | (obtain ⟨_, _, _, _, _, _, _, _, _, h9, _⟩ := h; cases h9; rfl)
    · obtain ⟨o1, G1, h3, -, -, -⟩ := mx_exact h2
      obtain ⟨x, G2, h5, -, -, -⟩ := mx_tq_one h3
      exact ih h5
/-- the helper's array takes the answer -/
theorem gt_last {P : mx_T} {D : va_G} {aC : Nat → ClassId} (hy : mx_okY P gt_tbl) {p : Program} {l : Launch} {e : Env} {R : Room} {s : State} {m : MethodId} {args : Array Value} {below : List Frame} {meth : Method} {c : Code} {H : Heap} {locs : List Loc} {cells slots : Nat} {ls : Array Slot} {Q : State → Prop} {cc : ByteArray} {pc a : Nat} {G : mx_H} {f : Nat → Int64} {b : Int64} {rest : List Value} (hx : p.tables.exec = Jvm.exec) (hb : c.code = cc) (hU : mx_U P gt_c gt_cl D aC gt_tbl gt_nst gt_ao s) (hR : mx_R P gt_cl D aC H G) (hS : va_S (mx_A P) s.heap H locs) (ha : mx_t0 P ≤ a) (hfa : G.1 a = some (.inl (1, 1, .inr (.inl f)))) (hd : decode cc pc = .ok (.lastore, 1))
    (kk : ∀ (H1 : Heap) (locs1 : List Loc), mx_R P gt_cl D aC H1 (mx_up G a (.inl (1, 1, .inr (.inl (vp_updL f 0 b))))) → va_S (mx_A P) s.heap H1 locs1 → W p l e R s m args below meth c H1 locs1 cells slots Q (F0 m (pc + 1) ls rest)) : W p l e R s m args below meth c H locs cells slots Q (F0 m pc ls (.long b :: .int 0 :: .ref a :: rest)) := by
  refine W.last hx hb (show H[a]? = some (vp_cell (aC 1) (1, mx_al f)) from (hR.2 a _ hfa).1 ha) ((hU.1.2 1 _ (mx_tl_at hy.2.1)).1 1 (fun j => .long (f j))) (fun q => by cases q) (by show ¬ ((0 : Int32) < 0 ∨ (arrV _ _ _).slots.size ≤ _); rw [arrV_size]; show ¬ ((0 : Int32) < 0 ∨ 1 ≤ Int32.toNatClampNeg 0); decide) rfl rfl hd fun H1 e9 z oq => ?_
  have e00 : (0 : Int32).toNatClampNeg = 0 := by decide
  refine kk H1 _ (hR.up ha z oq ?_) (hS.put z oq ha)
  show H1[a]? = some (vp_cell (aC 1) (1, mx_al (vp_updL f 0 b)))
  rw [e9, e00]
  rw [vp_cell_l, vp_cell_l, arrV_store]
  congr 2
  funext q
  by_cases hq : q = 0
  · subst hq
    simp [updV, vp_updL]
    try rfl
  · simp [updV, vp_updL, hq]
set_option maxHeartbeats 8000000 in
theorem gt_h_place {b0 mi : Nat} {E : Nat → Nat} {D : va_G} {aC : Nat → ClassId} {l : Launch} {k : Nat} (hF : mx_Fs (gt_P b0 mi E) gt_c gt_cl D aC gt_tbl gt_nst gt_ao (gt_Xu (gt_P b0 mi E)) l k) (hl : l.stackTraces = false) {g a : Nat} {x0 : Int32} {fs : List Value} {f : Nat → Int64} {G G1 G2 : mx_H} {o : mx_O} {x : Int32} (hw : mx_wp (gt_P b0 mi E) k mX9_place 0 (mx_en 0 (Value.ref g :: [Value.int x0])) [] G (fun u v => u = o ∧ v = G1)) (htq : mx_tq a o G1 (fun u v => u = x ∧ v = G2)) (hg : G.1 g = some (.inr (8, fs))) (ha : b0 ≤ a) :
    Met l yL_place (Cond.codeWith yL_place cL_place 4 (some .int) [(0, 8, 11, 13), (0, 8, 14, 15)] :: gt_tbl) { frames := 7, cells := G2.2.1 - G.2.1, slots := G2.2.2 - G.2.2, locals := 112 } (fun v U => mx_Pc (gt_P b0 mi E) gt_c gt_cl D aC gt_tbl gt_nst gt_ao (Value.ref g :: ([Value.int x0] ++ [Value.ref a])) G v U ∧ gt_Xu (gt_P b0 mi E) U) (mx_Qc (gt_P b0 mi E) gt_cl D aC (some (.int x)) G2) (G2.2.1 - G.2.1) (G2.2.2 - G.2.2) (mx_A (gt_P b0 mi E)) := by
  refine va_MetW (cc := cL_place) (maxL := 4) (ret := some .int) (hh := [(0, 8, 11, 13), (0, 8, 14, 15)]) (by decide +kernel) rfl ?_
  intro p e s m args below meth c s₁ B hml hv
  obtain ⟨⟨rfl, hR, hU⟩, hXu⟩ := hv
  have hts0 := atoms_spec (ws := Cond.codeWith yL_place cL_place 4 (some .int) [(0, 8, 11, 13), (0, 8, 14, 15)] :: gt_tbl) B.pre
  have hts : ∀ w ∈ gt_tbl, w.before _ s = true := fun w h => hts0 w (List.mem_cons_of_mem _ h)
  have htab := vx_table (x := yL_place) B (hts0 _ List.mem_cons_self)
  have hown : s.vm.findClass "SectionGardenLaw" = some m.cls := findClass_of_methodNamed B.named
  have hok := gt_ok b0 mi E
  obtain ⟨okW, okC, okF, okK, okN, okA, okY, okG, okT, okM⟩ := id hok
  have hL : mx_RL [] 4 _ (mx_en 0 (Value.ref g :: ([Value.int x0] ++ [Value.ref a]))) := mx_RL0 (g := []) (n := 4) (as := Value.ref g :: ([Value.int x0] ++ [Value.ref a])) (show 3 ≤ 4 by decide) rfl
  rw [lg_entry_eq]
  obtain ⟨z1, z2⟩ := mx_sz hw
  obtain ⟨x9, G9, ⟨rfl, rfl⟩, z3, z4, -⟩ := mx_tq_one htq
  refine lv_aload_n B.exec B.bytes dL_place_0 rfl (hL.2.2 2 _ rfl).1 ?_
  refine lv_iconst B.exec B.bytes dL_place_1 rfl ?_
  refine lv_aload_n B.exec B.bytes dL_place_2 rfl (hL.2.2 0 _ rfl).1 ?_
  refine lv_iload_n B.exec B.bytes dL_place_3 rfl (hL.2.2 1 _ rfl).1 ?_
  obtain ⟨-, -, -, -, -, -, -, m1, m2, -, -, -⟩ := okM 12 7 0 1 mX9_place mt_12_7
  obtain ⟨p1, p2, p3, p4, p5, p6⟩ := m1 (by decide) (by decide)
  obtain ⟨q1, q2, q3⟩ := m2 rfl
  obtain ⟨⟨C, T, N⟩, -, q4, -⟩ := mx_obj hR hg
  obtain ⟨e1, -, -⟩ := okC _ _ _ _ q4
  have hrec : ∃ cell : Cell, s.heap[g]? = some cell ∧ cell.vm.isStatics = false ∧ s.vm.findClass (gt_c (mx_mc mX9_place)) = some cell.cls := by
    rw [e1]
    exact mx_recv hU.1 hR q4 hg
  have hPc : ∀ U : State, U.heap = s.heap → s.WarmedH U.vm → mx_Pc (gt_P b0 mi E) gt_c gt_cl D aC gt_tbl gt_nst gt_ao (Value.ref g :: [Value.int x0]) G (Value.ref g :: [Value.int x0] : List Value).toArray U := fun U hH hW => ⟨rfl, by rw [hH]; exact hR, hU.moved okW hW (locs := []) (by rw [hH]; exact va_S.rf)⟩
  rcases o with (_ | v) | ⟨ex, q0⟩
  · exact False.elim htq
  · cases v
    case long b =>
      obtain ⟨f9, h7, rfl, rfl⟩ := htq
      have hM := mx_met hF hw (show 2 ≤ 3 by decide) rfl p1 p6 (by decide)
      refine mx_call (va_runV (As := [Value.int x0]) (rest := [.int 0, .ref a]) (C := gt_c (mx_mc mX9_place)) (Ts := gt_tbl) (n := 1) (own := "SectionGardenLaw") (index := 7) ⟨B.exec, B.bytes, hml, hown, hts⟩ hM ⟨callB_of 1 hts (mx_good okW p2) rfl rfl rfl (hts _ p3) (hts _ q1) ⟨p4.1, p4.2, p5⟩ ⟨show 6 + 1 ≤ 7 by decide, show 8 + (3 + 11) + 90 ≤ 112 by decide⟩, hts _ q2, hts _ q3⟩ ⟨mx_blind okW _ _, hrec, hPc⟩ rfl rfl hL.1 rfl (lv_room (by show 1 + (1 + 0) ≤ 8; decide)) dL_place_4 ⟨by show 0 + (G1.2.1 - G.2.1) ≤ _ - G.2.1; exact Nat.le_of_eq (Nat.zero_add _), by show 0 + (G1.2.2 - G.2.2) ≤ _ - G.2.2; exact Nat.le_of_eq (Nat.zero_add _)⟩) va_S.rf ?_
      intro H1 locs1 hR1 hS1
      refine gt_last okY B.exec B.bytes hU hR1 hS1 ha h7 dL_place_7 ?_
      intro H2 locs2 hR2 hS2
      refine lv_goto B.exec B.bytes dL_place_8 (show ((8 : Nat) : Int) + _ = ((17 : Nat) : Int) by decide) ?_
      refine lv_iconst B.exec B.bytes dL_place_17 rfl ?_
      have e0 : 0 + (G1.2.1 - G.2.1) = G1.2.1 - G.2.1 := Nat.zero_add _
      have e00 : 0 + (G1.2.2 - G.2.2) = G1.2.2 - G.2.2 := Nat.zero_add _
      rw [e0, e00]
      exact W.zret B.exec B.bytes B.returns rfl (fun t ht hW => ⟨rfl, by rw [ht]; exact hR2, hS2.F ht⟩) hS2.2.2 dL_place_18 (hlocks := B.notSynchronized)
    all_goals exact False.elim htq
  · obtain ⟨hex, rfl, rfl⟩ := htq
    have eq0 : q0 = 0 := mx_thr0 hw
    subst eq0
    have hM := mx_metX hF hl hw (show 2 ≤ 3 by decide) rfl p1 p6 rfl (by decide) (by decide) (by decide)
    have hbl : FrameBlind (fun v U => mx_Pc (gt_P b0 mi E) gt_c gt_cl D aC gt_tbl gt_nst gt_ao (Value.ref g :: [Value.int x0]) G v U ∧ gt_Xu (gt_P b0 mi E) U) := fun a9 U g9 mk h => ⟨mx_blind okW _ _ a9 U g9 mk h.1, h.2.calling g9 mk a9⟩
    have hr := vx_runV (p := p) (e := e) (below := below) (meth := meth) (H := s.heap) (locs := []) (cells := 0) (slots := 0) (As := [Value.int x0]) (rest := [.int 0, .ref a]) (C := gt_c (mx_mc mX9_place)) (Ts := gt_tbl) (n := 1) (own := "SectionGardenLaw") (index := 7) (b := g) (g := F0 m 4 ((lg_sl (Value.ref g :: ([Value.int x0] ++ [Value.ref a])) ++ List.replicate (4 - (lg_sl (Value.ref g :: ([Value.int x0] ++ [Value.ref a]))).length) Slot.unset).toArray) (Value.int x0 :: .ref g :: .int 0 :: .ref a :: [])) ⟨B.exec, B.bytes, hml, hown, hts⟩ hM ⟨callB_of (R := (headSpec (Cond.codeWith yL_place cL_place 4 (some .int) [(0, 8, 11, 13), (0, 8, 14, 15)] :: gt_tbl) { frames := 7, cells := (mx_pv G1).2.1 - G.2.1, slots := (mx_pv G1).2.2 - G.2.2, locals := 112 }).room) 1 hts (mx_good okW p2) rfl rfl rfl (hts _ p3) (hts _ q1) ⟨p4.1, p4.2, p5⟩ ⟨show 6 + 1 ≤ 7 by decide, show 8 + (3 + 11) + 90 ≤ 112 by decide⟩, hts _ q2, hts _ q3⟩ ⟨hbl, hrec, fun U hH hW => ⟨hPc U hH hW, hXu.moved hW (locs := []) (by rw [hH]; exact va_S.rf)⟩⟩ rfl rfl hL.1 rfl (lv_room (by show 1 + (1 + 0) ≤ 8; decide)) dL_place_4 ⟨by show 0 + (G1.2.1 + 1 - G.2.1) ≤ G1.2.1 + 1 - G.2.1; omega, by show 0 + (G1.2.2 + 6 - G.2.2) ≤ G1.2.2 + 6 - G.2.2; omega⟩
    intro T hT X
    rcases hr T hT X with ⟨v, st₀, t, T', L, h0, X', hL', e2, e3, hq, st⟩ | ⟨q, st₀, t, T', L, C9, ce, h0, X', hL', e2, e3, ⟨hC, hR1, hF1⟩, hce, hcv, hcl, st⟩
    · exact hq.elim
    · have hS1 : va_S (mx_A (gt_P b0 mi E)) s.heap T'.heap ([] ++ L) := ⟨by rw [e2, ← h0]; exact hF1.1, fun z h1 h2 => by rw [e2, ← h0]; exact hF1.2 z (by rw [h0]; exact h1) h2, fun z hz => hL' z (by simpa using hz)⟩
      have hR2 : mx_R (gt_P b0 mi E) gt_cl D aC T'.heap (mx_pv G1) := by rw [e2]; exact hR1
      have e0 : 0 + (G1.2.1 + 1 - G.2.1) = (mx_pv G1).2.1 - G.2.1 := Nat.zero_add _
      have e00 : 0 + (G1.2.2 + 6 - G.2.2) = (mx_pv G1).2.2 - G.2.2 := Nat.zero_add _
      rw [e0, e00] at X'
      rcases hex with rfl | rfl
      · have hk : vx_W p l e (headSpec (Cond.codeWith yL_place cL_place 4 (some .int) [(0, 8, 11, 13), (0, 8, 14, 15)] :: gt_tbl) { frames := 7, cells := (mx_pv G1).2.1 - G.2.1, slots := (mx_pv G1).2.2 - G.2.2, locals := 112 }).room s m (Value.ref g :: ([Value.int x0] ++ [Value.ref a])).toArray below meth c T'.heap ([] ++ L) ((mx_pv G1).2.1 - G.2.1) ((mx_pv G1).2.2 - G.2.2) (MQ below (mx_Qc (gt_P b0 mi E) gt_cl D aC (some (.int (nI 1))) (mx_pv G1)) (Value.ref g :: ([Value.int x0] ++ [Value.ref a])).toArray s ((mx_pv G1).2.1 - G.2.1) ((mx_pv G1).2.2 - G.2.2) (mx_A (gt_P b0 mi E))) (F0 m 4 ((lg_sl (Value.ref g :: ([Value.int x0] ++ [Value.ref a])) ++ List.replicate (4 - (lg_sl (Value.ref g :: ([Value.int x0] ++ [Value.ref a]))).length) Slot.unset).toArray) [.int 0, .ref a]) q := vx_catch (own := "SectionGardenLaw") (name := "java/lang/IndexOutOfBoundsException") (E := C9) hown [] ⟨0, 8, 11, 13⟩ _ htab (fun z hz => nomatch hz) rfl (by decide) (hts _ (gt_tw_in (.classLink "SectionGardenLaw" 13 "java/lang/IndexOutOfBoundsException") (by decide))) (by rw [hC]; exact va_Nw.use rfl (hXu.2.2.2.2 (.castable "java/lang/IndexOutOfBoundsException" "java/lang/IndexOutOfBoundsException") (by decide))) (by rw [e2]; exact hce) hcv hcl (lv_astore_n B.exec B.bytes dL_place_11 rfl (mx_lv_has hL) (show 3 < 4 by decide) rfl (fun ls9 _ => lv_iconst B.exec B.bytes dL_place_12 rfl (W.zret B.exec B.bytes B.returns rfl (fun t ht hW => ⟨rfl, by rw [ht]; exact hR2, hS1.F ht⟩) hS1.2.2 dL_place_13 (hlocks := B.notSynchronized))))
        obtain ⟨t2, a1, b1⟩ := hk T' rfl X'
        exact ⟨t2, st.trans a1, b1⟩
      · have hk : vx_W p l e (headSpec (Cond.codeWith yL_place cL_place 4 (some .int) [(0, 8, 11, 13), (0, 8, 14, 15)] :: gt_tbl) { frames := 7, cells := (mx_pv G1).2.1 - G.2.1, slots := (mx_pv G1).2.2 - G.2.2, locals := 112 }).room s m (Value.ref g :: ([Value.int x0] ++ [Value.ref a])).toArray below meth c T'.heap ([] ++ L) ((mx_pv G1).2.1 - G.2.1) ((mx_pv G1).2.2 - G.2.2) (MQ below (mx_Qc (gt_P b0 mi E) gt_cl D aC (some (.int (nI 2))) (mx_pv G1)) (Value.ref g :: ([Value.int x0] ++ [Value.ref a])).toArray s ((mx_pv G1).2.1 - G.2.1) ((mx_pv G1).2.2 - G.2.2) (mx_A (gt_P b0 mi E))) (F0 m 4 ((lg_sl (Value.ref g :: ([Value.int x0] ++ [Value.ref a])) ++ List.replicate (4 - (lg_sl (Value.ref g :: ([Value.int x0] ++ [Value.ref a]))).length) Slot.unset).toArray) [.int 0, .ref a]) q := vx_catch (own := "SectionGardenLaw") (name := "java/lang/IllegalStateException") (E := C9) hown [⟨0, 8, 11, 13⟩] ⟨0, 8, 14, 15⟩ _ htab (fun z hz => by
          rw [List.mem_singleton] at hz
          rw [hz, hC]
          exact Or.inr ⟨by decide, "java/lang/IndexOutOfBoundsException", hts _ (gt_tw_in (.classLink "SectionGardenLaw" 13 "java/lang/IndexOutOfBoundsException") (by decide)), hXu.2.2.2.1⟩) rfl (by decide) (hts _ (gt_tw_in (.classLink "SectionGardenLaw" 15 "java/lang/IllegalStateException") (by decide))) (by rw [hC]; exact va_Nw.use rfl (hXu.2.2.2.2 (.castable "java/lang/IllegalStateException" "java/lang/IllegalStateException") (by decide))) (by rw [e2]; exact hce) hcv hcl (lv_astore_n B.exec B.bytes dL_place_14 rfl (mx_lv_has hL) (show 3 < 4 by decide) rfl (fun ls9 _ => lv_iconst B.exec B.bytes dL_place_15 rfl (W.zret B.exec B.bytes B.returns rfl (fun t ht hW => ⟨rfl, by rw [ht]; exact hR2, hS1.F ht⟩) hS1.2.2 dL_place_16 (hlocks := B.notSynchronized))))
        obtain ⟨t2, a1, b1⟩ := hk T' rfl X'
        exact ⟨t2, st.trans a1, b1⟩
set_option maxHeartbeats 8000000 in
theorem gt_h_value {b0 mi : Nat} {E : Nat → Nat} {D : va_G} {aC : Nat → ClassId} {l : Launch} {k : Nat} (hF : mx_Fs (gt_P b0 mi E) gt_c gt_cl D aC gt_tbl gt_nst gt_ao (gt_Xu (gt_P b0 mi E)) l k) (hl : l.stackTraces = false) {g a : Nat} {x0 : Int32} {fs : List Value} {f : Nat → Int64} {G G1 G2 : mx_H} {o : mx_O} {x : Int32} (hw : mx_wp (gt_P b0 mi E) k mX9_value 0 (mx_en 0 (Value.ref g :: [Value.int x0])) [] G (fun u v => u = o ∧ v = G1)) (htq : mx_tq a o G1 (fun u v => u = x ∧ v = G2)) (hg : G.1 g = some (.inr (8, fs))) (ha : b0 ≤ a) :
    Met l yL_value (Cond.codeWith yL_value cL_value 4 (some .int) [(0, 8, 11, 13), (0, 8, 14, 15)] :: gt_tbl) { frames := 7, cells := G2.2.1 - G.2.1, slots := G2.2.2 - G.2.2, locals := 112 } (fun v U => mx_Pc (gt_P b0 mi E) gt_c gt_cl D aC gt_tbl gt_nst gt_ao (Value.ref g :: ([Value.int x0] ++ [Value.ref a])) G v U ∧ gt_Xu (gt_P b0 mi E) U) (mx_Qc (gt_P b0 mi E) gt_cl D aC (some (.int x)) G2) (G2.2.1 - G.2.1) (G2.2.2 - G.2.2) (mx_A (gt_P b0 mi E)) := by
  refine va_MetW (cc := cL_value) (maxL := 4) (ret := some .int) (hh := [(0, 8, 11, 13), (0, 8, 14, 15)]) (by decide +kernel) rfl ?_
  intro p e s m args below meth c s₁ B hml hv
  obtain ⟨⟨rfl, hR, hU⟩, hXu⟩ := hv
  have hts0 := atoms_spec (ws := Cond.codeWith yL_value cL_value 4 (some .int) [(0, 8, 11, 13), (0, 8, 14, 15)] :: gt_tbl) B.pre
  have hts : ∀ w ∈ gt_tbl, w.before _ s = true := fun w h => hts0 w (List.mem_cons_of_mem _ h)
  have htab := vx_table (x := yL_value) B (hts0 _ List.mem_cons_self)
  have hown : s.vm.findClass "SectionGardenLaw" = some m.cls := findClass_of_methodNamed B.named
  have hok := gt_ok b0 mi E
  obtain ⟨okW, okC, okF, okK, okN, okA, okY, okG, okT, okM⟩ := id hok
  have hL : mx_RL [] 4 _ (mx_en 0 (Value.ref g :: ([Value.int x0] ++ [Value.ref a]))) := mx_RL0 (g := []) (n := 4) (as := Value.ref g :: ([Value.int x0] ++ [Value.ref a])) (show 3 ≤ 4 by decide) rfl
  rw [lg_entry_eq]
  obtain ⟨z1, z2⟩ := mx_sz hw
  obtain ⟨x9, G9, ⟨rfl, rfl⟩, z3, z4, -⟩ := mx_tq_one htq
  refine lv_aload_n B.exec B.bytes dL_value_0 rfl (hL.2.2 2 _ rfl).1 ?_
  refine lv_iconst B.exec B.bytes dL_value_1 rfl ?_
  refine lv_aload_n B.exec B.bytes dL_value_2 rfl (hL.2.2 0 _ rfl).1 ?_
  refine lv_iload_n B.exec B.bytes dL_value_3 rfl (hL.2.2 1 _ rfl).1 ?_
  obtain ⟨-, -, -, -, -, -, -, m1, m2, -, -, -⟩ := okM 12 17 0 1 mX9_value mt_12_17
  obtain ⟨p1, p2, p3, p4, p5, p6⟩ := m1 (by decide) (by decide)
  obtain ⟨q1, q2, q3⟩ := m2 rfl
  obtain ⟨⟨C, T, N⟩, -, q4, -⟩ := mx_obj hR hg
  obtain ⟨e1, -, -⟩ := okC _ _ _ _ q4
  have hrec : ∃ cell : Cell, s.heap[g]? = some cell ∧ cell.vm.isStatics = false ∧ s.vm.findClass (gt_c (mx_mc mX9_value)) = some cell.cls := by
    rw [e1]
    exact mx_recv hU.1 hR q4 hg
  have hPc : ∀ U : State, U.heap = s.heap → s.WarmedH U.vm → mx_Pc (gt_P b0 mi E) gt_c gt_cl D aC gt_tbl gt_nst gt_ao (Value.ref g :: [Value.int x0]) G (Value.ref g :: [Value.int x0] : List Value).toArray U := fun U hH hW => ⟨rfl, by rw [hH]; exact hR, hU.moved okW hW (locs := []) (by rw [hH]; exact va_S.rf)⟩
  rcases o with (_ | v) | ⟨ex, q0⟩
  · exact False.elim htq
  · cases v
    case long b =>
      obtain ⟨f9, h7, rfl, rfl⟩ := htq
      have hM := mx_met hF hw (show 2 ≤ 3 by decide) rfl p1 p6 (by decide)
      refine mx_call (va_runV (As := [Value.int x0]) (rest := [.int 0, .ref a]) (C := gt_c (mx_mc mX9_value)) (Ts := gt_tbl) (n := 1) (own := "SectionGardenLaw") (index := 17) ⟨B.exec, B.bytes, hml, hown, hts⟩ hM ⟨callB_of 1 hts (mx_good okW p2) rfl rfl rfl (hts _ p3) (hts _ q1) ⟨p4.1, p4.2, p5⟩ ⟨show 6 + 1 ≤ 7 by decide, show 8 + (3 + 11) + 90 ≤ 112 by decide⟩, hts _ q2, hts _ q3⟩ ⟨mx_blind okW _ _, hrec, hPc⟩ rfl rfl hL.1 rfl (lv_room (by show 1 + (1 + 0) ≤ 8; decide)) dL_value_4 ⟨by show 0 + (G1.2.1 - G.2.1) ≤ _ - G.2.1; exact Nat.le_of_eq (Nat.zero_add _), by show 0 + (G1.2.2 - G.2.2) ≤ _ - G.2.2; exact Nat.le_of_eq (Nat.zero_add _)⟩) va_S.rf ?_
      intro H1 locs1 hR1 hS1
      refine gt_last okY B.exec B.bytes hU hR1 hS1 ha h7 dL_value_7 ?_
      intro H2 locs2 hR2 hS2
      refine lv_goto B.exec B.bytes dL_value_8 (show ((8 : Nat) : Int) + _ = ((17 : Nat) : Int) by decide) ?_
      refine lv_iconst B.exec B.bytes dL_value_17 rfl ?_
      have e0 : 0 + (G1.2.1 - G.2.1) = G1.2.1 - G.2.1 := Nat.zero_add _
      have e00 : 0 + (G1.2.2 - G.2.2) = G1.2.2 - G.2.2 := Nat.zero_add _
      rw [e0, e00]
      exact W.zret B.exec B.bytes B.returns rfl (fun t ht hW => ⟨rfl, by rw [ht]; exact hR2, hS2.F ht⟩) hS2.2.2 dL_value_18 (hlocks := B.notSynchronized)
    all_goals exact False.elim htq
  · obtain ⟨hex, rfl, rfl⟩ := htq
    have eq0 : q0 = 0 := mx_thr0 hw
    subst eq0
    have hM := mx_metX hF hl hw (show 2 ≤ 3 by decide) rfl p1 p6 rfl (by decide) (by decide) (by decide)
    have hbl : FrameBlind (fun v U => mx_Pc (gt_P b0 mi E) gt_c gt_cl D aC gt_tbl gt_nst gt_ao (Value.ref g :: [Value.int x0]) G v U ∧ gt_Xu (gt_P b0 mi E) U) := fun a9 U g9 mk h => ⟨mx_blind okW _ _ a9 U g9 mk h.1, h.2.calling g9 mk a9⟩
    have hr := vx_runV (p := p) (e := e) (below := below) (meth := meth) (H := s.heap) (locs := []) (cells := 0) (slots := 0) (As := [Value.int x0]) (rest := [.int 0, .ref a]) (C := gt_c (mx_mc mX9_value)) (Ts := gt_tbl) (n := 1) (own := "SectionGardenLaw") (index := 17) (b := g) (g := F0 m 4 ((lg_sl (Value.ref g :: ([Value.int x0] ++ [Value.ref a])) ++ List.replicate (4 - (lg_sl (Value.ref g :: ([Value.int x0] ++ [Value.ref a]))).length) Slot.unset).toArray) (Value.int x0 :: .ref g :: .int 0 :: .ref a :: [])) ⟨B.exec, B.bytes, hml, hown, hts⟩ hM ⟨callB_of (R := (headSpec (Cond.codeWith yL_value cL_value 4 (some .int) [(0, 8, 11, 13), (0, 8, 14, 15)] :: gt_tbl) { frames := 7, cells := (mx_pv G1).2.1 - G.2.1, slots := (mx_pv G1).2.2 - G.2.2, locals := 112 }).room) 1 hts (mx_good okW p2) rfl rfl rfl (hts _ p3) (hts _ q1) ⟨p4.1, p4.2, p5⟩ ⟨show 6 + 1 ≤ 7 by decide, show 8 + (3 + 11) + 90 ≤ 112 by decide⟩, hts _ q2, hts _ q3⟩ ⟨hbl, hrec, fun U hH hW => ⟨hPc U hH hW, hXu.moved hW (locs := []) (by rw [hH]; exact va_S.rf)⟩⟩ rfl rfl hL.1 rfl (lv_room (by show 1 + (1 + 0) ≤ 8; decide)) dL_value_4 ⟨by show 0 + (G1.2.1 + 1 - G.2.1) ≤ G1.2.1 + 1 - G.2.1; omega, by show 0 + (G1.2.2 + 6 - G.2.2) ≤ G1.2.2 + 6 - G.2.2; omega⟩
    intro T hT X
    rcases hr T hT X with ⟨v, st₀, t, T', L, h0, X', hL', e2, e3, hq, st⟩ | ⟨q, st₀, t, T', L, C9, ce, h0, X', hL', e2, e3, ⟨hC, hR1, hF1⟩, hce, hcv, hcl, st⟩
    · exact hq.elim
    · have hS1 : va_S (mx_A (gt_P b0 mi E)) s.heap T'.heap ([] ++ L) := ⟨by rw [e2, ← h0]; exact hF1.1, fun z h1 h2 => by rw [e2, ← h0]; exact hF1.2 z (by rw [h0]; exact h1) h2, fun z hz => hL' z (by simpa using hz)⟩
      have hR2 : mx_R (gt_P b0 mi E) gt_cl D aC T'.heap (mx_pv G1) := by rw [e2]; exact hR1
      have e0 : 0 + (G1.2.1 + 1 - G.2.1) = (mx_pv G1).2.1 - G.2.1 := Nat.zero_add _
      have e00 : 0 + (G1.2.2 + 6 - G.2.2) = (mx_pv G1).2.2 - G.2.2 := Nat.zero_add _
      rw [e0, e00] at X'
      rcases hex with rfl | rfl
      · have hk : vx_W p l e (headSpec (Cond.codeWith yL_value cL_value 4 (some .int) [(0, 8, 11, 13), (0, 8, 14, 15)] :: gt_tbl) { frames := 7, cells := (mx_pv G1).2.1 - G.2.1, slots := (mx_pv G1).2.2 - G.2.2, locals := 112 }).room s m (Value.ref g :: ([Value.int x0] ++ [Value.ref a])).toArray below meth c T'.heap ([] ++ L) ((mx_pv G1).2.1 - G.2.1) ((mx_pv G1).2.2 - G.2.2) (MQ below (mx_Qc (gt_P b0 mi E) gt_cl D aC (some (.int (nI 1))) (mx_pv G1)) (Value.ref g :: ([Value.int x0] ++ [Value.ref a])).toArray s ((mx_pv G1).2.1 - G.2.1) ((mx_pv G1).2.2 - G.2.2) (mx_A (gt_P b0 mi E))) (F0 m 4 ((lg_sl (Value.ref g :: ([Value.int x0] ++ [Value.ref a])) ++ List.replicate (4 - (lg_sl (Value.ref g :: ([Value.int x0] ++ [Value.ref a]))).length) Slot.unset).toArray) [.int 0, .ref a]) q := vx_catch (own := "SectionGardenLaw") (name := "java/lang/IndexOutOfBoundsException") (E := C9) hown [] ⟨0, 8, 11, 13⟩ _ htab (fun z hz => nomatch hz) rfl (by decide) (hts _ (gt_tw_in (.classLink "SectionGardenLaw" 13 "java/lang/IndexOutOfBoundsException") (by decide))) (by rw [hC]; exact va_Nw.use rfl (hXu.2.2.2.2 (.castable "java/lang/IndexOutOfBoundsException" "java/lang/IndexOutOfBoundsException") (by decide))) (by rw [e2]; exact hce) hcv hcl (lv_astore_n B.exec B.bytes dL_value_11 rfl (mx_lv_has hL) (show 3 < 4 by decide) rfl (fun ls9 _ => lv_iconst B.exec B.bytes dL_value_12 rfl (W.zret B.exec B.bytes B.returns rfl (fun t ht hW => ⟨rfl, by rw [ht]; exact hR2, hS1.F ht⟩) hS1.2.2 dL_value_13 (hlocks := B.notSynchronized))))
        obtain ⟨t2, a1, b1⟩ := hk T' rfl X'
        exact ⟨t2, st.trans a1, b1⟩
      · have hk : vx_W p l e (headSpec (Cond.codeWith yL_value cL_value 4 (some .int) [(0, 8, 11, 13), (0, 8, 14, 15)] :: gt_tbl) { frames := 7, cells := (mx_pv G1).2.1 - G.2.1, slots := (mx_pv G1).2.2 - G.2.2, locals := 112 }).room s m (Value.ref g :: ([Value.int x0] ++ [Value.ref a])).toArray below meth c T'.heap ([] ++ L) ((mx_pv G1).2.1 - G.2.1) ((mx_pv G1).2.2 - G.2.2) (MQ below (mx_Qc (gt_P b0 mi E) gt_cl D aC (some (.int (nI 2))) (mx_pv G1)) (Value.ref g :: ([Value.int x0] ++ [Value.ref a])).toArray s ((mx_pv G1).2.1 - G.2.1) ((mx_pv G1).2.2 - G.2.2) (mx_A (gt_P b0 mi E))) (F0 m 4 ((lg_sl (Value.ref g :: ([Value.int x0] ++ [Value.ref a])) ++ List.replicate (4 - (lg_sl (Value.ref g :: ([Value.int x0] ++ [Value.ref a]))).length) Slot.unset).toArray) [.int 0, .ref a]) q := vx_catch (own := "SectionGardenLaw") (name := "java/lang/IllegalStateException") (E := C9) hown [⟨0, 8, 11, 13⟩] ⟨0, 8, 14, 15⟩ _ htab (fun z hz => by
          rw [List.mem_singleton] at hz
          rw [hz, hC]
          exact Or.inr ⟨by decide, "java/lang/IndexOutOfBoundsException", hts _ (gt_tw_in (.classLink "SectionGardenLaw" 13 "java/lang/IndexOutOfBoundsException") (by decide)), hXu.2.2.2.1⟩) rfl (by decide) (hts _ (gt_tw_in (.classLink "SectionGardenLaw" 15 "java/lang/IllegalStateException") (by decide))) (by rw [hC]; exact va_Nw.use rfl (hXu.2.2.2.2 (.castable "java/lang/IllegalStateException" "java/lang/IllegalStateException") (by decide))) (by rw [e2]; exact hce) hcv hcl (lv_astore_n B.exec B.bytes dL_value_14 rfl (mx_lv_has hL) (show 3 < 4 by decide) rfl (fun ls9 _ => lv_iconst B.exec B.bytes dL_value_15 rfl (W.zret B.exec B.bytes B.returns rfl (fun t ht hW => ⟨rfl, by rw [ht]; exact hR2, hS1.F ht⟩) hS1.2.2 dL_value_16 (hlocks := B.notSynchronized))))
        obtain ⟨t2, a1, b1⟩ := hk T' rfl X'
        exact ⟨t2, st.trans a1, b1⟩
set_option maxHeartbeats 8000000 in
theorem gt_h_range {b0 mi : Nat} {E : Nat → Nat} {D : va_G} {aC : Nat → ClassId} {l : Launch} {k : Nat} (hF : mx_Fs (gt_P b0 mi E) gt_c gt_cl D aC gt_tbl gt_nst gt_ao (gt_Xu (gt_P b0 mi E)) l k) (hl : l.stackTraces = false) {g a : Nat} {x0 x1 : Int32} {fs : List Value} {f : Nat → Int64} {G G1 G2 : mx_H} {o : mx_O} {x : Int32} (hw : mx_wp (gt_P b0 mi E) k mX9_range 0 (mx_en 0 (Value.ref g :: [Value.int x0, Value.int x1])) [] G (fun u v => u = o ∧ v = G1)) (htq : mx_tq a o G1 (fun u v => u = x ∧ v = G2)) (hg : G.1 g = some (.inr (8, fs))) (ha : b0 ≤ a) :
    Met l yL_range (Cond.codeWith yL_range cL_range 5 (some .int) [(0, 9, 12, 13), (0, 9, 16, 15)] :: gt_tbl) { frames := 7, cells := G2.2.1 - G.2.1, slots := G2.2.2 - G.2.2, locals := 112 } (fun v U => mx_Pc (gt_P b0 mi E) gt_c gt_cl D aC gt_tbl gt_nst gt_ao (Value.ref g :: ([Value.int x0, Value.int x1] ++ [Value.ref a])) G v U ∧ gt_Xu (gt_P b0 mi E) U) (mx_Qc (gt_P b0 mi E) gt_cl D aC (some (.int x)) G2) (G2.2.1 - G.2.1) (G2.2.2 - G.2.2) (mx_A (gt_P b0 mi E)) := by
  refine va_MetW (cc := cL_range) (maxL := 5) (ret := some .int) (hh := [(0, 9, 12, 13), (0, 9, 16, 15)]) (by decide +kernel) rfl ?_
  intro p e s m args below meth c s₁ B hml hv
  obtain ⟨⟨rfl, hR, hU⟩, hXu⟩ := hv
  have hts0 := atoms_spec (ws := Cond.codeWith yL_range cL_range 5 (some .int) [(0, 9, 12, 13), (0, 9, 16, 15)] :: gt_tbl) B.pre
  have hts : ∀ w ∈ gt_tbl, w.before _ s = true := fun w h => hts0 w (List.mem_cons_of_mem _ h)
  have htab := vx_table (x := yL_range) B (hts0 _ List.mem_cons_self)
  have hown : s.vm.findClass "SectionGardenLaw" = some m.cls := findClass_of_methodNamed B.named
  have hok := gt_ok b0 mi E
  obtain ⟨okW, okC, okF, okK, okN, okA, okY, okG, okT, okM⟩ := id hok
  have hL : mx_RL [] 5 _ (mx_en 0 (Value.ref g :: ([Value.int x0, Value.int x1] ++ [Value.ref a]))) := mx_RL0 (g := []) (n := 5) (as := Value.ref g :: ([Value.int x0, Value.int x1] ++ [Value.ref a])) (show 4 ≤ 5 by decide) rfl
  rw [lg_entry_eq]
  obtain ⟨z1, z2⟩ := mx_sz hw
  obtain ⟨x9, G9, ⟨rfl, rfl⟩, z3, z4, -⟩ := mx_tq_one htq
  refine lv_aload_n B.exec B.bytes dL_range_0 rfl (hL.2.2 3 _ rfl).1 ?_
  refine lv_iconst B.exec B.bytes dL_range_1 rfl ?_
  refine lv_aload_n B.exec B.bytes dL_range_2 rfl (hL.2.2 0 _ rfl).1 ?_
  refine lv_iload_n B.exec B.bytes dL_range_3 rfl (hL.2.2 1 _ rfl).1 ?_
  refine lv_iload_n B.exec B.bytes dL_range_4 rfl (hL.2.2 2 _ rfl).1 ?_
  obtain ⟨-, -, -, -, -, -, -, m1, m2, -, -, -⟩ := okM 12 20 0 2 mX9_range mt_12_20
  obtain ⟨p1, p2, p3, p4, p5, p6⟩ := m1 (by decide) (by decide)
  obtain ⟨q1, q2, q3⟩ := m2 rfl
  obtain ⟨⟨C, T, N⟩, -, q4, -⟩ := mx_obj hR hg
  obtain ⟨e1, -, -⟩ := okC _ _ _ _ q4
  have hrec : ∃ cell : Cell, s.heap[g]? = some cell ∧ cell.vm.isStatics = false ∧ s.vm.findClass (gt_c (mx_mc mX9_range)) = some cell.cls := by
    rw [e1]
    exact mx_recv hU.1 hR q4 hg
  have hPc : ∀ U : State, U.heap = s.heap → s.WarmedH U.vm → mx_Pc (gt_P b0 mi E) gt_c gt_cl D aC gt_tbl gt_nst gt_ao (Value.ref g :: [Value.int x0, Value.int x1]) G (Value.ref g :: [Value.int x0, Value.int x1] : List Value).toArray U := fun U hH hW => ⟨rfl, by rw [hH]; exact hR, hU.moved okW hW (locs := []) (by rw [hH]; exact va_S.rf)⟩
  rcases o with (_ | v) | ⟨ex, q0⟩
  · exact False.elim htq
  · cases v
    case long b =>
      obtain ⟨f9, h7, rfl, rfl⟩ := htq
      have hM := mx_met hF hw (show 3 ≤ 3 by decide) rfl p1 p6 (by decide)
      refine mx_call (va_runV (As := [Value.int x0, Value.int x1]) (rest := [.int 0, .ref a]) (C := gt_c (mx_mc mX9_range)) (Ts := gt_tbl) (n := 2) (own := "SectionGardenLaw") (index := 20) ⟨B.exec, B.bytes, hml, hown, hts⟩ hM ⟨callB_of 2 hts (mx_good okW p2) rfl rfl rfl (hts _ p3) (hts _ q1) ⟨p4.1, p4.2, p5⟩ ⟨show 6 + 1 ≤ 7 by decide, show 8 + (3 + 11) + 90 ≤ 112 by decide⟩, hts _ q2, hts _ q3⟩ ⟨mx_blind okW _ _, hrec, hPc⟩ rfl rfl hL.1 rfl (lv_room (by show 1 + (1 + 0) ≤ 8; decide)) dL_range_5 ⟨by show 0 + (G1.2.1 - G.2.1) ≤ _ - G.2.1; exact Nat.le_of_eq (Nat.zero_add _), by show 0 + (G1.2.2 - G.2.2) ≤ _ - G.2.2; exact Nat.le_of_eq (Nat.zero_add _)⟩) va_S.rf ?_
      intro H1 locs1 hR1 hS1
      refine gt_last okY B.exec B.bytes hU hR1 hS1 ha h7 dL_range_8 ?_
      intro H2 locs2 hR2 hS2
      refine lv_goto B.exec B.bytes dL_range_9 (show ((9 : Nat) : Int) + _ = ((20 : Nat) : Int) by decide) ?_
      refine lv_iconst B.exec B.bytes dL_range_20 rfl ?_
      have e0 : 0 + (G1.2.1 - G.2.1) = G1.2.1 - G.2.1 := Nat.zero_add _
      have e00 : 0 + (G1.2.2 - G.2.2) = G1.2.2 - G.2.2 := Nat.zero_add _
      rw [e0, e00]
      exact W.zret B.exec B.bytes B.returns rfl (fun t ht hW => ⟨rfl, by rw [ht]; exact hR2, hS2.F ht⟩) hS2.2.2 dL_range_21 (hlocks := B.notSynchronized)
    all_goals exact False.elim htq
  · obtain ⟨hex, rfl, rfl⟩ := htq
    have eq0 : q0 = 0 := mx_thr0 hw
    subst eq0
    have hM := mx_metX hF hl hw (show 3 ≤ 3 by decide) rfl p1 p6 rfl (by decide) (by decide) (by decide)
    have hbl : FrameBlind (fun v U => mx_Pc (gt_P b0 mi E) gt_c gt_cl D aC gt_tbl gt_nst gt_ao (Value.ref g :: [Value.int x0, Value.int x1]) G v U ∧ gt_Xu (gt_P b0 mi E) U) := fun a9 U g9 mk h => ⟨mx_blind okW _ _ a9 U g9 mk h.1, h.2.calling g9 mk a9⟩
    have hr := vx_runV (p := p) (e := e) (below := below) (meth := meth) (H := s.heap) (locs := []) (cells := 0) (slots := 0) (As := [Value.int x0, Value.int x1]) (rest := [.int 0, .ref a]) (C := gt_c (mx_mc mX9_range)) (Ts := gt_tbl) (n := 2) (own := "SectionGardenLaw") (index := 20) (b := g) (g := F0 m 5 ((lg_sl (Value.ref g :: ([Value.int x0, Value.int x1] ++ [Value.ref a])) ++ List.replicate (5 - (lg_sl (Value.ref g :: ([Value.int x0, Value.int x1] ++ [Value.ref a]))).length) Slot.unset).toArray) (Value.int x1 :: Value.int x0 :: .ref g :: .int 0 :: .ref a :: [])) ⟨B.exec, B.bytes, hml, hown, hts⟩ hM ⟨callB_of (R := (headSpec (Cond.codeWith yL_range cL_range 5 (some .int) [(0, 9, 12, 13), (0, 9, 16, 15)] :: gt_tbl) { frames := 7, cells := (mx_pv G1).2.1 - G.2.1, slots := (mx_pv G1).2.2 - G.2.2, locals := 112 }).room) 2 hts (mx_good okW p2) rfl rfl rfl (hts _ p3) (hts _ q1) ⟨p4.1, p4.2, p5⟩ ⟨show 6 + 1 ≤ 7 by decide, show 8 + (3 + 11) + 90 ≤ 112 by decide⟩, hts _ q2, hts _ q3⟩ ⟨hbl, hrec, fun U hH hW => ⟨hPc U hH hW, hXu.moved hW (locs := []) (by rw [hH]; exact va_S.rf)⟩⟩ rfl rfl hL.1 rfl (lv_room (by show 1 + (1 + 0) ≤ 8; decide)) dL_range_5 ⟨by show 0 + (G1.2.1 + 1 - G.2.1) ≤ G1.2.1 + 1 - G.2.1; omega, by show 0 + (G1.2.2 + 6 - G.2.2) ≤ G1.2.2 + 6 - G.2.2; omega⟩
    intro T hT X
    rcases hr T hT X with ⟨v, st₀, t, T', L, h0, X', hL', e2, e3, hq, st⟩ | ⟨q, st₀, t, T', L, C9, ce, h0, X', hL', e2, e3, ⟨hC, hR1, hF1⟩, hce, hcv, hcl, st⟩
    · exact hq.elim
    · have hS1 : va_S (mx_A (gt_P b0 mi E)) s.heap T'.heap ([] ++ L) := ⟨by rw [e2, ← h0]; exact hF1.1, fun z h1 h2 => by rw [e2, ← h0]; exact hF1.2 z (by rw [h0]; exact h1) h2, fun z hz => hL' z (by simpa using hz)⟩
      have hR2 : mx_R (gt_P b0 mi E) gt_cl D aC T'.heap (mx_pv G1) := by rw [e2]; exact hR1
      have e0 : 0 + (G1.2.1 + 1 - G.2.1) = (mx_pv G1).2.1 - G.2.1 := Nat.zero_add _
      have e00 : 0 + (G1.2.2 + 6 - G.2.2) = (mx_pv G1).2.2 - G.2.2 := Nat.zero_add _
      rw [e0, e00] at X'
      rcases hex with rfl | rfl
      · have hk : vx_W p l e (headSpec (Cond.codeWith yL_range cL_range 5 (some .int) [(0, 9, 12, 13), (0, 9, 16, 15)] :: gt_tbl) { frames := 7, cells := (mx_pv G1).2.1 - G.2.1, slots := (mx_pv G1).2.2 - G.2.2, locals := 112 }).room s m (Value.ref g :: ([Value.int x0, Value.int x1] ++ [Value.ref a])).toArray below meth c T'.heap ([] ++ L) ((mx_pv G1).2.1 - G.2.1) ((mx_pv G1).2.2 - G.2.2) (MQ below (mx_Qc (gt_P b0 mi E) gt_cl D aC (some (.int (nI 1))) (mx_pv G1)) (Value.ref g :: ([Value.int x0, Value.int x1] ++ [Value.ref a])).toArray s ((mx_pv G1).2.1 - G.2.1) ((mx_pv G1).2.2 - G.2.2) (mx_A (gt_P b0 mi E))) (F0 m 5 ((lg_sl (Value.ref g :: ([Value.int x0, Value.int x1] ++ [Value.ref a])) ++ List.replicate (5 - (lg_sl (Value.ref g :: ([Value.int x0, Value.int x1] ++ [Value.ref a]))).length) Slot.unset).toArray) [.int 0, .ref a]) q := vx_catch (own := "SectionGardenLaw") (name := "java/lang/IndexOutOfBoundsException") (E := C9) hown [] ⟨0, 9, 12, 13⟩ _ htab (fun z hz => nomatch hz) rfl (by decide) (hts _ (gt_tw_in (.classLink "SectionGardenLaw" 13 "java/lang/IndexOutOfBoundsException") (by decide))) (by rw [hC]; exact va_Nw.use rfl (hXu.2.2.2.2 (.castable "java/lang/IndexOutOfBoundsException" "java/lang/IndexOutOfBoundsException") (by decide))) (by rw [e2]; exact hce) hcv hcl (lv_astore B.exec B.bytes dL_range_12 (mx_lv_has hL) (show 4 < 5 by decide) rfl (fun ls9 _ => lv_iconst B.exec B.bytes dL_range_14 rfl (W.zret B.exec B.bytes B.returns rfl (fun t ht hW => ⟨rfl, by rw [ht]; exact hR2, hS1.F ht⟩) hS1.2.2 dL_range_15 (hlocks := B.notSynchronized))))
        obtain ⟨t2, a1, b1⟩ := hk T' rfl X'
        exact ⟨t2, st.trans a1, b1⟩
      · have hk : vx_W p l e (headSpec (Cond.codeWith yL_range cL_range 5 (some .int) [(0, 9, 12, 13), (0, 9, 16, 15)] :: gt_tbl) { frames := 7, cells := (mx_pv G1).2.1 - G.2.1, slots := (mx_pv G1).2.2 - G.2.2, locals := 112 }).room s m (Value.ref g :: ([Value.int x0, Value.int x1] ++ [Value.ref a])).toArray below meth c T'.heap ([] ++ L) ((mx_pv G1).2.1 - G.2.1) ((mx_pv G1).2.2 - G.2.2) (MQ below (mx_Qc (gt_P b0 mi E) gt_cl D aC (some (.int (nI 2))) (mx_pv G1)) (Value.ref g :: ([Value.int x0, Value.int x1] ++ [Value.ref a])).toArray s ((mx_pv G1).2.1 - G.2.1) ((mx_pv G1).2.2 - G.2.2) (mx_A (gt_P b0 mi E))) (F0 m 5 ((lg_sl (Value.ref g :: ([Value.int x0, Value.int x1] ++ [Value.ref a])) ++ List.replicate (5 - (lg_sl (Value.ref g :: ([Value.int x0, Value.int x1] ++ [Value.ref a]))).length) Slot.unset).toArray) [.int 0, .ref a]) q := vx_catch (own := "SectionGardenLaw") (name := "java/lang/IllegalStateException") (E := C9) hown [⟨0, 9, 12, 13⟩] ⟨0, 9, 16, 15⟩ _ htab (fun z hz => by
          rw [List.mem_singleton] at hz
          rw [hz, hC]
          exact Or.inr ⟨by decide, "java/lang/IndexOutOfBoundsException", hts _ (gt_tw_in (.classLink "SectionGardenLaw" 13 "java/lang/IndexOutOfBoundsException") (by decide)), hXu.2.2.2.1⟩) rfl (by decide) (hts _ (gt_tw_in (.classLink "SectionGardenLaw" 15 "java/lang/IllegalStateException") (by decide))) (by rw [hC]; exact va_Nw.use rfl (hXu.2.2.2.2 (.castable "java/lang/IllegalStateException" "java/lang/IllegalStateException") (by decide))) (by rw [e2]; exact hce) hcv hcl (lv_astore B.exec B.bytes dL_range_16 (mx_lv_has hL) (show 4 < 5 by decide) rfl (fun ls9 _ => lv_iconst B.exec B.bytes dL_range_18 rfl (W.zret B.exec B.bytes B.returns rfl (fun t ht hW => ⟨rfl, by rw [ht]; exact hR2, hS1.F ht⟩) hS1.2.2 dL_range_19 (hlocks := B.notSynchronized))))
        obtain ⟨t2, a1, b1⟩ := hk T' rfl X'
        exact ⟨t2, st.trans a1, b1⟩
