set_option maxHeartbeats 8000000 in
set_option maxRecDepth 100000 in
/-- calls -/
theorem mx_sc {P : mx_T} {cn : Nat → String} {cl : List vw_C} {D : va_G} {aC : Nat → ClassId} {tbl nst : List Cond} {ao : List String} (hok : mx_ok P cn cl tbl nst ao) {Xu : State → Prop} {l : Launch} {k : Nat} (hF : mx_Fs P cn cl D aC tbl nst ao Xu l k) {M : mx_M} {pc : Nat} {L : mx_L} {st : List Value} {G : mx_H} {o : mx_O} {G' : mx_H} {i : Instr} {n : Nat} (hd : decode (mx_mb M) pc = .ok (i, n)) {M' : mx_M} {as rest : List Value} (hca : mx_ca P M st G n i M' as rest) (h : mx_wp P k M' 0 (mx_en 0 as) [] G (fun o1 G1 => ∃ v, o1 = .inl v ∧ mx_wp P k M (pc + 3) L (v.toList ++ rest) G1 (fun a b => a = o ∧ b = G')))
    {p : Program} {e : Env} {R : Room} {s : State} {m : MethodId} {args : Array Value} {below : List Frame} {meth : Method} {c : Code} {H : Heap} {locs : List Loc} {cells slots : Nat} {Qf : State → Prop} {ls : Array Slot} {z0 u0 : Nat}
    (X : mx_X P cn cl D aC tbl nst ao M p s m args meth c) (hz : mx_mf M < 12 ∨ mx_mf M = 12 ∧ Xu s) (hfr : mx_mf M ≤ R.frames) (hlo : mx_mw M ≤ R.locals) (hR : mx_R P cl D aC H G) (hS : va_S (mx_A P) s.heap H locs) (hL : mx_RL (mx_mg M) (mx_ml M) ls L) (hc : cells + z0 = G.2.1) (hs : slots + u0 = G.2.2) (hG1 : G'.2.1 ≤ z0 + R.cells) (hG2 : G'.2.2 ≤ u0 + R.slots)
    (go : ∀ {pc' : Nat} {L' : mx_L} {st' : List Value} {G1 : mx_H} {H1 : Heap} {locs1 : List Loc} {cells1 slots1 : Nat} {ls1 : Array Slot}, mx_wp P k M pc' L' st' G1 (fun a b => a = o ∧ b = G') → mx_R P cl D aC H1 G1 → va_S (mx_A P) s.heap H1 locs1 → mx_RL (mx_mg M) (mx_ml M) ls1 L' → cells1 + z0 = G1.2.1 → slots1 + u0 = G1.2.2 → W p l e R s m args below meth c H1 locs1 cells1 slots1 Qf (F0 m pc' ls1 st')) :
    W p l e R s m args below meth c H locs cells slots Qf (F0 m pc ls st) := by
  obtain ⟨hx, hb, hml, hown, hts, hU, hnm⟩ := X
  obtain ⟨okW, okC, okF, okK, okN, okA, okY, okG, okT, okM⟩ := hok
  obtain ⟨rfl, w1, w2, w3, w4, w5, hca⟩ := hca
  obtain ⟨o1, G1, ⟨v, rfl, hk⟩, s1, s2, hw⟩ := mx_exact h
  have hlt : mx_mf M' < 12 := by
    have e1 : mx_mf M ≤ 12 := by rcases hz with h | ⟨h, -⟩ <;> omega
    omega
  obtain ⟨t1, t2⟩ := mx_sz hk
  have hPc : ∀ U : State, U.heap = H → s.WarmedH U.vm → mx_Pc P cn cl D aC tbl nst ao as G as.toArray U := fun U hH hW => ⟨rfl, by rw [hH]; exact hR, hU.moved okW hW (locs := locs) (by rw [hH]; exact hS)⟩
  have fit : cells + (G1.2.1 - G.2.1) ≤ R.cells ∧ slots + (G1.2.2 - G.2.2) ≤ R.slots := ⟨by omega, by omega⟩
  have kk : ∀ (H1 : Heap) (locs1 : List Loc), mx_R P cl D aC H1 G1 → va_S (mx_A P) s.heap H1 locs1 → W p l e R s m args below meth c H1 locs1 (cells + (G1.2.1 - G.2.1)) (slots + (G1.2.2 - G.2.2)) Qf (F0 m (pc + 3) ls (v.toList ++ rest)) := fun H1 locs1 r1 r2 => go hk r1 r2 hL (by omega) (by omega)
  cases i
  case invokevirtual j =>
    obtain ⟨na, a, bs, h1, h2, rfl, rfl, h5⟩ := hca
    obtain ⟨-, -, -, -, -, -, -, m1, m2, -, -, -⟩ := okM _ _ _ _ _ h1
    obtain ⟨p1, p2, p3, p4, p5, p6⟩ := m1 (by decide) (by decide)
    obtain ⟨q1, q2, q3⟩ := m2 rfl
    have hM := mx_met hF hw w2 w5 p1 p6 hlt
    refine mx_call (va_runV (As := bs) (rest := rest) (C := cn (mx_mc M')) (Ts := tbl) (n := na) ⟨hx, hb, hml, hown, hts⟩ hM ⟨callB_of na hts (mx_good okW p2) rfl rfl rfl (hts _ p3) (hts _ q1) ⟨p4.1, p4.2, p5⟩ ⟨Nat.le_trans w3 hfr, Nat.le_trans w4 hlo⟩, hts _ q2, hts _ q3⟩ ⟨mx_blind okW _ _, ?_, hPc⟩ rfl h2 hL.1 rfl (lv_room w1) hd fit) hS kk
    rcases h5 with ⟨fs, h5⟩ | h5
    · obtain ⟨⟨C, T, N⟩, -, q4, -⟩ := mx_obj hR h5
      obtain ⟨e1, -, -⟩ := okC _ _ _ _ q4
      rw [e1]
      exact mx_recv hU.1 hR q4 h5
    · obtain ⟨cell, z1, z2, z3, -⟩ := (hU.2.2.2.2.2.2.2.2.2.2 _ _ h5).kept hS.2.1
      exact ⟨cell, z1, z2, z3⟩
  case invokespecial j =>
    obtain ⟨k9, na, a, bs, h1, h0, h2, rfl, rfl⟩ := hca
    obtain ⟨-, -, -, -, -, -, -, m1, -, m3, m4, -⟩ := okM _ _ _ _ _ h1
    obtain ⟨p1, p2, p3, p4, p5, p6⟩ := m1 (by omega) (by omega)
    have hM := mx_met hF hw w2 w5 p1 p6 hlt
    rcases h0 with h0 | h0
    · obtain ⟨q1, q2, q3, q4⟩ := m3 h0
      have cb : CallB R s args (cn (mx_mc M)) j (mx_my M') (mx_mb M') (mx_ml M') (mx_mr M') (Cond.code (mx_my M') (mx_mb M') (mx_ml M') (mx_mr M') :: tbl) { frames := mx_mf M', cells := G1.2.1 - G.2.1, slots := G1.2.2 - G.2.2, locals := mx_mw M' } (G1.2.1 - G.2.1) (G1.2.2 - G.2.2) na := callB_of (Ts := tbl) na hts (mx_good okW p2) rfl rfl rfl (hts _ p3) (hts _ q1) ⟨p4.1, p4.2, p5⟩ ⟨Nat.le_trans w3 hfr, Nat.le_trans w4 hlo⟩
      rw [q4] at cb hM
      exact mx_call (va_runI (As := bs) (rest := rest) (Ts := tbl) (n := na) ⟨hx, hb, hml, hown, hts⟩ hM ⟨cb, q3, hts _ q2⟩ ⟨mx_blind okW _ _, hPc⟩ rfl h2 hL.1 rfl (lv_room w1) hd fit) hS kk
    · obtain ⟨⟨host, q1⟩, q2, q3, q4⟩ := m4 h0
      have cb : va_CN R s args (cn (mx_mc M)) j (mx_my M') host (mx_mb M') (mx_ml M') (mx_mr M') (Cond.code (mx_my M') (mx_mb M') (mx_ml M') (mx_mr M') :: tbl) { frames := mx_mf M', cells := G1.2.1 - G.2.1, slots := G1.2.2 - G.2.2, locals := mx_mw M' } (G1.2.1 - G.2.1) (G1.2.2 - G.2.2) na := va_cnB (Ts := tbl) na hts (mx_good okW p2) rfl rfl rfl (hU.2.1 _ q1) (hts _ p3) ⟨p4.1, p4.2, p5⟩ ⟨Nat.le_trans w3 hfr, Nat.le_trans w4 hlo⟩
      rw [q4] at cb hM
      exact mx_call (va_runIN (As := bs) (rest := rest) (Ts := tbl) (n := na) ⟨hx, hb, hml, hown, hts⟩ hM ⟨cb, q3, hts _ q2⟩ ⟨mx_blind okW _ _, hPc⟩ rfl h2 hL.1 rfl (lv_room w1) hd fit) hS kk
  case invokestatic j =>
    obtain ⟨na, h1, h2, rfl⟩ := hca
    obtain ⟨-, -, -, -, -, -, -, m1, -, -, -, m5⟩ := okM _ _ _ _ _ h1
    obtain ⟨p1, p2, p3, p4, p5, p6⟩ := m1 (by decide) (by decide)
    obtain ⟨q1, q2⟩ := m5 rfl
    have hM := mx_met hF hw w2 w5 p1 p6 hlt
    exact mx_call (va_runS (As := as) (rest := rest) (Ts := tbl) (n := na) ⟨hx, hb, hml, hown, hts⟩ hM ⟨callB_of na hts (mx_good okW p2) rfl rfl rfl (hts _ p3) (hts _ q1) ⟨p4.1, p4.2, p5⟩ ⟨Nat.le_trans w3 hfr, Nat.le_trans w4 hlo⟩, hts _ q2⟩ ⟨mx_blind okW _ _, hPc⟩ rfl h2 hL.1 rfl (lv_room w1) hd fit) hS kk
  all_goals exact False.elim hca
set_option maxHeartbeats 8000000 in
/-- THE SMALL MACHINE IS SOUND: what it runs to, the machine runs to -/
theorem mx_sound {P : mx_T} {cn : Nat → String} {cl : List vw_C} {D : va_G} {aC : Nat → ClassId} {tbl nst : List Cond} {ao : List String} (hok : mx_ok P cn cl tbl nst ao) {Xu : State → Prop} (l : Launch) (hT : ∀ k, mx_Fs P cn cl D aC tbl nst ao Xu l k → mx_Tr P cn cl D aC tbl nst ao Xu l k) : ∀ k, mx_Fs P cn cl D aC tbl nst ao Xu l k := by
  intro k
  induction k with
  | zero => intro M pc L st G o G' h; exact h.elim
  | succ k ih =>
    intro M pc L st G o G' h p e R s m args below meth c H locs cells slots Qf ls z0 u0 X hz hfr hlo hR hS hL hc hs hG1 hG2 hret
    obtain ⟨i, n, hd, h⟩ := h
    have go : ∀ {pc' : Nat} {L' : mx_L} {st' : List Value} {G1 : mx_H} {H1 : Heap} {locs1 : List Loc} {cells1 slots1 : Nat} {ls1 : Array Slot}, mx_wp P k M pc' L' st' G1 (fun a b => a = o ∧ b = G') → mx_R P cl D aC H1 G1 → va_S (mx_A P) s.heap H1 locs1 → mx_RL (mx_mg M) (mx_ml M) ls1 L' → cells1 + z0 = G1.2.1 → slots1 + u0 = G1.2.2 → W p l e R s m args below meth c H1 locs1 cells1 slots1 Qf (F0 m pc' ls1 st') :=
      fun {pc'} {L'} {st'} {G1} {H1} {locs1} {cells1} {slots1} {ls1} r1 r2 r3 r4 r5 r6 => ih M pc' L' st' G1 o G' r1 p e R s m args below meth c H1 locs1 cells1 slots1 Qf ls1 z0 u0 X hz hfr hlo r2 r3 r4 r5 r6 hG1 hG2 hret
    rcases h with h | h | ⟨rest, h1, h2⟩ | ⟨M', as, rest, h1, h2⟩ | h | ⟨M', as, a, rest, h1, h2⟩
    · exact mx_sn hok hd h X hfr hlo hR hS hL hc hs hG1 hG2 go
    · have e1 := mx_rt_n h
      subst e1
      obtain ⟨o2, ⟨-, e2⟩, -⟩ := mx_rt_one h
      subst e2
      exact hret H locs cells slots ls pc 1 i st hL.1 hR hS hc hs hd (Or.inl h)
    · obtain ⟨hx, hb, hml, hown, hts, hU, hnm⟩ := id X
      obtain ⟨okW, okC, okF, okK, okN, okA, okY, okG, okT, okM⟩ := id hok
      cases i
      case invokespecial j =>
        obtain ⟨rfl, ⟨na, M', q1⟩, q2, q3, q4, a, rfl⟩ := h1
        obtain ⟨m0, -⟩ := okM _ _ _ _ _ q1
        obtain ⟨w1, w2, w3⟩ := m0 rfl
        have rm := lv_room (m := m) (pc := pc) (ls := ls) (rest := .ref a :: rest) q2
        exact W.objInit hx hb hown (hts _ w1) (hts _ w2) (hts _ w3) rfl (by rw [hml]; exact hL.1) rfl hd (by omega) (by omega) (W.eq (g2 := F0 m (pc + 3) ls rest) rfl (go h2 hR hS hL hc hs))
      all_goals exact False.elim h1
    · exact mx_sc hok ih hd h1 h2 X hz hfr hlo hR hS hL hc hs hG1 hG2 go
    · obtain ⟨o2, ⟨-, e2⟩, -⟩ := mx_th_one h
      subst e2
      exact hret H locs cells slots ls pc n i st hL.1 hR hS hc hs hd (Or.inr h)
    · obtain ⟨o1, G1, h3, s1, s2, hw⟩ := mx_exact h2
      obtain ⟨x, G2, h5, t1, t2, h6⟩ := mx_tq_one h3
      obtain ⟨u1, u2⟩ := mx_sz h5
      have en : n = 3 := by
        cases i
        all_goals first
          | exact False.elim h1
          | exact h1.1
      subst en
      have hx : Xu s := by
        have e12 : mx_mf M = 12 := by
          cases i
          all_goals first
            | exact False.elim h1
            | exact h1.2.2.1
        rcases hz with h | ⟨-, h⟩
        · omega
        · exact h
      exact hT k ih M pc st G i M' as a rest o1 G1 x G2 hd h1 hw s1 s2 (h6 _ ⟨rfl, rfl⟩) p e R s m args below meth c H locs cells slots Qf ls X hx hfr hlo hR hS hL.1 (by omega) (by omega) (fun H1 locs1 r1 r2 => go h5 r1 r2 hL (by omega) (by omega))
