theorem mx_rt_n {M : mx_M} {st : List Value} {G : mx_H} {n : Nat} {Q : mx_O → mx_H → Prop} {i : Instr} (h : mx_rt M st G n Q i) : n = 1 := by
  cases i
  all_goals first
    | exact False.elim h
    | exact h.1
theorem mx_sz {P : mx_T} {k : Nat} {M : mx_M} {pc : Nat} {L : mx_L} {st : List Value} {G : mx_H} {o : mx_O} {G' : mx_H} (h : mx_wp P k M pc L st G (fun a b => a = o ∧ b = G')) : G.2.1 ≤ G'.2.1 ∧ G.2.2 ≤ G'.2.2 := by
  obtain ⟨o2, G2, ⟨-, e⟩, h1, h2, -⟩ := mx_exact h
  subst e
  exact ⟨h1, h2⟩
/-- a frame's surroundings -/
def mx_X (P : mx_T) (cn : Nat → String) (cl : List vw_C) (D : va_G) (aC : Nat → ClassId) (tbl nst : List Cond) (ao : List String) (M : mx_M) (p : Program) (s : State) (m : MethodId) (args : Array Value) (meth : Method) (c : Code) : Prop :=
  p.tables.exec = Jvm.exec ∧ c.code = mx_mb M ∧ c.maxLocals = mx_ml M ∧ s.vm.findClass (cn (mx_mc M)) = some m.cls ∧ (∀ w ∈ tbl, w.before args s = true) ∧ mx_U P cn cl D aC tbl nst ao s ∧ meth.name = (mx_my M).name
/-- a frame's run of k steps, for the machine -/
def mx_Fs (P : mx_T) (cn : Nat → String) (cl : List vw_C) (D : va_G) (aC : Nat → ClassId) (tbl nst : List Cond) (ao : List String) (Xu : State → Prop) (l : Launch) (k : Nat) : Prop :=
  ∀ (M : mx_M) (pc : Nat) (L : mx_L) (st : List Value) (G : mx_H) (o : mx_O) (G' : mx_H), mx_wp P k M pc L st G (fun a b => a = o ∧ b = G') →
  ∀ (p : Program) (e : Env) (R : Room) (s : State) (m : MethodId) (args : Array Value) (below : List Frame) (meth : Method) (c : Code) (H : Heap) (locs : List Loc) (cells slots : Nat) (Qf : State → Prop) (ls : Array Slot) (z0 u0 : Nat),
    mx_X P cn cl D aC tbl nst ao M p s m args meth c → (mx_mf M < 12 ∨ mx_mf M = 12 ∧ Xu s) → mx_mf M ≤ R.frames → mx_mw M ≤ R.locals → mx_R P cl D aC H G → va_S (mx_A P) s.heap H locs → mx_RL (mx_mg M) (mx_ml M) ls L → cells + z0 = G.2.1 → slots + u0 = G.2.2 → G'.2.1 ≤ z0 + R.cells → G'.2.2 ≤ u0 + R.slots →
    (∀ (H' : Heap) (locs' : List Loc) (cells' slots' : Nat) (ls' : Array Slot) (pc' n' : Nat) (i : Instr) (st' : List Value), ls'.size = mx_ml M → mx_R P cl D aC H' G' → va_S (mx_A P) s.heap H' locs' → cells' + z0 = G'.2.1 → slots' + u0 = G'.2.2 → decode (mx_mb M) pc' = .ok (i, n') → (mx_rt M st' G' n' (fun a b => a = o ∧ b = G') i ∨ mx_th M pc' st' G' n' (fun a b => a = o ∧ b = G') i) → W p l e R s m args below meth c H' locs' cells' slots' Qf (F0 m pc' ls' st')) →
    W p l e R s m args below meth c H locs cells slots Qf (F0 m pc ls st)
def mx_Pc (P : mx_T) (cn : Nat → String) (cl : List vw_C) (D : va_G) (aC : Nat → ClassId) (tbl nst : List Cond) (ao : List String) (as : List Value) (G : mx_H) : Array Value → State → Prop := fun v U => v = as.toArray ∧ mx_R P cl D aC U.heap G ∧ mx_U P cn cl D aC tbl nst ao U
def mx_Qc (P : mx_T) (cl : List vw_C) (D : va_G) (aC : Nat → ClassId) (v : Option Value) (G' : mx_H) : Array Value → State → Outcome → State → Prop := fun _ st oc t => oc = .returned v ∧ mx_R P cl D aC t.heap G' ∧ va_F (mx_A P) st t
set_option maxHeartbeats 4000000 in
theorem mx_met {P : mx_T} {cn : Nat → String} {cl : List vw_C} {D : va_G} {aC : Nat → ClassId} {tbl nst : List Cond} {ao : List String} {Xu : State → Prop} {l : Launch} {k : Nat} (hF : mx_Fs P cn cl D aC tbl nst ao Xu l k) {M : mx_M} {as : List Value} {G : mx_H} {v : Option Value} {G' : mx_H} (hw : mx_wp P k M 0 (mx_en 0 as) [] G (fun a b => a = .inl v ∧ b = G')) (hlen : (lg_sl as).length ≤ mx_ml M) (hg : mx_eg (mx_mg M) 0 as = true) (hpl : plainName (mx_my M).cls = true) (hcl : (mx_my M).cls = cn (mx_mc M)) (hlt : mx_mf M < 12) :
    Met l (mx_my M) (Cond.code (mx_my M) (mx_mb M) (mx_ml M) (mx_mr M) :: tbl) { frames := mx_mf M, cells := G'.2.1 - G.2.1, slots := G'.2.2 - G.2.2, locals := mx_mw M } (mx_Pc P cn cl D aC tbl nst ao as G) (mx_Qc P cl D aC v G') (G'.2.1 - G.2.1) (G'.2.2 - G.2.2) (mx_A P) := by
  refine Met.ofW (cc := mx_mb M) (maxL := mx_ml M) (ret := mx_mr M) hpl rfl ?_
  intro p e s m args below meth c s₁ B hml hv
  obtain ⟨rfl, hR, hU⟩ := hv
  have hts := atoms_spec (ws := Cond.code (mx_my M) (mx_mb M) (mx_ml M) (mx_mr M) :: tbl) B.pre
  have hown : s.vm.findClass (mx_my M).cls = some m.cls := findClass_of_methodNamed B.named
  have hsz := mx_sz hw
  rw [lg_entry_eq]
  refine hF M 0 _ [] G _ G' hw p e _ s m _ below meth c s.heap [] 0 0 _ _ G.2.1 G.2.2 ⟨B.exec, B.bytes, hml, by rw [← hcl]; exact hown, fun w h => hts w (List.mem_cons_of_mem _ h), hU, (name_of_methodNamed B.named B.method).1⟩ (Or.inl hlt) (Nat.le_refl _) (Nat.le_refl _) hR va_S.rf (mx_RL0 hlen hg) (Nat.zero_add _) (Nat.zero_add _) (by show _ ≤ _ + (G'.2.1 - G.2.1); omega) (by show _ ≤ _ + (G'.2.2 - G.2.2); omega) ?_
  intro H' locs' cells' slots' ls' pc' n' i st' _ hR' hS' hc hs hd hrt
  have hrt : mx_rt M st' G' n' (fun a b => a = .inl v ∧ b = G') i := by
    rcases hrt with hrt | hrt
    · exact hrt
    · obtain ⟨q, ⟨q1, -⟩, -⟩ := mx_th_one hrt
      subst q1
      cases i
      all_goals first
        | exact False.elim hrt
        | (obtain ⟨_, _, _, _, _, _, _, _, _, h9, _⟩ := hrt; cases h9)
  have e9 := mx_rt_n hrt
  subst e9
  have e1 : cells' = G'.2.1 - G.2.1 := by omega
  have e2 : slots' = G'.2.2 - G.2.2 := by omega
  subst e1 e2
  cases i
  case ireturn =>
    obtain ⟨-, x, ty, rfl, hr, hn, h1, -⟩ := hrt
    cases h1
    exact W.zret B.exec B.bytes (B.returns.trans hr) hn (fun t ht hW => ⟨rfl, by rw [ht]; exact hR', hS'.F ht⟩) hS'.2.2 hd (hlocks := B.notSynchronized)
  case lreturn =>
    obtain ⟨-, x, rfl, hr, h1, -⟩ := hrt
    cases h1
    exact W.lret B.exec B.bytes (B.returns.trans hr) (fun t ht hW => ⟨rfl, by rw [ht]; exact hR', hS'.F ht⟩) hS'.2.2 hd (hlocks := B.notSynchronized)
  case areturn =>
    obtain ⟨-, x, ty, rfl, hx, hr, hty, h1, -⟩ := hrt
    cases h1
    exact W.aret B.exec B.bytes (B.returns.trans hr) hty hx (fun t ht hW => ⟨rfl, by rw [ht]; exact hR', hS'.F ht⟩) hS'.2.2 hd (hlocks := B.notSynchronized)
  case return_ =>
    obtain ⟨-, rfl, hr, h1, -⟩ := hrt
    cases h1
    exact W.vret B.exec B.bytes (B.returns.trans hr) (fun t ht hW => ⟨rfl, by rw [ht]; exact hR', hS'.F ht⟩) hS'.2.2 hd (hlocks := B.notSynchronized)
  all_goals exact False.elim hrt
/-- a helper's call is sound -/
def mx_Tr (P : mx_T) (cn : Nat → String) (cl : List vw_C) (D : va_G) (aC : Nat → ClassId) (tbl nst : List Cond) (ao : List String) (Xu : State → Prop) (l : Launch) (k : Nat) : Prop :=
  ∀ (M : mx_M) (pc : Nat) (st : List Value) (G : mx_H) (i : Instr) (M' : mx_M) (as : List Value) (a : Nat) (rest : List Value) (o : mx_O) (G1 : mx_H) (x : Int32) (G2 : mx_H),
    decode (mx_mb M) pc = .ok (i, 3) → mx_ct P M st G 3 i M' as a rest → mx_wp P k M' 0 (mx_en 0 as) [] G (fun u v => u = o ∧ v = G1) → G.2.1 ≤ G1.2.1 → G.2.2 ≤ G1.2.2 → mx_tq a o G1 (fun u v => u = x ∧ v = G2) →
  ∀ (p : Program) (e : Env) (R : Room) (s : State) (m : MethodId) (args : Array Value) (below : List Frame) (meth : Method) (c : Code) (H : Heap) (locs : List Loc) (cells slots : Nat) (Qf : State → Prop) (ls : Array Slot),
    mx_X P cn cl D aC tbl nst ao M p s m args meth c → Xu s → mx_mf M ≤ R.frames → mx_mw M ≤ R.locals → mx_R P cl D aC H G → va_S (mx_A P) s.heap H locs → ls.size = mx_ml M → cells + (G2.2.1 - G.2.1) ≤ R.cells → slots + (G2.2.2 - G.2.2) ≤ R.slots →
    (∀ (H1 : Heap) (locs1 : List Loc), mx_R P cl D aC H1 G2 → va_S (mx_A P) s.heap H1 locs1 → W p l e R s m args below meth c H1 locs1 (cells + (G2.2.1 - G.2.1)) (slots + (G2.2.2 - G.2.2)) Qf (F0 m (pc + 3) ls (.int x :: rest))) →
    W p l e R s m args below meth c H locs cells slots Qf (F0 m pc ls st)
theorem mx_call {P : mx_T} {cl : List vw_C} {D : va_G} {aC : Nat → ClassId} {p : Program} {l : Launch} {e : Env} {R : Room} {s : State} {m : MethodId} {args : Array Value} {below : List Frame} {meth : Method} {c : Code} {H : Heap} {locs : List Loc} {cells slots mc ms : Nat} {Q : State → Prop} {pc : Nat} {ls : Array Slot} {st0 rest : List Value} {a : Array Value} {v : Option Value} {G' : mx_H}
    (hr : va_Run p l e R s m args below meth c H locs cells slots mc ms (F0 m pc ls st0) rest (mx_Qc P cl D aC v G' a) (mx_A P)) (hS : va_S (mx_A P) s.heap H locs)
    (kk : ∀ (H1 : Heap) (locs1 : List Loc), mx_R P cl D aC H1 G' → va_S (mx_A P) s.heap H1 locs1 → W p l e R s m args below meth c H1 locs1 (cells + mc) (slots + ms) Q (F0 m (pc + 3) ls (v.toList ++ rest))) : W p l e R s m args below meth c H locs cells slots Q (F0 m pc ls st0) := by
  intro T hT X
  obtain ⟨v', st₀, t, T', L, h0, X', hL, e1, e2, ⟨hv, hR, hz, hk⟩, st⟩ := hr T hT X
  cases hv
  rw [h0] at hz hk
  obtain ⟨t2, a1, b1⟩ := kk T'.heap (locs ++ L) (by rw [e1]; exact hR)
    ⟨Nat.le_trans hS.1 (by rw [e1]; exact hz), fun q h1 h2 => by rw [e1, hk q (Nat.lt_of_lt_of_le h1 hS.1) h2]; exact hS.2.1 q h1 h2, fun q hq => by
      rcases List.mem_append.mp hq with h | h
      · exact hS.2.2 q h
      · exact hL q h⟩ T' rfl X'
  exact ⟨t2, st t2 a1, b1⟩
theorem mx_good {tbl nst : List Cond} {w : Cond} (h : mx_okW tbl nst) (hw : w ∈ tbl) : GoodIn tbl (w :: tbl) := fun x hx => by
  have hm : x ∈ tbl := (List.mem_cons.mp hx).elim (fun e => by rw [e]; exact hw) id
  exact ⟨hm, good_of_word (h.1 x hm)⟩
theorem mx_blind {P : mx_T} {cn : Nat → String} {cl : List vw_C} {D : va_G} {aC : Nat → ClassId} {tbl nst : List Cond} {ao : List String} (hw : mx_okW tbl nst) (as : List Value) (G : mx_H) : FrameBlind (mx_Pc P cn cl D aC tbl nst ao as G) := fun a U g mk ⟨e, hR, hU⟩ => ⟨e, hR, hU.calling hw g mk a⟩
