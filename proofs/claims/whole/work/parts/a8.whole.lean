/-! THE CLAIM OUT OF ONE WALK OF THE LAW'S BODY. Your part is whole_start (and what it stands on); all else here is the same for every law, but numbers. -/
def R_law : String := "SectionGardenLaw"
def lw_P (b : Addr) (xs : List Int32) (args : Array Value) (s : State) : Prop := args = #[.ref b] ∧ s.IntsAt b xs ∧ xs.length ≤ 3072 ∧ (Jvm.Cond.and given_1 narrow_1).before args s = true
def lw_Q (_ : Array Value) (s : State) (o : Outcome) (t : State) : Prop := o = .returned (some (.int 1)) ∧ Framed s o t [] 601024 7293034
def lw_Z (below : List Frame) (a : Array Value) (s : State) : State → Prop := fun t => ∃ o, t.status = .running ∧ Ended t below o ∧ lw_Q a s o t
/-- the law's own end, with 1 on the stack, nothing written that was there before, its room as the claim has it -/
theorem lw_ret {p : Program} {l : Launch} {e : Env} {s : State} {m : MethodId} {below : List Frame} {meth : Method} {c : Code} {b : Nat} (hx : p.tables.exec = Jvm.exec) (hb : c.code = code) (hr : meth.sig.returnType = ret) (hlocks : meth.locks = false) {pc : Nat} {H : Heap} {ls : Array Slot} (hdg : decode code pc = .ok (.ireturn, 1)) : W p l e room_1 s m #[Value.ref b] below meth c H [] 601024 7293034 (lw_Z below #[Value.ref b] s) (F0 m pc ls [.int 1]) := by
  intro T hT X
  obtain ⟨fs, hret, hrun, hended, hW, hframe⟩ := X.leave (v := some (.int 1)) (hlocks := hlocks) (fun h => by rw [hr] at h; cases h)
  have hmeth' : T.vm.method? m = some meth := X.method'
  refine ⟨T.setFrames fs, ?_, .returned (some (.int 1)), hrun, hended, rfl, ⟨_, rfl⟩, hW, hframe⟩
  jvm_step X.here [X.here.top, hx, hb, hdg, hmeth', hr, ret, narrow_b1]
  (try refine ⟨rfl, ?_⟩); (try refine ⟨rfl, ?_⟩)
  first | (intro acts; rw [hret _ acts rfl rfl rfl]) | rw [hret _ _ rfl rfl rfl]
  exact Steps.refl _
/-- what holds at the law's entry: the machine, the code, the tables' words (any of lw_tbl by 'hts w (by decide +kernel)'), the script of L ints xs at the cell b, what the Statement gives of the start (any of its parts by flat_of_before) -/
def lw_At (p : Program) (s : State) (m : MethodId) (meth : Method) (c : Code) (b L : Nat) (xs : Nat → Int32) : Prop :=
  p.tables.exec = Jvm.exec ∧ c.code = code ∧ meth.sig.returnType = ret ∧ c.maxLocals = 8 ∧ s.vm.findClass R_law = some m.cls ∧ (∀ w ∈ lw_tbl, w.before #[Value.ref b] s = true) ∧ va_X b L xs s s.heap ∧ b < s.heap.size ∧ meth.locks = false ∧ (Jvm.Cond.and given_1 narrow_1).before #[Value.ref b] s = true
theorem st_drop {p : Program} {l : Launch} {e : Env} {R : Room} {s : State} {m : MethodId} {args : Array Value} {below : List Frame} {meth : Method} {c : Code} {T : State} {locs : List Loc} {cells slots : Nat} (X : Stand p l e R s m args below meth c T locs cells slots) (h : ∀ q ∈ locs, s.heap.size ≤ q.base) : Stand p l e R s m args below meth c T [] cells slots :=
  ⟨X.admits, X.cas, X.clock, X.frames, X.room, X.hears, X.method, X.code, X.here, X.tail, X.warmed, X.limits, X.bytes, ⟨X.same.1, X.same.2.1, X.same.2.2.1, X.same.2.2.2.1, X.same.2.2.2.2.1, fun a c hc => by
    obtain ⟨c', h1, h2, h3, h4⟩ := X.same.2.2.2.2.2 a c hc
    refine ⟨c', h1, h2, h3, fun i _ => h4 i (fun hm => ?_)⟩
    have h5 := h _ hm
    have h6 := (Array.getElem?_eq_some_iff.mp hc).1
    exact absurd h6 (Nat.not_lt.mpr h5)⟩⟩
def st_O (b L : Nat) (xs : Nat → Int32) (E : Nat → Nat) : Nat → Option mx_C := fun a => if a = b then some (.inl (99, L, .inl xs)) else if a = E 5 then some (.inl (98, 5, mx_aq (fun j => some (E j)))) else if a = E 6 then some (.inl (4, 0, mx_aq (fun _ => none))) else none
def st_s : rx_S := (fun _ i => i, fun _ _ => false, fun _ _ _ => .inl .null, fun _ _ _ => 0, fun _ _ _ => 0, fun _ _ _ => none, fun _ _ => 0)
theorem st_R (b0 : Nat) (O : Nat → Option mx_C) : rx_R b0 O b0 0 st_s (O, b0, 0) := ⟨fun r i h => (by cases h), fun r i r' i' h => (by cases h), fun r i f q h => (by cases h), fun r i k q h => (by cases h), fun _ => rfl, Nat.le_refl _, Nat.le_refl _, Nat.le_refl _, fun _ _ => rfl⟩
/-- the statics' objects -/
theorem st_E {args : Array Value} {s : State} (hs : ∀ w ∈ st_F, w.before args s = true) : ∃ E : Nat → Nat, (∀ k, k < 7 → (st_T k).1.eval args s none [] s = some (.ref (E k)) ∧ ∃ cell : Cell, s.heap[E k]? = some cell ∧ cell.vm.isStatics = false ∧ s.vm.findClass (st_T k).2 = some cell.cls) ∧ ∀ i j, i < 5 → j < 5 → E i = E j → i = j := by
  have h0 : ∀ k, ∃ a : Nat, k < 7 → (st_T k).1.eval args s none [] s = some (.ref a) ∧ ∃ cell : Cell, s.heap[a]? = some cell ∧ cell.vm.isStatics = false ∧ s.vm.findClass (st_T k).2 = some cell.cls := by
    intro k
    by_cases hk : k < 7
    · obtain ⟨a, c, cell, kk, q1, q2, q3, q4, q5, q6, -⟩ := Cond.exactly_spec (hs _ (st_m1 k hk))
      exact ⟨a, fun _ => ⟨q1, cell, q3, q5, by rw [q6]; exact q2⟩⟩
    · exact ⟨0, fun h => absurd h hk⟩
  obtain ⟨E, hE⟩ := Classical.skolem.mp h0
  refine ⟨E, hE, fun i j hi hj e => ?_⟩
  by_cases hij : i = j
  · exact hij
  · rcases st_m2 i hi j hj hij with h | h
    · exact absurd e (va_neR (hs _ h) (hE i (by omega)).1 (hE j (by omega)).1)
    · exact absurd e.symm (va_neR (hs _ h) (hE j (by omega)).1 (hE i (by omega)).1)
theorem st_k5 {E : Nat → Nat} {a k : Nat} (h : (List.range 5).find? (fun k => Nat.beq (E k) a) = some k) : k < 5 ∧ E k = a := ⟨List.mem_range.mp (List.mem_of_find?_eq_some h), Nat.eq_of_beq_eq_true (show Nat.beq (E k) a = true from List.find?_some (p := fun k => Nat.beq (E k) a) h)⟩
/-- what the constants' fields hold -/
theorem st_OF {args : Array Value} {s : State} (hs : ∀ w ∈ st_F, w.before args s = true) {E : Nat → Nat} (hE : ∀ k, k < 7 → (st_T k).1.eval args s none [] s = some (.ref (E k)) ∧ ∃ cell : Cell, s.heap[E k]? = some cell ∧ cell.vm.isStatics = false ∧ s.vm.findClass (st_T k).2 = some cell.cls) {A : Nat → Prop} (hA : ∀ a : Nat, a < s.heap.size → ¬ A a) {k j : Nat} {v : Value} (hk : k < 5) (hj : j < 4) (hv : (gt_en.getD k [])[j]? = some v) : va_OF "SectionGarden$Type" (st_fn j).1 (st_fn j).2 v (E k) A s s.heap := by
  have ht := (hE k (by omega)).1
  obtain ⟨w1, w2⟩ := st_m4 k hk
  obtain ⟨w3, w4⟩ := st_m5 k hk
  have v1 := va_eqt (hs _ w1)
  have v2 := va_eqt (hs _ w2)
  have v3 := va_eqtl (hs _ w3)
  have v4 := va_eqtl (hs _ w4)
  have o1 := vk_OFof (A := A) ht v1 hA
  have o2 := vk_OFof (A := A) ht v2 hA
  have o3 := vk_OFof (A := A) ht v3 hA
  have o4 := vk_OFof (A := A) ht v4 hA
  have hk5 : k = 0 ∨ k = 1 ∨ k = 2 ∨ k = 3 ∨ k = 4 := by omega
  have hj4 : j = 0 ∨ j = 1 ∨ j = 2 ∨ j = 3 := by omega
  rcases hj4 with rfl | rfl | rfl | rfl <;> rcases hk5 with rfl | rfl | rfl | rfl | rfl <;> cases hv <;> first | exact o1 | exact o2 | exact o3 | exact o4
/-- all that is known of the state at the start -/
theorem st_U {args : Array Value} {s : State} (hts : ∀ w ∈ lw_tbl, w.before args s = true) (hs : ∀ w ∈ st_F, w.before args s = true) {E : Nat → Nat} (hE : ∀ k, k < 7 → (st_T k).1.eval args s none [] s = some (.ref (E k)) ∧ ∃ cell : Cell, s.heap[E k]? = some cell ∧ cell.vm.isStatics = false ∧ s.vm.findClass (st_T k).2 = some cell.cls) {mi : Nat} (hmi : va_Mi "[Ljava/lang/Object;" mi s) {D : va_G} {aC : Nat → ClassId} (hK : va_K D gt_cl (mx_tl (gt_P s.heap.size mi E) aC) s) (h99 : ArrOfT s (aC 99) .int) (h98 : ArrOfT s (aC 98) (.object "SectionGarden$Type")) : mx_U (gt_P s.heap.size mi E) gt_c gt_cl D aC gt_tbl gt_nst gt_ao s := by
  have hA : ∀ a : Nat, a < s.heap.size → ¬ mx_A (gt_P s.heap.size mi E) a := fun a h h' => absurd h (Nat.not_lt.mpr h')
  refine ⟨hK, fun w hw => ?_, fun C hC => ?_, fun c i v h => ?_, Nat.le_refl _, h99, ⟨_, h98⟩, hmi, va_Dc.of (hts _ st_t3.1), fun c i a v h => ?_, fun a c h => ?_⟩
  · obtain ⟨h1, h2⟩ := List.mem_filter.mp hw
    have h3 := hts w h1
    cases w <;> first | exact va_Nw.of rfl h3 | (cases h2; done)
  · have : C = "java/lang/Object" ∨ C = "SectionGarden$Symbol" := by simpa [gt_ao] using hC
    rcases this with rfl | rfl
    · exact va_AO.of (hts _ st_t2.2.2.2.2.1)
    · exact va_AO.of (hts _ st_t2.2.2.2.2.2)
  · obtain ⟨⟨k, C, n, d, p⟩, h1, h2⟩ := Option.map_eq_some_iff.mp (show (gt_lu gt_s c i).map (fun e => Value.ref (E e.1)) = some v from h)
    have h3 := gt_lu_ok h1 st_ok_all
    simp only [st_ok, Bool.and_eq_true, decide_eq_true_eq] at h3
    obtain ⟨⟨⟨⟨g1, g2⟩, g3⟩, g4⟩, g5⟩ := h3
    subst h2
    have g6 := (hE k g3).1
    rw [g2] at g6
    exact ⟨C, n, d, va_Zof (hts _ g4) (hts _ g5) g6 hA, gt_at_ok g1⟩
  · obtain ⟨⟨j, C, n, d, p⟩, h1, h2⟩ := Option.bind_eq_some_iff.mp (show (gt_lu gt_e c i).bind (fun e => gt_ev E e.1 a) = some v from h)
    have h3 := gt_lu_ok h1 st_oke_all
    simp only [st_oke, Bool.and_eq_true, decide_eq_true_eq] at h3
    obtain ⟨⟨⟨g1, g2⟩, g3⟩, g4⟩ := h3
    obtain ⟨k, h4, h5⟩ := Option.bind_eq_some_iff.mp (show ((List.range 5).find? (fun k => Nat.beq (E k) a)).bind (fun k => (gt_en.getD k [])[j]?) = some v from h2)
    obtain ⟨h6, rfl⟩ := st_k5 h4
    have h7 := st_OF hs hE hA h6 g4 h5
    rw [← g3] at h7
    exact ⟨C, n, d, by rw [g2]; exact h7, gt_at_ok g1⟩
  · obtain ⟨k, h4, h5⟩ := Option.map_eq_some_iff.mp (show ((List.range 5).find? (fun k => Nat.beq (E k) a)).map (fun _ => 13) = some c from h)
    obtain ⟨h6, rfl⟩ := st_k5 h4
    subst h5
    obtain ⟨-, cell, q1, q2, q3⟩ := hE k (by omega)
    refine ⟨cell, q1, q2, ?_, hA _ (Array.getElem?_eq_some_iff.mp q1).1⟩
    have hk5 : k = 0 ∨ k = 1 ∨ k = 2 ∨ k = 3 ∨ k = 4 := by omega
    rcases hk5 with rfl | rfl | rfl | rfl | rfl <;> exact q3
theorem st_Xu {args : Array Value} {s : State} (hts : ∀ w ∈ lw_tbl, w.before args s = true) (hs : ∀ w ∈ st_F, w.before args s = true) (mi : Nat) (E : Nat → Nat) : gt_Xu (gt_P s.heap.size mi E) s := by
  have hA : ∀ a : Nat, a < s.heap.size → ¬ mx_A (gt_P s.heap.size mi E) a := fun a h h' => absurd h (Nat.not_lt.mpr h')
  obtain ⟨-, t1, t2, t3⟩ := st_t3
  obtain ⟨-, -, -, -, -, m6, m7, m8⟩ := st_m6
  refine ⟨vx_Zqof (hts _ t1) (hts _ t3) (hs _ m7) hA, vx_Zqof (hts _ t2) (hts _ t3) (hs _ m8) hA, fun q hq => ?_, va_Nc.of (hs _ m6), fun w hw => va_Nw.of (gt_xw_ot w hw) (hts w (st_t5 w hw))⟩
  obtain ⟨a, c, cell, kk, q1, -⟩ := Cond.exactly_spec (hs _ (st_m7 q hq))
  exact ⟨a, vk_R.of (hts _ (st_t4 q hq)) q1⟩
/-- the heap at the start -/
theorem st_H {args : Array Value} {s : State} (hs : ∀ w ∈ st_F, w.before args s = true) {E : Nat → Nat} (hE : ∀ k, k < 7 → (st_T k).1.eval args s none [] s = some (.ref (E k)) ∧ ∃ cell : Cell, s.heap[E k]? = some cell ∧ cell.vm.isStatics = false ∧ s.vm.findClass (st_T k).2 = some cell.cls) (mi : Nat) {b L : Nat} {xs : Nat → Int32} (hX : va_X b L xs s s.heap) (D : va_G) : ∃ c98 c99, ArrOfT s c99 .int ∧ ArrOfT s c98 (.object "SectionGarden$Type") ∧ (b ≠ E 5 ∧ b ≠ E 6 ∧ E 5 ≠ E 6 ∧ E 5 < s.heap.size ∧ E 6 < s.heap.size) ∧ ∀ aC : Nat → ClassId, aC 98 = c98 → aC 99 = c99 → va_RA s (aC 4) (.object "java/lang/Object") → mx_R (gt_P s.heap.size mi E) gt_cl D aC s.heap (st_O b L xs E, s.heap.size, 0) := by
  obtain ⟨scr, x1, x2, x3, x4, x5⟩ := hX
  obtain ⟨e5, cell5, a1, a2, a3⟩ := hE 5 (by decide)
  obtain ⟨e6, cell6, b1, b2, b3⟩ := hE 6 (by decide)
  obtain ⟨m1, m2, m3, m4, -⟩ := st_m6
  obtain ⟨i5, u5⟩ := Cond.arrayOf_spec (hs _ m3) e5 a1
  obtain ⟨i6, u6⟩ := Cond.arrayOf_spec (hs _ m4) e6 b1
  have z5 : cell5.slots.size = 5 := st_len (n := 5) (va_eqt (hs _ m1)) (by decide) e5 a1
  have z6 : cell6.slots.size = 0 := st_len (n := 0) (va_eqt (hs _ m2)) (by decide) e6 b1
  have l5 : E 5 < s.heap.size := (Array.getElem?_eq_some_iff.mp a1).1
  have l6 : E 6 < s.heap.size := (Array.getElem?_eq_some_iff.mp b1).1
  have lb : b < s.heap.size := (Array.getElem?_eq_some_iff.mp x1).1
  have kd : ∀ {C : Cell} {n : String}, s.isArrayOf C (.object n) → C.cls = scr.cls → False := fun {C n} h e => by
    obtain ⟨-, k, h1, comp, h2⟩ := h
    obtain ⟨-, k', h1', comp', h2'⟩ := x2
    rw [e, h1'] at h1
    cases h1
    rw [h2'] at h2
    cases h2
  have n5 : b ≠ E 5 := fun e => by
    rw [e, a1] at x1; cases x1; exact kd i5 rfl
  have n6 : b ≠ E 6 := fun e => by
    rw [e, b1] at x1; cases x1; exact kd i6 rfl
  have n56 : E 5 ≠ E 6 := fun e => by
    rw [e, b1] at a1; cases a1; rw [z6] at z5; cases z5
  have el : ∀ j, j < 5 → cell5.slots[j]? = some (.ref (E j)) := fun j hj => by
    have h1 := st_eqr (hs _ (st_m3 j hj)) (hE j (by omega)).1
    obtain ⟨a', j', cell, q1, q2, q3, -, q5⟩ := Term.elem_spec h1
    rw [e5] at q1; cases q1
    have q4 := (State.arrayAt?_spec q3).1
    rw [a1] at q4; cases q4
    have q6 : j' = nI j := by
      have : (Term.int (nI j)).eval args s none [] s = some (.int (nI j)) := rfl
      rw [this] at q2; cases q2; rfl
    rw [q6, nI_clamp (by omega)] at q5
    exact q5
  have is9 : scr.vm.isStatics = false := by
    cases e : scr.vm <;> first | rfl | exact absurd e (x2.1 _)
  refine ⟨cell5.cls, scr.cls, st_arrT x2, st_arrT i5, ⟨n5, n6, n56, l5, l6⟩, fun aC h98 h99 h4 => ⟨rfl, fun a c hc => ?_⟩⟩
  have hc' : st_O b L xs E a = some c := hc
  unfold st_O at hc'
  by_cases ea : a = b
  · rw [if_pos ea] at hc'; cases hc'; subst ea
    exact ⟨fun h => absurd lb (Nat.not_lt.mpr h), fun _ => ⟨scr, x1, h99.symm, is9, x3, x4, x5⟩⟩
  · rw [if_neg ea] at hc'
    by_cases e9 : a = E 5
    · rw [if_pos e9] at hc'; cases hc'; subst e9
      exact ⟨fun h => absurd l5 (Nat.not_lt.mpr h), fun _ => ⟨cell5, a1, h98.symm, a2, u5, z5, el⟩⟩
    · rw [if_neg e9] at hc'
      by_cases e8 : a = E 6
      · rw [if_pos e8] at hc'; cases hc'; subst e8
        refine ⟨fun h => absurd l6 (Nat.not_lt.mpr h), fun _ => ⟨cell6, b1, ?_, b2, u6, z6, fun j hj => absurd hj (Nat.not_lt_zero j)⟩⟩
        have h5 : s.vm.findClass "[Ljava/lang/Object;" = some (aC 4) := va_nmO h4 (by decide +kernel)
        have h6 : s.vm.findClass "[Ljava/lang/Object;" = some cell6.cls := b3
        rw [h5] at h6; exact (Option.some.inj h6).symm
      · rw [if_neg e8] at hc'; cases hc'
set_option maxHeartbeats 4000000 in
theorem whole_start {p : Program} {e : Env} {s : State} {m : MethodId} {below : List Frame} {meth : Method} {c : Code} (l : Launch) (hl : l.stackTraces = false) {b L : Nat} {xs : Nat → Int32} (hL : L ≤ 3072) (hnm : meth.name = "law") (C0 : lw_At p s m meth c b L xs) : W p l e room_1 s m #[Value.ref b] below meth c s.heap [] 0 0 (lw_Z below #[Value.ref b] s) (entryFrame m ([Value.ref b] : List Value).toArray 8) := by
  obtain ⟨hx, hb, hr, hml, hown, hts, hX, hbl, hlocks, hgv⟩ := C0
  have hs : ∀ w ∈ st_F, w.before #[Value.ref b] s = true := flat_of_before _ hgv
  obtain ⟨E, hE, hinj⟩ := st_E hs
  obtain ⟨-, -, -, -, m5, -⟩ := st_m6
  obtain ⟨mi, hmi⟩ := va_Mi.of (hs _ m5)
  obtain ⟨D, f, hf⟩ := st_K hts s.heap.size mi E
  obtain ⟨c98, c99, A99, A98, ⟨n5, n6, n56, l5, l6⟩, hR⟩ := st_H hs hE mi hX D
  obtain ⟨hK, f98, f99⟩ := hf c98 c99
  have hR0 := hR (f c98 c99) f98 f99 (hK.2 4 (f c98 c99 4, .object "java/lang/Object") rfl).2
  have hU := st_U hts hs hE hmi hK (by rw [f99]; exact A99) (by rw [f98]; exact A98)
  have hWE : WE s.heap.size (st_O b L xs E) E := by
    refine ⟨⟨l6, (0, mx_aq (fun _ => none)), ?_⟩, ⟨l5, fun j => some (E j), ?_, fun k _ => rfl⟩, hinj⟩
    · unfold st_O; rw [if_neg (Ne.symm n6), if_neg (Ne.symm n56), if_pos rfl]
    · unfold st_O; rw [if_neg (Ne.symm n5), if_pos rfl]
  obtain ⟨k, h1⟩ := lw_W (mi := mi) hWE (show st_O b L xs E b = some (.inl (99, L, .inl xs)) from if_pos rfl) hbl hL (st_R s.heap.size (st_O b L xs E)) (fun _ _ => rfl)
  obtain ⟨o, G', ⟨ho, g1, g2⟩, -, -, h3⟩ := mx_exact h1
  subst ho
  rw [lg_entry_eq]
  refine mx_sound (gt_ok s.heap.size mi E) (D := D) (aC := f c98 c99) l (gt_Tr hl) k mL_law 0 (mx_en 0 [.ref b]) [] _ _ G' h3 p e room_1 s m #[.ref b] below meth c s.heap [] 0 0 _ _ s.heap.size 0 ⟨hx, hb, hml, hown, fun w hw => hts w (List.mem_filter.mp hw).1, hU, hnm⟩ (Or.inr ⟨rfl, st_Xu hts hs mi E⟩) (Nat.le_of_ble_eq_true rfl) (Nat.le_of_ble_eq_true rfl) hR0 va_S.rf (mx_RL0 (Nat.le_of_ble_eq_true rfl) rfl) (Nat.zero_add _) rfl (by show G'.2.1 ≤ s.heap.size + 601024; omega) (by show G'.2.2 ≤ 0 + 7293034; omega) ?_
  intro H' locs' cells' slots' ls' pc' n' i st' _ hR' hS' hc hsl hd hrt
  have fin : i = .ireturn ∧ n' = 1 ∧ st' = [.int 1] := by
    rcases hrt with hq | hq
    · cases i <;> first
        | exact hq.elim
        | (obtain ⟨q1, x, ty, q2, q3, q4, q5, q6⟩ := hq; cases q5; exact ⟨rfl, q1, q2⟩)
        | (obtain ⟨q1, x, q2, q3, q4⟩ := hq; cases q3; done)
        | (obtain ⟨q1, x, ty, q2, q3, q4, q5, q6, q7⟩ := hq; cases q6; rcases q3 with q3 | ⟨z, q3⟩ <;> cases q3; done)
        | (obtain ⟨q1, q2, q3, q4, q5⟩ := hq; cases q4; done)
    · exfalso
      cases i <;> first
        | exact hq.elim
        | (obtain ⟨q1, q2, q3, q4⟩ := hq; cases q3; done)
  obtain ⟨rfl, rfl, rfl⟩ := fin
  have K := lw_ret (p := p) (l := l) (e := e) (s := s) (m := m) (below := below) (meth := meth) (c := c) (b := b) (H := H') (ls := ls') hx hb hr hlocks hd
  intro T hT X
  exact K T hT (stand_widen (st_drop X (fun q hq => hS'.2.2 q hq)) (by omega) (by omega))
set_option maxHeartbeats 4000000 in
theorem lw_walk (l : Launch) (hl : l.stackTraces = false) (b : Addr) (xs : List Int32) : MetFree l x (headSpec (Jvm.Cond.code x code maxLocals ret :: tables_1) room_1) (lw_P b xs) (fun _ _ _ _ _ => True) lw_Q := by
  refine MetFree.of_bodyS (code := code) (maxLocals := maxLocals) (ret := ret) (by decide) ?_ ?_
  · intro args s m h hn
    obtain ⟨meth, c, h1, h2, h3, h4, h5, h6, -, -⟩ := Cond.code_spec hn (atoms_spec (ws := Jvm.Cond.code x code maxLocals ret :: tables_1) h _ List.mem_cons_self)
    exact ⟨meth, c, h1, h2, h3, h4, h5, h6⟩
  · intro p e s m args below meth c s₁ B hml0 hP _
    obtain ⟨rfl, hx, hbd, hgv⟩ := hP
    obtain ⟨scr, harrAt, hlist, hof, hsmall⟩ := hx
    obtain ⟨hcb, hkn, -, -⟩ := State.arrayAt?_spec harrAt
    have hown : s.vm.findClass R_law = some m.cls := findClass_of_methodNamed B.named
    have hts0 : ∀ c ∈ (Jvm.Cond.code x code maxLocals ret :: tables_1), c.before #[Value.ref b] s = true := atoms_spec (ws := Jvm.Cond.code x code maxLocals ret :: tables_1) B.pre
    have hts : ∀ w ∈ lw_tbl, w.before #[Value.ref b] s = true := k2_hts_sels lw_privs (fun w hw => hts0 w (List.mem_cons_of_mem _ hw)) lw_privs_ok
    have hml : c.maxLocals = 8 := B.maxLocals_eq (hts0 _ List.mem_cons_self)
    have X₀ : Stand p l e room_1 s m #[Value.ref b] below meth c s₁ [] 0 0 := Stand.of_body B
    have hh0 : s₁.heap = s.heap := by rw [B.state]; rfl
    have hsz : scr.slots.size = xs.length := by rw [← Array.length_toList, hlist, List.length_map]
    have hval : ∀ j : Nat, j < xs.length → scr.slots[j]? = some (.int (xs.getD j 0)) := fun j hj => by
      rw [← Array.getElem?_toList, hlist]
      simp [hj]
    have hbl : b < s.heap.size := (Array.getElem?_eq_some_iff.mp hcb).1
    have hX : va_X b xs.length (fun j => xs.getD j 0) s s.heap := ⟨scr, hcb, hof, hkn, hsz, hval⟩
    have K : W p l e room_1 s m #[Value.ref b] below meth c s₁.heap [] 0 0 (lw_Z below #[Value.ref b] s) (entryFrame m ([Value.ref b] : List Value).toArray 8) := by
      rw [hh0]
      exact whole_start l hl hbd (name_of_methodNamed B.named B.method).1 ⟨B.exec, B.bytes, B.returns, hml, hown, hts, hX, hbl, B.notSynchronized, hgv⟩
    obtain ⟨t, a1, o, b1, b2, b3⟩ := K s₁ rfl X₀
    exact ⟨t, o, a1, b1, b2, b3⟩
theorem lw_pre_spec {args : Array Value} {s : State} (h : (Jvm.Cond.and given_1 narrow_1).before args s = true) (hr : rest_1_c.before args s = true) : ∃ (b : Addr) (xs : List Int32), lw_P b xs args s := by
  have hs := flat_of_before _ h
  have hq := flat_of_before _ hr
  have hc : (Cond.count 1).before args s = true := hs _ (by decide +kernel)
  have harr : (Cond.arrayOf (.arg 0) .int).before args s = true := hs _ (by decide +kernel)
  have hle : (Cond.le (.length (.arg 0)) (.int 3072)).before args s = true := hs _ (by decide +kernel)
  have hlen : (Cond.isInt (.length (.arg 0))).before args s = true := hq _ (by decide +kernel)
  have hall : (Cond.all (.arg 0) (.isInt (.elem (.arg 0) (.index 0)))).before args s = true := hq _ (by decide +kernel)
  obtain ⟨b, xs, hb, hx⟩ := State.ints_of_pre rfl harr hlen hall
  have hsm : xs.length < 2 ^ 31 := hx.choose_spec.2.2.2
  have hev : (Term.length (.arg 0)).eval args s none [] s = some (.int xs.length.toInt32) := hx.length_eval hb
  have hv := Cond.le_ints hev (show (Term.int 3072).eval args s none [] s = some (.int 3072) from rfl)
  have hd : xs.length.toInt32 ≤ 3072 := by
    simpa [Cond.before, Cond.holds, hv] using hle
  have hN : xs.length ≤ 3072 := (Int32.ofNat_le_ofNat hsm (by decide)).mp (show Int32.ofNat xs.length ≤ Int32.ofNat 3072 from hd)
  exact ⟨b, xs, Cond.one_arg hc (show args[0]? = some (.ref b) from hb), hx, hN, h⟩
theorem lw_comes (l : Launch) (hl : l.stackTraces = false) : Comes l x (Jvm.Cond.code x code maxLocals ret :: tables_1) room_1 (fun tb e args s => Calls_1 tb e args s ∧ rest_1 tb e args s ∧ Pre_1 tb e args s)
    (fun _ _ args s o t => lw_Q args s o t) := by
  intro p e ha hc hk s m args below hf hfit hheap happ hpre
  obtain ⟨b, xs, hP⟩ := lw_pre_spec hpre.2.2 hpre.2.1
  obtain ⟨k, o, h1, h2, h3, hQ⟩ := lw_walk l hl b xs p e ha hc hk s m args below hf ((Spec.applies_iff_loose hf).mp happ).1 hP trivial
  exact ⟨k, o, h1, h2, h3, hQ⟩
theorem lw_frame {s t : State} {o : Outcome} {args : Array Value} (h : Framed s o t [] 601024 7293034) :
    Framed s o t (fieldLocs frame_1_writes args s ++ arrayLocs frame_1_arrays args s ++ staticLocs frame_1_statics s) 601024 7293034 := h
theorem lw_limb (L : Cond) (hL : ∀ (args : Array Value) (s t : State), L.after args s (.returned (some (.int 1))) t = true) :
    ArmFor flags0 classFile x code maxLocals ret World_1 tables_1 room_1 Calls_1 rest_1 Pre_1
      (fun tb e a s o t => postC L tb e a s o t ∧ Framed s o t (fieldLocs frame_1_writes a s ++ arrayLocs frame_1_arrays a s ++ staticLocs frame_1_statics s) 601024 7293034) := by
  intro l hfl _ _ p e ha hc hk s m args below hf hfit hheap happ hpre
  obtain ⟨k, o, h1, h2, h3, rfl, hF⟩ := lw_comes l (by unfold Launch.stackTraces; rw [hfl]; decide) p e ha hc hk s m args below hf hfit hheap happ hpre
  exact ⟨k, _, h1, h2, h3, hL args s _, lw_frame hF⟩
theorem i_vc : Claimed_1_1 ∧ Claimed_1_2 := ⟨lw_limb limb_1_1 (fun args s t => by simp [limb_1_1, Cond.after, Cond.holds, Cond.value]), lw_limb limb_1_2 (fun args s t => Cond.after_iff.mpr (by
  first | (rw [show limb_1_2 = Cond.eq .result (.int 1) from rfl, Cond.eq_ints (x := 1) (y := 1) rfl rfl]; simp; done) | (simp [limb_1_2, Cond.value, Term.eval]; done)))⟩
