/-! ===== What holds at the law's start ===== -/
abbrev st_F : List Cond := flatC (Jvm.Cond.and given_1 narrow_1)
/-- the statics: their terms, the classes of what they hold -/
def st_T (k : Nat) : Term × String := [(Term.static "SectionGarden$Type" "WORD" "LSectionGarden$Type;", "SectionGarden$Type"), (Term.static "SectionGarden$Type" "HALF" "LSectionGarden$Type;", "SectionGarden$Type"), (Term.static "SectionGarden$Type" "NEAR" "LSectionGarden$Type;", "SectionGarden$Type"), (Term.static "SectionGarden$Type" "BRANCH" "LSectionGarden$Type;", "SectionGarden$Type"), (Term.static "SectionGarden$Type" "BYTE" "LSectionGarden$Type;", "SectionGarden$Type"), (Term.static "SectionGarden" "TYPES" "[LSectionGarden$Type;", "[LSectionGarden$Type;"), (Term.static "java/util/ArrayList" "DEFAULTCAPACITY_EMPTY_ELEMENTDATA" "[Ljava/lang/Object;", "[Ljava/lang/Object;")].getD k (.int 0, "")
theorem st_m1 : ∀ k, k < 7 → Cond.exactly (st_T k).1 (st_T k).2 ∈ st_F := by decide +kernel
theorem st_m2 : ∀ i, i < 5 → ∀ j, j < 5 → i ≠ j → Cond.not (.eq (st_T i).1 (st_T j).1) ∈ st_F ∨ Cond.not (.eq (st_T j).1 (st_T i).1) ∈ st_F := by decide +kernel
theorem st_m3 : ∀ k, k < 5 → Cond.eq (.elem (st_T 5).1 (.int (nI k))) (st_T k).1 ∈ st_F := by decide +kernel
theorem st_m4 : ∀ k, k < 5 → Cond.eq (.field (st_T k).1 "SectionGarden$Type" "width" "I") (.int (([4, 2, 4, 2, 1] : List Int32).getD k 0)) ∈ st_F ∧ Cond.eq (.field (st_T k).1 "SectionGarden$Type" "relative" "Z") (.int (([0, 0, 1, 1, 0] : List Int32).getD k 0)) ∈ st_F := by decide +kernel
theorem st_m5 : ∀ k, k < 5 → Cond.eq (.field (st_T k).1 "SectionGarden$Type" "least" "J") (.long (([0, 0, -2147483648, -32768, -128] : List Int64).getD k 0)) ∈ st_F ∧ Cond.eq (.field (st_T k).1 "SectionGarden$Type" "most" "J") (.long (([4294967295, 65535, 2147483647, 32767, 255] : List Int64).getD k 0)) ∈ st_F := by decide +kernel
theorem st_m6 : Cond.eq (.length (st_T 5).1) (.int 5) ∈ st_F ∧ Cond.eq (.length (st_T 6).1) (.int 0) ∈ st_F ∧ Cond.arrayOf (st_T 5).1 (.object "SectionGarden$Type") ∈ st_F ∧ Cond.arrayOf (st_T 6).1 (.object "java/lang/Object") ∈ st_F ∧ Cond.isRef (.mirror "[Ljava/lang/Object;") ∈ st_F ∧ Cond.not (.castable "java/lang/IllegalStateException" "java/lang/IndexOutOfBoundsException") ∈ st_F ∧ Cond.isRef (.static "java/lang/Throwable" "UNASSIGNED_STACK" "[Ljava/lang/StackTraceElement;") ∈ st_F ∧ Cond.isRef (.static "java/lang/Throwable" "SUPPRESSED_SENTINEL" "Ljava/util/List;") ∈ st_F := by decide +kernel
theorem st_m7 : ∀ q ∈ gt_xs, Cond.exactly (.string "SectionGarden" q.1) "java/lang/String" ∈ st_F := by decide +kernel
theorem st_t1 : ∀ q ∈ gt_cl, Cond.instantiable q.1 q.2.2 ∈ lw_tbl := by
  have h : (gt_cl.all fun q => decide (Cond.instantiable q.1 q.2.2 ∈ lw_tbl)) = true := by decide +kernel
  intro q hq
  exact of_decide_eq_true (List.all_eq_true.mp h q hq)
theorem st_t2 : Cond.arrayClass .int ∈ lw_tbl ∧ Cond.arrayClass .long ∈ lw_tbl ∧ Cond.arrayClass .byte ∈ lw_tbl ∧ Cond.arrayClass .boolean ∈ lw_tbl ∧ Cond.arrayOver (.object "java/lang/Object") ∈ lw_tbl ∧ Cond.arrayOver (.object "SectionGarden$Symbol") ∈ lw_tbl := by decide +kernel
theorem st_t3 : Cond.declares ⟨"java/lang/Object", "getClass", "()Ljava/lang/Class;"⟩ ∈ lw_tbl ∧ Cond.laysStatic "java/lang/Throwable" "UNASSIGNED_STACK" "[Ljava/lang/StackTraceElement;" ∈ lw_tbl ∧ Cond.laysStatic "java/lang/Throwable" "SUPPRESSED_SENTINEL" "Ljava/util/List;" ∈ lw_tbl ∧ Cond.initialized "java/lang/Throwable" ∈ lw_tbl := by decide +kernel
theorem st_t4 : ∀ q ∈ gt_xs, Cond.stringRef "SectionGarden" q.1 q.2 ∈ lw_tbl := by decide +kernel
theorem st_t5 : ∀ w ∈ gt_xw, w ∈ lw_tbl := by decide +kernel
/-- statics that are read: where they are linked, laid, held -/
def st_ok (c : Nat) (e : Nat × Nat × String × String × String × Nat) : Bool := gt_at e.2.2.2.2.2 (.fieldLink (gt_c c) e.1 e.2.2.1 e.2.2.2.1 e.2.2.2.2.1) && decide ((st_T e.2.1).1 = .static e.2.2.1 e.2.2.2.1 e.2.2.2.2.1) && decide (e.2.1 < 7) && decide (Cond.laysStatic e.2.2.1 e.2.2.2.1 e.2.2.2.2.1 ∈ lw_tbl) && decide (Cond.initialized e.2.2.1 ∈ lw_tbl)
theorem st_ok_all : gt_s.zipIdx.all (fun lc => lc.1.all (fun e => st_ok lc.2 e)) = true := by decide +kernel
def st_fn (j : Nat) : String × String := [("width", "I"), ("relative", "Z"), ("least", "J"), ("most", "J")].getD j ("", "")
def st_oke (c : Nat) (e : Nat × Nat × String × String × String × Nat) : Bool := gt_at e.2.2.2.2.2 (.fieldLink (gt_c c) e.1 e.2.2.1 e.2.2.2.1 e.2.2.2.2.1) && decide (e.2.2.1 = "SectionGarden$Type") && decide ((e.2.2.2.1, e.2.2.2.2.1) = st_fn e.2.1) && decide (e.2.1 < 4)
theorem st_oke_all : gt_e.zipIdx.all (fun lc => lc.1.all (fun e => st_oke lc.2 e)) = true := by decide +kernel
theorem st_eqr {args : Array Value} {s : State} {t u : Term} {a : Nat} (h : (Cond.eq t u).before args s = true) (hu : u.eval args s none [] s = some (.ref a)) : t.eval args s none [] s = some (.ref a) := by
  cases hv : t.eval args s none [] s with
  | none => simp [Cond.before, Cond.holds, Cond.value, hv] at h
  | some w =>
    simp only [Cond.before, Cond.holds, Cond.value, hv, hu] at h
    cases w <;> simp_all
theorem st_len {args : Array Value} {s : State} {t : Term} {a n : Nat} (h : (Term.length t).eval args s none [] s = some (.int (nI n))) (hn : n < 2 ^ 31) (ht : t.eval args s none [] s = some (.ref a)) {cell : Cell} (hc : s.heap[a]? = some cell) : cell.slots.size = n := by
  simp only [Term.eval, Option.bind_eq_bind, ht] at h
  obtain ⟨c2, h2, h3⟩ := Option.bind_eq_some_iff.mp (show ((s.arrayAt? a).bind fun z => if z.slots.size < 2 ^ 31 then some (Value.int z.slots.size.toInt32) else none) = some (Value.int (nI n)) from h)
  have h4 := (State.arrayAt?_spec h2).1
  rw [hc] at h4
  cases h4
  by_cases hb : cell.slots.size < 2 ^ 31
  · rw [if_pos hb] at h3
    have h5 : nI cell.slots.size = nI n := by
      have := Option.some.inj h3
      exact (Value.int.inj this)
    have h6 := congrArg Int32.toInt h5
    rw [nI_toInt hb, nI_toInt hn] at h6
    omega
  · rw [if_neg hb] at h3; cases h3
theorem st_arrT {s : State} {cell : Cell} {ty : FieldType} (h : s.isArrayOf cell ty) : ArrOfT s cell.cls ty := fun n z => ⟨(fun k h => nomatch h), h.2⟩
theorem st_prim {args : Array Value} {s : State} {ty : FieldType} (h : (Cond.arrayClass ty).before args s = true) : ∃ c, ArrOfT s c ty ∧ s.vm.findClass ("[" ++ ty.toString) = some c := by
  obtain ⟨c, k, comp, h1, h2, h3⟩ := Cond.arrayClass_spec h
  exact ⟨c, fun n z => ⟨(fun k h => nomatch h), k, h2, comp, h3⟩, h1⟩
theorem st_obj {args : Array Value} {s : State} {C : String} (h : (Cond.arrayOver (.object C)).before args s = true) : ∃ c, ArrOfT s c (.object C) ∧ va_RA s c (.object C) := by
  obtain ⟨comp, c, k, h1, -, h3, h4, h5⟩ := Cond.arrayOver_spec h
  exact ⟨c, fun n z => ⟨(fun k h => nomatch h), k, h3, comp, h4⟩, k, comp, h3, h4, h1, h5⟩
def st_aC (c0 c1 c2 c3 c4 c5 c98 c99 : ClassId) (k : Nat) : ClassId := if k = 0 then c0 else if k = 1 then c1 else if k = 2 then c2 else if k = 3 then c3 else if k = 4 then c4 else if k = 5 then c5 else if k = 98 then c98 else c99
/-- what is known of the classes -/
theorem st_K {args : Array Value} {s : State} (hts : ∀ w ∈ lw_tbl, w.before args s = true) (b0 mi : Nat) (E : Nat → Nat) : ∃ (D : va_G) (f : ClassId → ClassId → Nat → ClassId), ∀ c98 c99, va_K D gt_cl (mx_tl (gt_P b0 mi E) (f c98 c99)) s ∧ f c98 c99 98 = c98 ∧ f c98 c99 99 = c99 := by
  have h0 : ∀ c : Nat, ∃ z : ClassId × (Nat → Nat), ∀ q : vw_C, gt_cl[c]? = some q → u_Kn s q.1 q.2.1 q.2.2 z.1 z.2 := by
    intro c
    cases e : gt_cl[c]? with
    | none => exact ⟨(0, fun _ => 0), fun q hq => by cases hq⟩
    | some q =>
      obtain ⟨cC, iS, h⟩ := u_known (C := q.1) (T := q.2.1) (N := q.2.2) hts (fun w hw => (List.mem_filter.mp ((gt_okC c q.1 q.2.1 q.2.2 e).2.1 w hw)).1) (hts _ (st_t1 q (List.mem_of_getElem? e)))
      exact ⟨(cC, iS), fun q' hq => by cases hq; exact h⟩
  obtain ⟨dz, hdz⟩ := Classical.skolem.mp h0
  obtain ⟨t0, t1, t2, t3, t4, t5⟩ := st_t2
  obtain ⟨c0, a0, b0'⟩ := st_prim (hts _ t0)
  obtain ⟨c1, a1, b1⟩ := st_prim (hts _ t1)
  obtain ⟨c2, a2, b2⟩ := st_prim (hts _ t2)
  obtain ⟨c3, a3, b3⟩ := st_prim (hts _ t3)
  obtain ⟨c4, a4, b4⟩ := st_obj (hts _ t4)
  obtain ⟨c5, a5, b5⟩ := st_obj (hts _ t5)
  refine ⟨(fun c => (dz c).1, fun c => (dz c).2), st_aC c0 c1 c2 c3 c4 c5, fun c98 c99 => ⟨⟨fun c q hq => hdz c q hq, ?_⟩, rfl, rfl⟩⟩
  have e : mx_tl (gt_P b0 mi E) (st_aC c0 c1 c2 c3 c4 c5 c98 c99) = [(c0, .int), (c1, .long), (c2, .byte), (c3, .boolean), (c4, .object "java/lang/Object"), (c5, .object "SectionGarden$Symbol")] := rfl
  rw [e]
  intro k q hq
  match k, hq with
  | 0, hq => cases hq; exact ⟨a0, b0'⟩
  | 1, hq => cases hq; exact ⟨a1, b1⟩
  | 2, hq => cases hq; exact ⟨a2, b2⟩
  | 3, hq => cases hq; exact ⟨a3, b3⟩
  | 4, hq => cases hq; exact ⟨a4, b4⟩
  | 5, hq => cases hq; exact ⟨a5, b5⟩
  | k + 6, hq => simp at hq
