/-! ===== What the small machine says, the machine does ===== -/
def mx_e (aC : Nat → ClassId) (c : mx_C) : va_E := match c with
  | .inl x => .inl (aC x.1, x.2)
  | .inr o => .inr o
/-- an array's place as a value -/
def mx_av (q : (Nat → Int32) ⊕ (Nat → Int64) ⊕ (Nat → UInt32) ⊕ (Nat → UInt64) ⊕ (Nat → Option Nat)) (j : Nat) : Value := match q with
  | .inl f => .int (f j)
  | .inr (.inl f) => .long (f j)
  | .inr (.inr (.inl f)) => .float (f j)
  | .inr (.inr (.inr (.inl f))) => .double (f j)
  | .inr (.inr (.inr (.inr f))) => va_rf (f j)
/-- a cell that was there before: it is read alone -/
def mx_old (cl : List vw_C) (D : va_G) (aC : Nat → ClassId) (a : Nat) (c : mx_C) (H : Heap) : Prop := match c with
  | .inl x => ∃ cell, H[a]? = some cell ∧ cell.cls = aC x.1 ∧ cell.vm.isStatics = false ∧ cell.vm ≠ .unknown ∧ cell.slots.size = x.2.1 ∧ ∀ j, j < x.2.1 → cell.slots[j]? = some (mx_av x.2.2 j)
  | .inr o => ∃ r cell, cl[o.1]? = some r ∧ H[a]? = some cell ∧ cell.cls = D.1 o.1 ∧ cell.vm.isStatics = false ∧ cell.vm ≠ .unknown ∧ ∀ k, k < r.2.2 → cell.slots[D.2 o.1 k]? = some (vp_V o.2 k)
/-- the heap H holds what G says -/
def mx_R (P : mx_T) (cl : List vw_C) (D : va_G) (aC : Nat → ClassId) (H : Heap) (G : mx_H) : Prop := H.size = G.2.1 ∧ ∀ a c, G.1 a = some c → (mx_t0 P ≤ a → va_at D cl (a, mx_e aC c) H) ∧ (a < mx_t0 P → mx_old cl D aC a c H)
def mx_A (P : mx_T) : Nat → Prop := fun q => mx_t0 P ≤ q
def mx_tl (P : mx_T) (aC : Nat → ClassId) : List (ClassId × FieldType) := (mx_ty P).mapIdx fun t ty => (aC t, ty)
/-- what is known of a state: classes, words that aren't of the tables' plain kind, statics -/
def mx_U (P : mx_T) (cn : Nat → String) (cl : List vw_C) (D : va_G) (aC : Nat → ClassId) (tbl nst : List Cond) (ao : List String) (U : State) : Prop :=
  va_K D cl (mx_tl P aC) U ∧ (∀ w ∈ nst, va_Nw w U) ∧ (∀ C ∈ ao, va_AO C U) ∧ (∀ c i v, mx_ts P c i = some v → ∃ C n d, va_Z C n d v (mx_A P) U U.heap ∧ Cond.fieldLink (cn c) i C n d ∈ tbl) ∧ mx_t0 P ≤ U.heap.size ∧ ArrOfT U (aC 99) .int ∧ (∃ C9, ArrOfT U (aC 98) (.object C9)) ∧ va_Mi "[Ljava/lang/Object;" (mx_tr P) U ∧ va_Dc U ∧ (∀ c i a v, mx_te P c i a = some v → ∃ C n d, va_OF C n d v a (mx_A P) U U.heap ∧ Cond.fieldLink (cn c) i C n d ∈ tbl) ∧ ∀ a c, mx_to P a = some c → va_O (cn c) a (mx_A P) U U.heap
/-- the tables say what the words say -/
def mx_okC (cn : Nat → String) (cl : List vw_C) (tbl : List Cond) : Prop := ∀ ci C T N, cl[ci]? = some (C, T, N) → cn ci = C ∧ (∀ w ∈ u_ws C T N, w ∈ tbl) ∧ ∃ ty : Nat → FieldType, (∀ k, k < N → parseFieldDescriptor (T k).2.2.1 = some (ty k)) ∧ ∀ a, a < N → ∀ b, b < N → a ≠ b → (T a).2.1 ≠ (T b).2.1
def mx_okF (P : mx_T) (cn : Nat → String) (cl : List vw_C) (tbl : List Cond) : Prop := ∀ c i ci j ty fin, mx_tf P c i = some (ci, j, ty, fin) → ∃ C T N ref, cl[ci]? = some (C, T, N) ∧ j < N ∧ parseFieldDescriptor (T j).2.2.1 = some ty ∧ (T j).2.2.2 = fin ∧ (fin = true → (T j).1 = cn ci) ∧ Cond.fieldLink (cn c) i ref (T j).2.1 (T j).2.2.1 ∈ tbl ∧ (ref = (T j).1 ∨ Cond.sameField ref (T j).1 (T j).2.1 (T j).2.2.1 ∈ tbl)
def mx_okK (P : mx_T) (cn : Nat → String) (tbl : List Cond) : Prop := (∀ c i x, mx_tc P c i = some (.int x) → Jvm.Cond.constant (cn c) i x ∈ tbl) ∧ (∀ c i x, mx_tc P c i = some (.long x) → Jvm.Cond.constantLong (cn c) i x ∈ tbl) ∧ ∀ c i a, mx_tc P c i = some (.ref a) → Cond.classLink (cn c) i "[Ljava/lang/Object;" ∈ tbl
def mx_okN (P : mx_T) (cn : Nat → String) (cl : List vw_C) (tbl : List Cond) : Prop := ∀ c i ci fs, mx_tn P c i = some (ci, fs) → ∃ C T, cl[ci]? = some (C, T, fs.length) ∧ Cond.classLink (cn c) i C ∈ tbl ∧ Cond.instantiable C fs.length ∈ tbl ∧ Cond.initialized C ∈ tbl ∧ ∀ j, j < fs.length → (parseFieldDescriptor (T j).2.2.1).map defaultValue = some (vp_V fs j)
def mx_okA (P : mx_T) (cn : Nat → String) (tbl : List Cond) (ao : List String) : Prop := ∀ c i t, mx_ta P c i = some t → ∃ C, (mx_ty P)[t]? = some (.object C) ∧ Cond.classLink (cn c) i C ∈ tbl ∧ C ∈ ao
def mx_okY (P : mx_T) (tbl : List Cond) : Prop := (mx_ty P)[0]? = some .int ∧ (mx_ty P)[1]? = some .long ∧ (mx_ty P)[2]? = some .byte ∧ (mx_ty P)[3]? = some .boolean ∧ (mx_ty P)[4]? = some (.object "java/lang/Object") ∧ (∀ t, 4 ≤ t → t < (mx_ty P).length → ∃ C, (mx_ty P)[t]? = some (.object C)) ∧ (∀ a : ArrayType, a = .int ∨ a = .long ∨ a = .byte ∨ a = .boolean → Cond.arrayClass (newarray.typeOf a) ∈ tbl)
def mx_okG (P : mx_T) (cl : List vw_C) (nst : List Cond) : Prop := ∀ t c, mx_tg P t c = true → ∃ E r, (mx_ty P)[t]? = some (.object E) ∧ cl[c]? = some r ∧ (Cond.castable r.1 E ∈ nst ∨ r.1 = E)
def mx_okT (P : mx_T) (cn : Nat → String) (cl : List vw_C) (tbl : List Cond) : Prop := ∀ c i cs, mx_tk P c i = some cs → ∃ nm, Cond.classLink (cn c) i nm ∈ tbl ∧ ∀ ci ∈ cs, ∃ T N, cl[ci]? = some (nm, T, N)
def mx_okM (P : mx_T) (cn : Nat → String) (cl : List vw_C) (tbl nst : List Cond) : Prop := ∀ c i k na M', mx_tm P c i = some (k, na, M') →
  (k = 3 → Cond.methodLink (cn c) i Lib.objectInit ∈ tbl ∧ Cond.instanceMethod Lib.objectInit ∈ tbl ∧ Cond.code Lib.objectInit ⟨#[0xb1]⟩ 1 none ∈ tbl) ∧
  (k = 20 → Cond.methodLink (cn c) i arraycopyName ∈ tbl ∧ Cond.native arraycopyName ∈ tbl ∧ Cond.static arraycopyName ∈ tbl ∧ Cond.initialized "java/lang/System" ∈ tbl) ∧
  (k = 21 → Cond.methodLink (cn c) i ⟨"java/lang/Object", "getClass", "()Ljava/lang/Class;"⟩ ∈ tbl ∧ Cond.selects "[Ljava/lang/Object;" ⟨"java/lang/Object", "getClass", "()Ljava/lang/Class;"⟩ ⟨"java/lang/Object", "getClass", "()Ljava/lang/Class;"⟩ ∈ tbl ∧ Cond.instanceMethod ⟨"java/lang/Object", "getClass", "()Ljava/lang/Class;"⟩ ∈ tbl ∧ Cond.native ⟨"java/lang/Object", "getClass", "()Ljava/lang/Class;"⟩ ∈ tbl) ∧
  (k = 22 → Cond.methodLink (cn c) i Lib.Math.min.name ∈ tbl ∧ Cond.static Lib.Math.min.name ∈ tbl ∧ Cond.initialized "java/lang/Math" ∈ tbl ∧ Cond.code Lib.Math.min.name Lib.Math.min.code 2 (some .int) ∈ tbl) ∧
  (k = 23 → Cond.methodLink (cn c) i Lib.Math.max.name ∈ tbl ∧ Cond.static Lib.Math.max.name ∈ tbl ∧ Cond.initialized "java/lang/Math" ∈ tbl ∧ Cond.code Lib.Math.max.name Lib.Math.max.code 2 (some .int) ∈ tbl) ∧
  (k = 24 → Cond.methodLink (cn c) i Lib.MathLoose.min_long.x ∈ tbl ∧ Cond.static Lib.MathLoose.min_long.x ∈ tbl ∧ Cond.initialized "java/lang/Math" ∈ tbl ∧ Cond.code Lib.MathLoose.min_long.x Lib.MathLoose.min_long.code 4 (some .long) ∈ tbl) ∧
  (k = 25 → Cond.methodLink (cn c) i Lib.MathLoose.max_long.x ∈ tbl ∧ Cond.static Lib.MathLoose.max_long.x ∈ tbl ∧ Cond.initialized "java/lang/Math" ∈ tbl ∧ Cond.code Lib.MathLoose.max_long.x Lib.MathLoose.max_long.code 4 (some .long) ∈ tbl) ∧
  (k ≠ 3 → k < 20 → plainName (mx_my M').cls = true ∧ Cond.code (mx_my M') (mx_mb M') (mx_ml M') (mx_mr M') ∈ tbl ∧ Cond.initialized (mx_my M').cls ∈ tbl ∧ ((mx_my M').cls ≠ "java/lang/invoke/MethodHandle" ∧ (mx_my M').cls ≠ "java/lang/invoke/VarHandle") ∧ (parseMethodDescriptor (mx_my M').desc).map (fun d => d.parameters.length) = some na ∧ (mx_my M').cls = cn (mx_mc M')) ∧
  (k = 0 → Cond.methodLink (cn c) i (mx_my M') ∈ tbl ∧ Cond.instanceMethod (mx_my M') ∈ tbl ∧ Cond.selects (cn (mx_mc M')) (mx_my M') (mx_my M') ∈ tbl) ∧
  (k = 1 → Cond.methodLink (cn c) i (mx_my M') ∈ tbl ∧ Cond.instanceMethod (mx_my M') ∈ tbl ∧ (mx_my M').name = "<init>" ∧ mx_mr M' = none) ∧
  (k = 11 → (∃ host, Cond.methodLinkNest (cn c) i (mx_my M') host ∈ nst) ∧ Cond.instanceMethod (mx_my M') ∈ tbl ∧ (mx_my M').name = "<init>" ∧ mx_mr M' = none) ∧
  (k = 2 → Cond.methodLink (cn c) i (mx_my M') ∈ tbl ∧ Cond.static (mx_my M') ∈ tbl)
def mx_okW (tbl nst : List Cond) : Prop := (∀ w ∈ tbl, goodWord w = true) ∧ ∀ w ∈ nst, (∃ a i x h, w = Cond.methodLinkNest a i x h) ∨ ∃ a b, w = Cond.castable a b
def mx_ok (P : mx_T) (cn : Nat → String) (cl : List vw_C) (tbl nst : List Cond) (ao : List String) : Prop :=
  mx_okW tbl nst ∧ mx_okC cn cl tbl ∧ mx_okF P cn cl tbl ∧ mx_okK P cn tbl ∧ mx_okN P cn cl tbl ∧ mx_okA P cn tbl ao ∧ mx_okY P tbl ∧ mx_okG P cl nst ∧ mx_okT P cn cl tbl ∧ mx_okM P cn cl tbl nst
/-- locals -/
def mx_RL (g : List Nat) (n : Nat) (ls : Array Slot) (L : mx_L) : Prop := ls.size = n ∧ lv_wf ls ∧ ∀ i v, L i = some v → ls[i]? = some (.val v) ∧ (v.category = 2 → g.any (Nat.beq i) = true)
def mx_lv (n : Nat) (L : mx_L) : List (Nat × Value) := (List.range n).filterMap fun j => (L j).map fun v => (j, v)
theorem mx_lv_mem {n : Nat} {L : mx_L} {j : Nat} {v : Value} : (j, v) ∈ mx_lv n L ↔ j < n ∧ L j = some v := by
  simp only [mx_lv, List.mem_filterMap, List.mem_range, Option.map_eq_some_iff]
  constructor
  · rintro ⟨a, h1, w, h2, h3⟩
    cases h3
    exact ⟨h1, h2⟩
  · rintro ⟨h1, h2⟩
    exact ⟨j, h1, v, h2, rfl⟩
theorem mx_lv_has {g : List Nat} {n : Nat} {ls : Array Slot} {L : mx_L} (h : mx_RL g n ls L) : lv_has ls n (mx_lv n L) :=
  ⟨h.1, h.2.1, fun q hq => (h.2.2 q.1 q.2 (mx_lv_mem.mp (show (q.1, q.2) ∈ _ from hq)).2).1⟩
theorem mx_beq {a b : Nat} : Nat.beq a b = true ↔ a = b := ⟨Nat.eq_of_beq_eq_true, fun h => by subst h; exact Nat.beq_refl a⟩
theorem mx_s1_i {g : List Nat} {L : mx_L} {i : Nat} {v : Value} : mx_s1 g L i v i = some v := by simp [mx_s1, Nat.beq_refl]
theorem mx_s1_ne {g : List Nat} {L : mx_L} {i j : Nat} {v w : Value} (hj : j ≠ i) (h : mx_s1 g L i v j = some w) : L j = some w ∧ ¬ (j + 1 = i ∧ g.any (Nat.beq j) = true) := by
  unfold mx_s1 at h
  have h1 : Nat.beq j i = false := by
    cases hb : Nat.beq j i with
    | false => rfl
    | true => exact absurd (mx_beq.mp hb) hj
  rw [h1, cond_false] at h
  cases hb : (Nat.beq (j + 1) i && g.any (Nat.beq j)) with
  | true => rw [hb, cond_true] at h; cases h
  | false =>
    rw [hb, cond_false] at h
    refine ⟨h, fun ⟨q1, q2⟩ => ?_⟩
    rw [mx_beq.mpr q1, q2] at hb
    cases hb
theorem mx_RL1 {g : List Nat} {n : Nat} {ls : Array Slot} {L : mx_L} {i : Nat} {v : Value} (h : mx_RL g n ls L) (hi : i < n) (hv : v.category = 1) {ls' : Array Slot} (h' : lv_has ls' n ((i, v) :: (mx_lv n L).filter (fun q => !(q.1 == i) && !(q.1 + 1 == i && q.2.category == 2)))) : mx_RL g n ls' (mx_s1 g L i v) := by
  refine ⟨h'.1, h'.2.1, fun j w hw => ?_⟩
  by_cases hj : j = i
  · subst hj
    rw [mx_s1_i] at hw
    cases hw
    exact ⟨h'.2.2 _ List.mem_cons_self, fun q => by omega⟩
  · obtain ⟨h1, h2⟩ := mx_s1_ne hj hw
    obtain ⟨h3, h4⟩ := h.2.2 j w h1
    have hjn : j < n := by rw [← h.1]; exact lv_lt h3
    refine ⟨h'.2.2 (j, w) (List.mem_cons_of_mem _ (List.mem_filter.mpr ⟨mx_lv_mem.mpr ⟨hjn, h1⟩, ?_⟩)), h4⟩
    have e1 : (j == i) = false := by simpa using hj
    by_cases hc : j + 1 = i ∧ w.category = 2
    · exact absurd ⟨hc.1, h4 hc.2⟩ h2
    · simp only [e1, Bool.not_false, Bool.true_and, Bool.not_eq_true', Bool.and_eq_false_iff, beq_eq_false_iff_ne]
      by_cases q1 : j + 1 = i
      · exact Or.inr fun q2 => hc ⟨q1, q2⟩
      · exact Or.inl q1
theorem mx_s2_i {g : List Nat} {L : mx_L} {i : Nat} {v : Value} : mx_s2 g L i v i = some v := by simp [mx_s2, Nat.beq_refl]
theorem mx_s2_ne {g : List Nat} {L : mx_L} {i j : Nat} {v w : Value} (hj : j ≠ i) (h : mx_s2 g L i v j = some w) : L j = some w ∧ j ≠ i + 1 ∧ ¬ (j + 1 = i ∧ g.any (Nat.beq j) = true) := by
  unfold mx_s2 at h
  have h1 : Nat.beq j i = false := by
    cases hb : Nat.beq j i with
    | false => rfl
    | true => exact absurd (mx_beq.mp hb) hj
  rw [h1, cond_false] at h
  cases hb0 : Nat.beq j (i + 1) with
  | true => rw [hb0, cond_true] at h; cases h
  | false =>
    rw [hb0, cond_false] at h
    cases hb : (Nat.beq (j + 1) i && g.any (Nat.beq j)) with
    | true => rw [hb, cond_true] at h; cases h
    | false =>
      rw [hb, cond_false] at h
      refine ⟨h, fun q => ?_, fun ⟨q1, q2⟩ => ?_⟩
      · rw [mx_beq.mpr q] at hb0; cases hb0
      · rw [mx_beq.mpr q1, q2] at hb
        cases hb
theorem mx_RL2 {g : List Nat} {n : Nat} {ls : Array Slot} {L : mx_L} {i : Nat} {v : Value} (h : mx_RL g n ls L) (hi : i + 1 < n) (hg : g.any (Nat.beq i) = true) {ls' : Array Slot} (h' : lv_has ls' n ((i, v) :: (mx_lv n L).filter (fun q => !(q.1 == i) && (!(q.1 == i + 1) && !(q.1 + 1 == i && q.2.category == 2))))) : mx_RL g n ls' (mx_s2 g L i v) := by
  refine ⟨h'.1, h'.2.1, fun j w hw => ?_⟩
  by_cases hj : j = i
  · subst hj
    rw [mx_s2_i] at hw
    cases hw
    exact ⟨h'.2.2 _ List.mem_cons_self, fun _ => hg⟩
  · obtain ⟨h1, h0, h2⟩ := mx_s2_ne hj hw
    obtain ⟨h3, h4⟩ := h.2.2 j w h1
    have hjn : j < n := by rw [← h.1]; exact lv_lt h3
    refine ⟨h'.2.2 (j, w) (List.mem_cons_of_mem _ (List.mem_filter.mpr ⟨mx_lv_mem.mpr ⟨hjn, h1⟩, ?_⟩)), h4⟩
    have e1 : (j == i) = false := by simpa using hj
    have e2 : (j == i + 1) = false := by simpa using h0
    by_cases hc : j + 1 = i ∧ w.category = 2
    · exact absurd ⟨hc.1, h4 hc.2⟩ h2
    · simp only [e1, e2, Bool.not_false, Bool.true_and, Bool.not_eq_true', Bool.and_eq_false_iff, beq_eq_false_iff_ne]
      by_cases q1 : j + 1 = i
      · exact Or.inr fun q2 => hc ⟨q1, q2⟩
      · exact Or.inl q1
theorem mx_en_mem : ∀ {as : List Value} {i j : Nat} {v : Value}, mx_en i as j = some v → (j, v) ∈ lv_args i as := by
  intro as
  induction as with
  | nil => intro i j v h; cases h
  | cons w ws ih =>
    intro i j v h
    simp only [mx_en] at h
    cases hb : Nat.beq j i with
    | true =>
      rw [hb, cond_true] at h
      cases h
      rw [mx_beq.mp hb]
      exact List.mem_cons_self
    | false =>
      rw [hb, cond_false] at h
      refine List.mem_cons_of_mem _ ?_
      have := ih h
      cases w <;> simpa [lv_args, Value.category] using this
theorem mx_eg_ok {g : List Nat} : ∀ {as : List Value} {i j : Nat} {v : Value}, mx_eg g i as = true → mx_en i as j = some v → v.category = 2 → g.any (Nat.beq j) = true := by
  intro as
  induction as with
  | nil => intro i j v _ h; cases h
  | cons w ws ih =>
    intro i j v hg h hc
    simp only [mx_en] at h
    cases hb : Nat.beq j i with
    | true =>
      rw [hb, cond_true] at h
      cases h
      have hji := mx_beq.mp hb
      subst hji
      cases w <;> simp [Value.category] at hc
      · simp only [mx_eg, Bool.and_eq_true] at hg
        exact hg.1
      · simp [mx_eg] at hg
    | false =>
      rw [hb, cond_false] at h
      cases w <;> first | (simp only [mx_eg, Bool.and_eq_true] at hg; exact ih hg.2 h hc) | (simp only [mx_eg] at hg; exact ih hg h hc) | (simp [mx_eg] at hg)
theorem mx_RL0 {g : List Nat} {n : Nat} {as : List Value} (h : (lg_sl as).length ≤ n) (hg : mx_eg g 0 as = true) : mx_RL g n ((lg_sl as ++ List.replicate (n - (lg_sl as).length) Slot.unset).toArray) (mx_en 0 as) := by
  have hl := lv_entry as h
  exact ⟨hl.1, hl.2.1, fun i v hv => ⟨hl.2.2 (i, v) (mx_en_mem hv), fun hc => mx_eg_ok hg hv hc⟩⟩
/-- heaps -/
theorem mx_old.kept {cl : List vw_C} {D : va_G} {aC : Nat → ClassId} {a : Nat} {c : mx_C} {H H1 : Heap} (h : mx_old cl D aC a c H) (hq : H1[a]? = H[a]?) : mx_old cl D aC a c H1 := by
  cases c with
  | inl x => obtain ⟨cell, h1, h2⟩ := h; exact ⟨cell, hq.trans h1, h2⟩
  | inr o => obtain ⟨r, cell, h0, h1, h2⟩ := h; exact ⟨r, cell, h0, hq.trans h1, h2⟩
theorem mx_old.lt {cl : List vw_C} {D : va_G} {aC : Nat → ClassId} {a : Nat} {c : mx_C} {H : Heap} (h : mx_old cl D aC a c H) : a < H.size := by
  cases c with
  | inl x => obtain ⟨cell, h1, h2⟩ := h; exact (Array.getElem?_eq_some_iff.mp h1).1
  | inr o => obtain ⟨r, cell, h0, h1, h2⟩ := h; exact (Array.getElem?_eq_some_iff.mp h1).1
theorem mx_R.lt {P : mx_T} {cl : List vw_C} {D : va_G} {aC : Nat → ClassId} {H : Heap} {G : mx_H} {a : Nat} {c : mx_C} (h : mx_R P cl D aC H G) (hc : G.1 a = some c) : a < H.size := by
  rcases Nat.lt_or_ge a (mx_t0 P) with q | q
  · exact ((h.2 a c hc).2 q).lt
  · exact ((h.2 a c hc).1 q).lt
theorem mx_R.up {P : mx_T} {cl : List vw_C} {D : va_G} {aC : Nat → ClassId} {H H1 : Heap} {G : mx_H} {a : Nat} {c : mx_C} (h : mx_R P cl D aC H G) (ha : mx_t0 P ≤ a) (z : H1.size = H.size) (oq : ∀ q : Nat, q ≠ a → H1[q]? = H[q]?) (hc : va_at D cl (a, mx_e aC c) H1) : mx_R P cl D aC H1 (mx_up G a c) := by
  refine ⟨z.trans h.1, fun b d hb => ?_⟩
  by_cases hab : b = a
  · subst hab
    rw [mx_up_s] at hb
    cases hb
    exact ⟨fun _ => hc, fun q => by omega⟩
  · rw [mx_up_n _ _ hab] at hb
    exact ⟨fun q => ((h.2 b d hb).1 q).kept (oq b hab), fun q => ((h.2 b d hb).2 q).kept (oq b hab)⟩
theorem mx_R.pu {P : mx_T} {cl : List vw_C} {D : va_G} {aC : Nat → ClassId} {H H1 : Heap} {G : mx_H} {c : mx_C} {n : Nat} (h : mx_R P cl D aC H G) (h0 : mx_t0 P ≤ H.size) (z : H1.size = H.size + 1) (oq : ∀ q : Nat, q < H.size → H1[q]? = H[q]?) (hc : va_at D cl (H.size, mx_e aC c) H1) : mx_R P cl D aC H1 (mx_pu G c n) := by
  refine ⟨by rw [z, h.1]; rfl, fun b d hb => ?_⟩
  by_cases hab : b = G.2.1
  · subst hab
    rw [mx_pu_s] at hb
    cases hb
    rw [h.1] at hc h0
    exact ⟨fun _ => hc, fun q => by omega⟩
  · rw [mx_pu_n _ _ _ hab] at hb
    have hl := h.lt hb
    exact ⟨fun q => ((h.2 b d hb).1 q).kept (oq b hl), fun q => ((h.2 b d hb).2 q).kept (oq b hl)⟩
/-- an array, an object, wherever it lies -/
theorem mx_arr {P : mx_T} {cl : List vw_C} {D : va_G} {aC : Nat → ClassId} {H : Heap} {G : mx_H} {a t n : Nat} {q : (Nat → Int32) ⊕ (Nat → Int64) ⊕ (Nat → UInt32) ⊕ (Nat → UInt64) ⊕ (Nat → Option Nat)} (h : mx_R P cl D aC H G) (hc : G.1 a = some (.inl (t, n, q))) : ∃ cell, H[a]? = some cell ∧ cell.cls = aC t ∧ cell.vm.isStatics = false ∧ cell.vm ≠ .unknown ∧ cell.slots.size = n ∧ ∀ j, j < n → cell.slots[j]? = some (mx_av q j) := by
  rcases Nat.lt_or_ge a (mx_t0 P) with z | z
  · exact (h.2 a _ hc).2 z
  · have h1 : H[a]? = some (vp_cell (aC t) (n, q)) := (h.2 a _ hc).1 z
    refine ⟨_, h1, ?_⟩
    obtain f | f | f | f | f := q
    · exact ⟨rfl, rfl, (fun e => by cases e), arrV_size _ _ _, fun j hj => arrV_read _ _ hj⟩
    · exact ⟨rfl, rfl, (fun e => by cases e), arrV_size _ _ _, fun j hj => arrV_read _ _ hj⟩
    · exact ⟨rfl, rfl, (fun e => by cases e), arrV_size _ _ _, fun j hj => arrV_read _ _ hj⟩
    · exact ⟨rfl, rfl, (fun e => by cases e), arrV_size _ _ _, fun j hj => arrV_read _ _ hj⟩
    · exact ⟨rfl, rfl, (fun e => by cases e), arrV_size _ _ _, fun j hj => arrV_read _ _ hj⟩
theorem mx_obj {P : mx_T} {cl : List vw_C} {D : va_G} {aC : Nat → ClassId} {H : Heap} {G : mx_H} {a ci : Nat} {fs : List Value} (h : mx_R P cl D aC H G) (hc : G.1 a = some (.inr (ci, fs))) : ∃ r cell, cl[ci]? = some r ∧ H[a]? = some cell ∧ cell.cls = D.1 ci ∧ cell.vm.isStatics = false ∧ cell.vm ≠ .unknown ∧ ∀ k, k < r.2.2 → cell.slots[D.2 ci k]? = some (vp_V fs k) := by
  rcases Nat.lt_or_ge a (mx_t0 P) with z | z
  · exact (h.2 a _ hc).2 z
  · obtain ⟨r, h1, cell, h2, h3, h4, h5⟩ := (h.2 a _ hc).1 z
    exact ⟨r, cell, h1, h2, h3, by rw [h4]; rfl, (by rw [h4]; exact (fun e => by cases e)), h5⟩
theorem mx_isarr {s : State} {cA : ClassId} {ty : FieldType} {cell : Cell} (h : ArrOfT s cA ty) (h1 : cell.cls = cA) (h2 : cell.vm.isStatics = false) : s.isArrayOf cell ty := by
  obtain ⟨-, k, hk, comp, hkind⟩ := h 0 (fun _ => .null)
  exact ⟨(fun z hz => by rw [hz] at h2; cases h2), k, by rw [h1]; exact hk, comp, hkind⟩
theorem mx_recv {P : mx_T} {s : State} {H : Heap} {D : va_G} {cl : List vw_C} {aC : Nat → ClassId} {G : mx_H} {a ci : Nat} {q : vw_C} {fs : List Value} {tys : List (ClassId × FieldType)} (hK : va_K D cl tys s) (hR : mx_R P cl D aC H G) (hc : cl[ci]? = some q) (he : G.1 a = some (.inr (ci, fs))) : ∃ cell : Cell, H[a]? = some cell ∧ cell.vm.isStatics = false ∧ s.vm.findClass q.1 = some cell.cls := by
  obtain ⟨r, cell, h1, h2, h3, h4, h5, h6⟩ := mx_obj hR he
  exact ⟨cell, h2, h4, by rw [h3]; exact (hK.1 ci q hc).2.1⟩
theorem mx_S.pu {A : Nat → Prop} {H0 H H1 : Heap} {locs : List Loc} (hS : va_S A H0 H locs) (z : H1.size = H.size + 1) (oq : ∀ q : Nat, q < H.size → H1[q]? = H[q]?) : va_S A H0 H1 locs :=
  ⟨Nat.le_trans hS.1 (by omega), fun x h1 h2 => (oq x (Nat.lt_of_lt_of_le h1 hS.1)).trans (hS.2.1 x h1 h2), hS.2.2⟩
theorem mx_tl_at {P : mx_T} {aC : Nat → ClassId} {t : Nat} {ty : FieldType} (h : (mx_ty P)[t]? = some ty) : (mx_tl P aC)[t]? = some (aC t, ty) := by
  simp [mx_tl, List.getElem?_mapIdx, h]
theorem mx_U.moved {P : mx_T} {cn : Nat → String} {cl : List vw_C} {D : va_G} {aC : Nat → ClassId} {tbl nst : List Cond} {ao : List String} {s U : State} (hw : mx_okW tbl nst) (h : mx_U P cn cl D aC tbl nst ao s) (hW : s.WarmedH U.vm) {locs : List Loc} (hS : va_S (mx_A P) s.heap U.heap locs) : mx_U P cn cl D aC tbl nst ao U := by
  obtain ⟨h1, h2, h3, h4, h5, h6, ⟨C9, h9⟩, h7, h8, h10, h11⟩ := h
  refine ⟨va_K.moved hW.alike h1, fun w hn => ?_, fun C hC => va_AO.moved hW.alike (h3 C hC), fun c i v hv => ?_, Nat.le_trans h5 hS.1, arrOfT_moved hW.alike h6, ⟨C9, arrOfT_moved hW.alike h9⟩, va_Mi.moved hW.alike h7, va_Dc.moved hW.alike h8, (fun c i a v hv => by obtain ⟨C, n, d, q1, q2⟩ := h10 c i a v hv; exact ⟨C, n, d, (va_OF.moved hW.alike q1).kept hS.2.1, q2⟩), fun a c hv => (va_O.moved hW.alike (h11 a c hv)).kept hS.2.1⟩
  · rcases hw.2 w hn with ⟨a, i, x, h, rfl⟩ | ⟨a, b, rfl⟩
    · exact va_Nw.warmM hW (h2 _ hn)
    · exact va_Nw.warmC hW (h2 _ hn)
  · obtain ⟨C, n, d, q1, q2⟩ := h4 c i v hv
    exact ⟨C, n, d, (va_Z.moved hW.alike q1).kept hS.2.1, q2⟩
theorem mx_U.calling {P : mx_T} {cn : Nat → String} {cl : List vw_C} {D : va_G} {aC : Nat → ClassId} {tbl nst : List Cond} {ao : List String} {U : State} (hw : mx_okW tbl nst) (h : mx_U P cn cl D aC tbl nst ao U) (g : JFrame) (mk : MethodId) (a : Array Value) : mx_U P cn cl D aC tbl nst ao (U.calling g mk a) := by
  obtain ⟨h1, h2, h3, h4, h5, h6, ⟨C9, h9⟩, h7, h8, h10, h11⟩ := h
  refine ⟨va_K.moved (u := U) (U := U.calling g mk a) (Vm.Alike.refl U.vm) h1, fun w hn => ?_, fun C hC => va_AO.moved (u := U) (U := U.calling g mk a) (Vm.Alike.refl U.vm) (h3 C hC), fun c i v hv => ?_, h5, arrOfT_moved (u := U) (E := U.calling g mk a) (Vm.Alike.refl U.vm) h6, ⟨C9, arrOfT_moved (u := U) (E := U.calling g mk a) (Vm.Alike.refl U.vm) h9⟩, va_Mi.moved (u := U) (U := U.calling g mk a) (Vm.Alike.refl U.vm) h7, va_Dc.moved (u := U) (U := U.calling g mk a) (Vm.Alike.refl U.vm) h8, (fun c i a9 v hv => by obtain ⟨C, n, d, q1, q2⟩ := h10 c i a9 v hv; exact ⟨C, n, d, va_OF.moved (u := U) (U := U.calling g mk a) (Vm.Alike.refl U.vm) q1, q2⟩), fun a9 c hv => va_O.moved (u := U) (U := U.calling g mk a) (Vm.Alike.refl U.vm) (h11 a9 c hv)⟩
  · rcases hw.2 w hn with ⟨a', i, x, h, rfl⟩ | ⟨a', b, rfl⟩
    · exact va_Nw.same (u := U) (U := U.calling g mk a) rfl rfl (h2 _ hn)
    · exact va_Nw.same (u := U) (U := U.calling g mk a) rfl rfl (h2 _ hn)
  · obtain ⟨C, n, d, q1, q2⟩ := h4 c i v hv
    exact ⟨C, n, d, va_Z.moved (u := U) (U := U.calling g mk a) (Vm.Alike.refl U.vm) q1, q2⟩
