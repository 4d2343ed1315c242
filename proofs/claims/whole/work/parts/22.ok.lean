def gt_at (p : Nat) (w : Cond) : Bool := decide (lw_tbl[p]? = some w) && goodWord w
theorem gt_at_ok {p : Nat} {w : Cond} (h : gt_at p w = true) : w ∈ gt_tbl := by
  simp only [gt_at, Bool.and_eq_true, decide_eq_true_eq] at h
  exact List.mem_filter.mpr ⟨List.mem_of_getElem? h.1, h.2⟩
def gt_an (p : Nat) (w : Cond) : Bool := decide (lw_tbl[p]? = some w) && gt_nw w
theorem gt_an_ok {p : Nat} {w : Cond} (h : gt_an p w = true) : w ∈ gt_nst := by
  simp only [gt_an, Bool.and_eq_true, decide_eq_true_eq] at h
  exact List.mem_filter.mpr ⟨List.mem_of_getElem? h.1, h.2⟩
theorem gt_us : ∀ {ws : List Cond} (ps : List Nat) (_ : (decide (ps.length = ws.length) && (ws.zip ps).all (fun e => gt_at e.2 e.1)) = true), ∀ w ∈ ws, w ∈ gt_tbl := by
  intro ws
  induction ws with
  | nil => intro ps _ w hw; cases hw
  | cons a l ih =>
    intro ps h w hw
    cases ps with
    | nil => simp at h
    | cons p ps =>
      simp only [List.length_cons, List.zip_cons_cons, List.all_cons, Bool.and_eq_true, decide_eq_true_eq, Nat.add_right_cancel_iff] at h
      rcases List.mem_cons.mp hw with e | e
      · rw [e]; exact gt_at_ok h.2.1
      · exact ih ps (by simp only [Bool.and_eq_true, decide_eq_true_eq]; exact ⟨h.1, h.2.2⟩) w e
theorem gt_lu_ok {α : Type} {t : List (List (Nat × α))} {c i : Nat} {x : α} (h : gt_lu t c i = some x) {f : Nat → Nat × α → Bool} (hf : t.zipIdx.all (fun lc => lc.1.all (fun e => f lc.2 e)) = true) : f c (i, x) = true := by
  unfold gt_lu at h
  obtain ⟨e, h1, h2⟩ := Option.map_eq_some_iff.mp h
  have h3 := List.find?_some h1
  have h4 := List.mem_of_find?_eq_some h1
  have e1 : e.1 = i := Nat.eq_of_beq_eq_true h3
  have e2 : e = (i, x) := by rw [← e1, ← h2]
  subst e2
  rw [List.getD_eq_getElem?_getD] at h4
  cases hc : t[c]? with
  | none => rw [hc] at h4; cases h4
  | some l =>
    rw [hc] at h4
    have hm : (l, c) ∈ t.zipIdx := by
      rw [List.mem_zipIdx_iff_getElem?]
      exact hc
    exact List.all_eq_true.mp (List.all_eq_true.mp hf (l, c) hm) (i, x) h4
def gt_okf (c : Nat) (e : Nat × (Nat × Nat × FieldType × Bool) × String × Nat × Nat) : Bool := match gt_cl[e.2.1.1]? with
  | none => false
  | some r => decide (e.2.1.2.1 < r.2.2) && decide (parseFieldDescriptor (r.2.1 e.2.1.2.1).2.2.1 = some e.2.1.2.2.1) && decide ((r.2.1 e.2.1.2.1).2.2.2 = e.2.1.2.2.2) && (!e.2.1.2.2.2 || decide ((r.2.1 e.2.1.2.1).1 = gt_c e.2.1.1)) && gt_at e.2.2.2.1 (.fieldLink (gt_c c) e.1 e.2.2.1 (r.2.1 e.2.1.2.1).2.1 (r.2.1 e.2.1.2.1).2.2.1) && (decide (e.2.2.1 = (r.2.1 e.2.1.2.1).1) || gt_at e.2.2.2.2 (.sameField e.2.2.1 (r.2.1 e.2.1.2.1).1 (r.2.1 e.2.1.2.1).2.1 (r.2.1 e.2.1.2.1).2.2.1))
def gt_okk (c : Nat) (e : Nat × Option Value × Nat) : Bool := match e.2.1 with
  | some (.int x) => gt_at e.2.2 (.constant (gt_c c) e.1 x)
  | some (.long x) => gt_at e.2.2 (.constantLong (gt_c c) e.1 x)
  | none => gt_at e.2.2 (.classLink (gt_c c) e.1 "[Ljava/lang/Object;")
  | _ => false
def gt_okn (c : Nat) (e : Nat × (Nat × List Value) × Nat × Nat × Nat) : Bool := match gt_cl[e.2.1.1]? with
  | none => false
  | some r => decide (r.2.2 = e.2.1.2.length) && gt_at e.2.2.1 (.classLink (gt_c c) e.1 r.1) && gt_at e.2.2.2.1 (.instantiable r.1 e.2.1.2.length) && gt_at e.2.2.2.2 (.initialized r.1) && (List.range e.2.1.2.length).all (fun j => decide ((parseFieldDescriptor (r.2.1 j).2.2.1).map defaultValue = some (vp_V e.2.1.2 j)))
def gt_oka (c : Nat) (e : Nat × Nat × String × Nat) : Bool := decide (gt_ty[e.2.1]? = some (.object e.2.2.1)) && gt_at e.2.2.2 (.classLink (gt_c c) e.1 e.2.2.1) && decide (e.2.2.1 ∈ gt_ao)
def gt_okq (c : Nat) (e : Nat × Nat × String × Nat) : Bool := gt_at e.2.2.2 (.classLink (gt_c c) e.1 e.2.2.1) && (match gt_cl[e.2.1]? with | none => false | some r => decide (r.1 = e.2.2.1))
def gt_okm0 (na q : Nat) (M : mx_M) (ps : List Nat) : Bool := decide (plainName (mx_my M).cls = true) && decide (q < gt_ms.length) && gt_at (ps.getD 0 0) (.initialized (mx_my M).cls) && decide ((mx_my M).cls ≠ "java/lang/invoke/MethodHandle") && decide ((mx_my M).cls ≠ "java/lang/invoke/VarHandle") && decide ((parseMethodDescriptor (mx_my M).desc).map (fun d => d.parameters.length) = some na) && decide ((mx_my M).cls = gt_c (mx_mc M))
def gt_okm (c : Nat) (e : Nat × (Nat × Nat × Nat) × List Nat × String) : Bool :=
  if e.2.1.1 = 3 then gt_at (e.2.2.1.getD 0 0) (.methodLink (gt_c c) e.1 Lib.objectInit) && gt_at (e.2.2.1.getD 1 0) (.instanceMethod Lib.objectInit) && gt_at (e.2.2.1.getD 2 0) (.code Lib.objectInit ⟨#[0xb1]⟩ 1 none)
  else if e.2.1.1 = 20 then gt_at (e.2.2.1.getD 0 0) (.methodLink (gt_c c) e.1 arraycopyName) && gt_at (e.2.2.1.getD 1 0) (.native arraycopyName) && gt_at (e.2.2.1.getD 2 0) (.static arraycopyName) && gt_at (e.2.2.1.getD 3 0) (.initialized "java/lang/System")
  else if e.2.1.1 = 21 then gt_at (e.2.2.1.getD 0 0) (.methodLink (gt_c c) e.1 ⟨"java/lang/Object", "getClass", "()Ljava/lang/Class;"⟩) && gt_at (e.2.2.1.getD 1 0) (.selects "[Ljava/lang/Object;" ⟨"java/lang/Object", "getClass", "()Ljava/lang/Class;"⟩ ⟨"java/lang/Object", "getClass", "()Ljava/lang/Class;"⟩) && gt_at (e.2.2.1.getD 2 0) (.instanceMethod ⟨"java/lang/Object", "getClass", "()Ljava/lang/Class;"⟩) && gt_at (e.2.2.1.getD 3 0) (.native ⟨"java/lang/Object", "getClass", "()Ljava/lang/Class;"⟩)
  else if e.2.1.1 = 22 then gt_at (e.2.2.1.getD 0 0) (.methodLink (gt_c c) e.1 Lib.Math.min.name) && gt_at (e.2.2.1.getD 1 0) (.static Lib.Math.min.name) && gt_at (e.2.2.1.getD 2 0) (.initialized "java/lang/Math") && gt_at (e.2.2.1.getD 3 0) (.code Lib.Math.min.name Lib.Math.min.code 2 (some .int))
  else if e.2.1.1 = 23 then gt_at (e.2.2.1.getD 0 0) (.methodLink (gt_c c) e.1 Lib.Math.max.name) && gt_at (e.2.2.1.getD 1 0) (.static Lib.Math.max.name) && gt_at (e.2.2.1.getD 2 0) (.initialized "java/lang/Math") && gt_at (e.2.2.1.getD 3 0) (.code Lib.Math.max.name Lib.Math.max.code 2 (some .int))
  else if e.2.1.1 = 24 then gt_at (e.2.2.1.getD 0 0) (.methodLink (gt_c c) e.1 Lib.MathLoose.min_long.x) && gt_at (e.2.2.1.getD 1 0) (.static Lib.MathLoose.min_long.x) && gt_at (e.2.2.1.getD 2 0) (.initialized "java/lang/Math") && gt_at (e.2.2.1.getD 3 0) (.code Lib.MathLoose.min_long.x Lib.MathLoose.min_long.code 4 (some .long))
  else if e.2.1.1 = 25 then gt_at (e.2.2.1.getD 0 0) (.methodLink (gt_c c) e.1 Lib.MathLoose.max_long.x) && gt_at (e.2.2.1.getD 1 0) (.static Lib.MathLoose.max_long.x) && gt_at (e.2.2.1.getD 2 0) (.initialized "java/lang/Math") && gt_at (e.2.2.1.getD 3 0) (.code Lib.MathLoose.max_long.x Lib.MathLoose.max_long.code 4 (some .long))
  else gt_okm0 e.2.1.2.1 e.2.1.2.2 (gt_ms.getD e.2.1.2.2 mL_law) e.2.2.1 && (if e.2.1.1 = 0 then gt_at (e.2.2.1.getD 1 0) (.methodLink (gt_c c) e.1 (mx_my (gt_ms.getD e.2.1.2.2 mL_law))) && gt_at (e.2.2.1.getD 2 0) (.instanceMethod (mx_my (gt_ms.getD e.2.1.2.2 mL_law))) && gt_at (e.2.2.1.getD 3 0) (.selects (gt_c (mx_mc (gt_ms.getD e.2.1.2.2 mL_law))) (mx_my (gt_ms.getD e.2.1.2.2 mL_law)) (mx_my (gt_ms.getD e.2.1.2.2 mL_law)))
    else if e.2.1.1 = 1 then gt_at (e.2.2.1.getD 1 0) (.methodLink (gt_c c) e.1 (mx_my (gt_ms.getD e.2.1.2.2 mL_law))) && gt_at (e.2.2.1.getD 2 0) (.instanceMethod (mx_my (gt_ms.getD e.2.1.2.2 mL_law))) && decide ((mx_my (gt_ms.getD e.2.1.2.2 mL_law)).name = "<init>") && decide (mx_mr (gt_ms.getD e.2.1.2.2 mL_law) = none)
    else if e.2.1.1 = 11 then gt_an (e.2.2.1.getD 1 0) (.methodLinkNest (gt_c c) e.1 (mx_my (gt_ms.getD e.2.1.2.2 mL_law)) e.2.2.2) && gt_at (e.2.2.1.getD 2 0) (.instanceMethod (mx_my (gt_ms.getD e.2.1.2.2 mL_law))) && decide ((mx_my (gt_ms.getD e.2.1.2.2 mL_law)).name = "<init>") && decide (mx_mr (gt_ms.getD e.2.1.2.2 mL_law) = none)
    else if e.2.1.1 = 2 then gt_at (e.2.2.1.getD 1 0) (.methodLink (gt_c c) e.1 (mx_my (gt_ms.getD e.2.1.2.2 mL_law))) && gt_at (e.2.2.1.getD 2 0) (.static (mx_my (gt_ms.getD e.2.1.2.2 mL_law)))
    else false)
set_option maxRecDepth 100000 in
theorem gt_okf_all : gt_f.zipIdx.all (fun lc => lc.1.all (fun e => gt_okf lc.2 e)) = true := by decide +kernel
set_option maxRecDepth 100000 in
theorem gt_okk_all : gt_k.zipIdx.all (fun lc => lc.1.all (fun e => gt_okk lc.2 e)) = true := by decide +kernel
set_option maxRecDepth 100000 in
theorem gt_okn_all : gt_n.zipIdx.all (fun lc => lc.1.all (fun e => gt_okn lc.2 e)) = true := by decide +kernel
set_option maxRecDepth 100000 in
theorem gt_oka_all : gt_a.zipIdx.all (fun lc => lc.1.all (fun e => gt_oka lc.2 e)) = true := by decide +kernel
set_option maxRecDepth 100000 in
theorem gt_okq_all : gt_q.zipIdx.all (fun lc => lc.1.all (fun e => gt_okq lc.2 e)) = true := by decide +kernel
set_option maxRecDepth 100000 in
theorem gt_okm_0 : (gt_m.getD 0 []).all (fun e => gt_okm 0 e) = true := by decide +kernel
set_option maxRecDepth 100000 in
theorem gt_okm_1 : (gt_m.getD 1 []).all (fun e => gt_okm 1 e) = true := by decide +kernel
set_option maxRecDepth 100000 in
theorem gt_okm_2 : (gt_m.getD 2 []).all (fun e => gt_okm 2 e) = true := by decide +kernel
set_option maxRecDepth 100000 in
theorem gt_okm_3 : (gt_m.getD 3 []).all (fun e => gt_okm 3 e) = true := by decide +kernel
set_option maxRecDepth 100000 in
theorem gt_okm_4 : (gt_m.getD 4 []).all (fun e => gt_okm 4 e) = true := by decide +kernel
set_option maxRecDepth 100000 in
theorem gt_okm_5 : (gt_m.getD 5 []).all (fun e => gt_okm 5 e) = true := by decide +kernel
set_option maxRecDepth 100000 in
theorem gt_okm_6 : (gt_m.getD 6 []).all (fun e => gt_okm 6 e) = true := by decide +kernel
set_option maxRecDepth 100000 in
theorem gt_okm_7 : (gt_m.getD 7 []).all (fun e => gt_okm 7 e) = true := by decide +kernel
set_option maxRecDepth 100000 in
theorem gt_okm_8 : (gt_m.getD 8 []).all (fun e => gt_okm 8 e) = true := by decide +kernel
set_option maxRecDepth 100000 in
theorem gt_okm_9 : (gt_m.getD 9 []).all (fun e => gt_okm 9 e) = true := by decide +kernel
set_option maxRecDepth 100000 in
theorem gt_okm_10 : (gt_m.getD 10 []).all (fun e => gt_okm 10 e) = true := by decide +kernel
set_option maxRecDepth 100000 in
theorem gt_okm_11 : (gt_m.getD 11 []).all (fun e => gt_okm 11 e) = true := by decide +kernel
set_option maxRecDepth 100000 in
theorem gt_okm_12 : (gt_m.getD 12 []).all (fun e => gt_okm 12 e) = true := by decide +kernel
set_option maxRecDepth 100000 in
theorem gt_okm_13 : (gt_m.getD 13 []).all (fun e => gt_okm 13 e) = true := by decide +kernel
set_option maxRecDepth 100000 in
theorem gt_okm_14 : (gt_m.getD 14 []).all (fun e => gt_okm 14 e) = true := by decide +kernel
set_option maxRecDepth 100000 in
theorem gt_okm_15 : (gt_m.getD 15 []).all (fun e => gt_okm 15 e) = true := by decide +kernel
set_option maxRecDepth 100000 in
theorem gt_okm_16 : (gt_m.getD 16 []).all (fun e => gt_okm 16 e) = true := by decide +kernel
set_option maxRecDepth 100000 in
theorem gt_okm_17 : (gt_m.getD 17 []).all (fun e => gt_okm 17 e) = true := by decide +kernel
set_option maxRecDepth 100000 in
theorem gt_okm_18 : (gt_m.getD 18 []).all (fun e => gt_okm 18 e) = true := by decide +kernel
set_option maxRecDepth 100000 in
theorem gt_okm_19 : (gt_m.getD 19 []).all (fun e => gt_okm 19 e) = true := by decide +kernel
set_option maxRecDepth 100000 in
theorem gt_okm_20 : (gt_m.getD 20 []).all (fun e => gt_okm 20 e) = true := by decide +kernel
theorem gt_okm_all {c i : Nat} {x : (Nat × Nat × Nat) × List Nat × String} (h : gt_lu gt_m c i = some x) : gt_okm c (i, x) = true := by
  unfold gt_lu at h
  obtain ⟨e, h1, h2⟩ := Option.map_eq_some_iff.mp h
  have h3 := List.find?_some h1
  have h4 := List.mem_of_find?_eq_some h1
  have e1 : e.1 = i := Nat.eq_of_beq_eq_true h3
  have e2 : e = (i, x) := by rw [← e1, ← h2]
  subst e2
  match c, h4 with
  | 0, h4 => exact List.all_eq_true.mp gt_okm_0 _ h4
  | 1, h4 => exact List.all_eq_true.mp gt_okm_1 _ h4
  | 2, h4 => exact List.all_eq_true.mp gt_okm_2 _ h4
  | 3, h4 => exact List.all_eq_true.mp gt_okm_3 _ h4
  | 4, h4 => exact List.all_eq_true.mp gt_okm_4 _ h4
  | 5, h4 => exact List.all_eq_true.mp gt_okm_5 _ h4
  | 6, h4 => exact List.all_eq_true.mp gt_okm_6 _ h4
  | 7, h4 => exact List.all_eq_true.mp gt_okm_7 _ h4
  | 8, h4 => exact List.all_eq_true.mp gt_okm_8 _ h4
  | 9, h4 => exact List.all_eq_true.mp gt_okm_9 _ h4
  | 10, h4 => exact List.all_eq_true.mp gt_okm_10 _ h4
  | 11, h4 => exact List.all_eq_true.mp gt_okm_11 _ h4
  | 12, h4 => exact List.all_eq_true.mp gt_okm_12 _ h4
  | 13, h4 => exact List.all_eq_true.mp gt_okm_13 _ h4
  | 14, h4 => exact List.all_eq_true.mp gt_okm_14 _ h4
  | 15, h4 => exact List.all_eq_true.mp gt_okm_15 _ h4
  | 16, h4 => exact List.all_eq_true.mp gt_okm_16 _ h4
  | 17, h4 => exact List.all_eq_true.mp gt_okm_17 _ h4
  | 18, h4 => exact List.all_eq_true.mp gt_okm_18 _ h4
  | 19, h4 => exact List.all_eq_true.mp gt_okm_19 _ h4
  | 20, h4 => exact List.all_eq_true.mp gt_okm_20 _ h4
  | k + 21, h4 => exact absurd h4 (by simp [gt_m])
set_option maxRecDepth 100000 in
theorem gt_u0 : ∀ w ∈ u_ws RX0 TX0 1, w ∈ gt_tbl := gt_us [211] (by decide +kernel)
set_option maxRecDepth 100000 in
theorem gt_u1 : ∀ w ∈ u_ws RX1 TX1 1, w ∈ gt_tbl := gt_us [200] (by decide +kernel)
set_option maxRecDepth 100000 in
theorem gt_u2 : ∀ w ∈ u_ws RX2 TX2 2, w ∈ gt_tbl := gt_us [185, 187] (by decide +kernel)
set_option maxRecDepth 100000 in
theorem gt_u3 : ∀ w ∈ u_ws RX3 TX3 7, w ∈ gt_tbl := gt_us [231, 233, 235, 237, 239, 241, 243] (by decide +kernel)
set_option maxRecDepth 100000 in
theorem gt_u4 : ∀ w ∈ u_ws RX4 TX4 6, w ∈ gt_tbl := gt_us [615, 617, 619, 621, 623, 625] (by decide +kernel)
set_option maxRecDepth 100000 in
theorem gt_u5 : ∀ w ∈ u_ws RX5 TX5 20, w ∈ gt_tbl := gt_us [360, 362, 364, 366, 368, 370, 372, 374, 376, 378, 380, 382, 384, 386, 388, 390, 392, 394, 396, 398] (by decide +kernel)
set_option maxRecDepth 100000 in
theorem gt_u6 : ∀ w ∈ u_ws RX6 TX6 9, w ∈ gt_tbl := gt_us [558, 560, 562, 564, 566, 568, 570, 572, 574] (by decide +kernel)
set_option maxRecDepth 100000 in
theorem gt_u7 : ∀ w ∈ u_ws RX7 TX7 8, w ∈ gt_tbl := gt_us [157, 159, 161, 163, 165, 167, 169, 171] (by decide +kernel)
set_option maxRecDepth 100000 in
theorem gt_u8 : ∀ w ∈ u_ws RX9 TX9 8, w ∈ gt_tbl := gt_us [256, 258, 260, 262, 264, 266, 268, 270] (by decide +kernel)
set_option maxRecDepth 100000 in
theorem gt_u9 : ∀ w ∈ u_ws RX10 TX10 54, w ∈ gt_tbl := gt_us [1156, 1158, 1160, 1162, 1164, 1166, 1168, 1170, 1172, 1174, 1176, 1178, 1180, 1182, 1184, 1186, 1188, 1190, 1192, 1194, 1196, 1198, 1200, 1202, 1204, 1206, 1208, 1210, 1212, 1214, 1216, 1218, 1220, 1222, 1224, 1226, 1228, 1230, 1232, 1234, 1236, 1238, 1240, 1242, 1244, 1246, 1248, 1250, 1252, 1254, 1256, 1258, 1260, 1262] (by decide +kernel)
set_option maxRecDepth 100000 in
theorem gt_u10 : ∀ w ∈ u_ws RJx4a65c TJx4a65c 3, w ∈ gt_tbl := gt_us [130, 126, 128] (by decide +kernel)
set_option maxRecDepth 100000 in
theorem gt_u11 : ∀ w ∈ u_ws RX12 TX12 2, w ∈ gt_tbl := gt_us [507, 509] (by decide +kernel)
theorem gt_okC : mx_okC gt_c gt_cl gt_tbl := by
  intro ci C T N h
  match ci, h with
  | 0, h => cases h; exact ⟨rfl, gt_u0, tyX0, tyX0_ok, nmX0⟩
  | 1, h => cases h; exact ⟨rfl, gt_u1, tyX1, tyX1_ok, nmX1⟩
  | 2, h => cases h; exact ⟨rfl, gt_u2, tyX2, tyX2_ok, nmX2⟩
  | 3, h => cases h; exact ⟨rfl, gt_u3, tyX3, tyX3_ok, nmX3⟩
  | 4, h => cases h; exact ⟨rfl, gt_u4, tyX4, tyX4_ok, nmX4⟩
  | 5, h => cases h; exact ⟨rfl, gt_u5, tyX5, tyX5_ok, nmX5⟩
  | 6, h => cases h; exact ⟨rfl, gt_u6, tyX6, tyX6_ok, nmX6⟩
  | 7, h => cases h; exact ⟨rfl, gt_u7, tyX7, tyX7_ok, nmX7⟩
  | 8, h => cases h; exact ⟨rfl, gt_u8, tyX9, tyX9_ok, nmX9⟩
  | 9, h => cases h; exact ⟨rfl, gt_u9, tyX10, tyX10_ok, nmX10⟩
  | 10, h => cases h; exact ⟨rfl, gt_u10, tyJx4a65c, tyJx4a65c_ok, nmJx4a65c⟩
  | 11, h => cases h; exact ⟨rfl, gt_u11, tyX12, tyX12_ok, nmX12⟩
  | k + 12, h => simp [gt_cl] at h
theorem gt_okF (b0 mi : Nat) (E : Nat → Nat) : mx_okF (gt_P b0 mi E) gt_c gt_cl gt_tbl := by
  intro c i ci j ty fin h
  obtain ⟨⟨x, ref, p, p2⟩, h1, h2⟩ := Option.map_eq_some_iff.mp (show (gt_lu gt_f c i).map (fun e => e.1) = some (ci, j, ty, fin) from h)
  dsimp only at h2
  subst h2
  have h3 := gt_lu_ok h1 gt_okf_all
  unfold gt_okf at h3
  dsimp only at h3
  cases hr : gt_cl[ci]? with
  | none => rw [hr] at h3; cases h3
  | some r =>
    rw [hr] at h3
    obtain ⟨C, T, N⟩ := r
    simp only [Bool.and_eq_true, Bool.or_eq_true, decide_eq_true_eq, Bool.not_eq_true'] at h3
    obtain ⟨⟨⟨⟨⟨a1, a2⟩, a3⟩, a4⟩, a5⟩, a6⟩ := h3
    refine ⟨C, T, N, ref, rfl, a1, a2, a3, fun hf => ?_, gt_at_ok a5, ?_⟩
    · rcases a4 with a4 | a4
      · rw [hf] at a4; cases a4
      · exact a4
    · rcases a6 with a6 | a6
      · exact Or.inl a6
      · exact Or.inr (gt_at_ok a6)
theorem gt_okK (b0 mi : Nat) (E : Nat → Nat) : mx_okK (gt_P b0 mi E) gt_c gt_tbl := by
  have key : ∀ c i v, mx_tc (gt_P b0 mi E) c i = some v → ∃ o p, gt_okk c (i, o, p) = true ∧ o.getD (.ref mi) = v := by
    intro c i v h
    obtain ⟨⟨o, p⟩, h1, h2⟩ := Option.map_eq_some_iff.mp (show (gt_lu gt_k c i).map (fun e => e.1.getD (.ref mi)) = some v from h)
    exact ⟨o, p, gt_lu_ok h1 gt_okk_all, h2⟩
  refine ⟨fun c i x h => ?_, fun c i x h => ?_, fun c i a h => ?_⟩
  · obtain ⟨o, p, h1, h2⟩ := key c i _ h
    cases o with
    | none => cases h2
    | some v => simp at h2; subst h2; exact gt_at_ok h1
  · obtain ⟨o, p, h1, h2⟩ := key c i _ h
    cases o with
    | none => cases h2
    | some v => simp at h2; subst h2; exact gt_at_ok h1
  · obtain ⟨o, p, h1, h2⟩ := key c i _ h
    cases o with
    | none => exact gt_at_ok h1
    | some v => simp at h2; subst h2; cases h1
theorem gt_okN (b0 mi : Nat) (E : Nat → Nat) : mx_okN (gt_P b0 mi E) gt_c gt_cl gt_tbl := by
  intro c i ci fs h
  obtain ⟨⟨x, p1, p2, p3⟩, h1, h2⟩ := Option.map_eq_some_iff.mp (show (gt_lu gt_n c i).map (fun e => e.1) = some (ci, fs) from h)
  dsimp only at h2
  subst h2
  have h3 := gt_lu_ok h1 gt_okn_all
  unfold gt_okn at h3
  dsimp only at h3
  cases hr : gt_cl[ci]? with
  | none => rw [hr] at h3; cases h3
  | some r =>
    rw [hr] at h3
    obtain ⟨C, T, N⟩ := r
    simp only [Bool.and_eq_true, decide_eq_true_eq, List.all_eq_true, List.mem_range] at h3
    obtain ⟨⟨⟨⟨a1, a2⟩, a3⟩, a4⟩, a5⟩ := h3
    subst a1
    exact ⟨C, T, rfl, gt_at_ok a2, gt_at_ok a3, gt_at_ok a4, a5⟩
theorem gt_okA (b0 mi : Nat) (E : Nat → Nat) : mx_okA (gt_P b0 mi E) gt_c gt_tbl gt_ao := by
  intro c i t h
  obtain ⟨⟨x, C, p⟩, h1, h2⟩ := Option.map_eq_some_iff.mp (show (gt_lu gt_a c i).map (fun e => e.1) = some t from h)
  dsimp only at h2
  subst h2
  have h3 := gt_lu_ok h1 gt_oka_all
  simp only [gt_oka, Bool.and_eq_true, decide_eq_true_eq] at h3
  exact ⟨C, h3.1.1, gt_at_ok h3.1.2, h3.2⟩
theorem gt_okT (b0 mi : Nat) (E : Nat → Nat) : mx_okT (gt_P b0 mi E) gt_c gt_cl gt_tbl := by
  intro c i cs h
  obtain ⟨⟨x, C, p⟩, h1, h2⟩ := Option.map_eq_some_iff.mp (show (gt_lu gt_q c i).map (fun e => [e.1]) = some cs from h)
  dsimp only at h2
  subst h2
  have h3 := gt_lu_ok h1 gt_okq_all
  unfold gt_okq at h3
  simp only [Bool.and_eq_true] at h3
  refine ⟨C, gt_at_ok h3.1, fun ci hci => ?_⟩
  rw [List.mem_singleton.mp hci]
  cases hr : gt_cl[x]? with
  | none => rw [hr] at h3; simp at h3
  | some r =>
    rw [hr] at h3
    obtain ⟨C', T, N⟩ := r
    have e : C' = C := by simpa using h3.2
    subst e
    exact ⟨T, N, rfl⟩
set_option maxRecDepth 100000 in
theorem gt_okY (b0 mi : Nat) (E : Nat → Nat) : mx_okY (gt_P b0 mi E) gt_tbl := by
  refine ⟨rfl, rfl, rfl, rfl, rfl, fun t h1 h2 => ?_, fun a h => ?_⟩
  · have h2 : t < 6 := h2
    have : t = 4 ∨ t = 5 := by omega
    rcases this with rfl | rfl
    · exact ⟨_, rfl⟩
    · exact ⟨_, rfl⟩
  · rcases h with rfl | rfl | rfl | rfl
    · exact gt_at_ok (p := 174) (by decide +kernel)
    · exact gt_at_ok (p := 246) (by decide +kernel)
    · exact gt_at_ok (p := 1053) (by decide +kernel)
    · exact gt_at_ok (p := 247) (by decide +kernel)
set_option maxRecDepth 100000 in
theorem gt_okG (b0 mi : Nat) (E : Nat → Nat) : mx_okG (gt_P b0 mi E) gt_cl gt_nst := by
  intro t c h
  have h : gt_tg t c = true := h
  simp only [gt_tg, Bool.or_eq_true, Bool.and_eq_true, mx_beq] at h
  rcases h with ⟨rfl, ((rfl | rfl) | rfl) | rfl⟩ | ⟨rfl, rfl⟩
  · exact ⟨_, _, rfl, rfl, Or.inl (gt_an_ok (p := 1487) (by decide +kernel))⟩
  · exact ⟨_, _, rfl, rfl, Or.inl (gt_an_ok (p := 1484) (by decide +kernel))⟩
  · exact ⟨_, _, rfl, rfl, Or.inl (gt_an_ok (p := 1486) (by decide +kernel))⟩
  · exact ⟨_, _, rfl, rfl, Or.inl (gt_an_ok (p := 1485) (by decide +kernel))⟩
  · exact ⟨_, _, rfl, rfl, Or.inr rfl⟩
theorem gt_okW : mx_okW gt_tbl gt_nst := by
  refine ⟨fun w hw => (List.mem_filter.mp hw).2, fun w hw => ?_⟩
  have h := (List.mem_filter.mp hw).2
  cases w <;> first | exact Or.inl ⟨_, _, _, _, rfl⟩ | exact Or.inr ⟨_, _, rfl⟩ | (simp [gt_nw] at h)
theorem gt_okM (b0 mi : Nat) (E : Nat → Nat) : mx_okM (gt_P b0 mi E) gt_c gt_cl gt_tbl gt_nst := by
  intro c i k na M' h
  obtain ⟨⟨⟨k', na', q⟩, ps, host⟩, h1, h2⟩ := Option.map_eq_some_iff.mp (show (gt_lu gt_m c i).map (fun e => (e.1.1, e.1.2.1, gt_ms.getD e.1.2.2 mL_law)) = some (k, na, M') from h)
  dsimp only at h2
  obtain ⟨rfl, rfl, rfl⟩ : k' = k ∧ na' = na ∧ gt_ms.getD q mL_law = M' := by
    have e1 := Prod.mk.inj h2
    have e2 := Prod.mk.inj e1.2
    exact ⟨e1.1, e2.1, e2.2⟩
  have h3 := gt_okm_all h1
  unfold gt_okm at h3
  dsimp only at h3
  refine ⟨fun e => ?_, fun e => ?_, fun e => ?_, fun e => ?_, fun e => ?_, fun e => ?_, fun e => ?_, fun n3 n20 => ?_, fun e => ?_, fun e => ?_, fun e => ?_, fun e => ?_⟩
  · subst e
    rw [if_pos rfl] at h3
    simp only [Bool.and_eq_true] at h3
    exact ⟨gt_at_ok h3.1.1, gt_at_ok h3.1.2, gt_at_ok h3.2⟩
  · subst e
    rw [if_neg (by decide), if_pos rfl] at h3
    simp only [Bool.and_eq_true] at h3
    exact ⟨gt_at_ok h3.1.1.1, gt_at_ok h3.1.1.2, gt_at_ok h3.1.2, gt_at_ok h3.2⟩
  · subst e
    rw [if_neg (by decide), if_neg (by decide), if_pos rfl] at h3
    simp only [Bool.and_eq_true] at h3
    exact ⟨gt_at_ok h3.1.1.1, gt_at_ok h3.1.1.2, gt_at_ok h3.1.2, gt_at_ok h3.2⟩
  · subst e
    rw [if_neg (by decide), if_neg (by decide), if_neg (by decide), if_pos rfl] at h3
    simp only [Bool.and_eq_true] at h3
    exact ⟨gt_at_ok h3.1.1.1, gt_at_ok h3.1.1.2, gt_at_ok h3.1.2, gt_at_ok h3.2⟩
  · subst e
    rw [if_neg (by decide), if_neg (by decide), if_neg (by decide), if_neg (by decide), if_pos rfl] at h3
    simp only [Bool.and_eq_true] at h3
    exact ⟨gt_at_ok h3.1.1.1, gt_at_ok h3.1.1.2, gt_at_ok h3.1.2, gt_at_ok h3.2⟩
  · subst e
    rw [if_neg (by decide), if_neg (by decide), if_neg (by decide), if_neg (by decide), if_neg (by decide), if_pos rfl] at h3
    simp only [Bool.and_eq_true] at h3
    exact ⟨gt_at_ok h3.1.1.1, gt_at_ok h3.1.1.2, gt_at_ok h3.1.2, gt_at_ok h3.2⟩
  · subst e
    rw [if_neg (by decide), if_neg (by decide), if_neg (by decide), if_neg (by decide), if_neg (by decide), if_neg (by decide), if_pos rfl] at h3
    simp only [Bool.and_eq_true] at h3
    exact ⟨gt_at_ok h3.1.1.1, gt_at_ok h3.1.1.2, gt_at_ok h3.1.2, gt_at_ok h3.2⟩
  · rw [if_neg n3, if_neg (by omega), if_neg (by omega), if_neg (by omega), if_neg (by omega), if_neg (by omega), if_neg (by omega), Bool.and_eq_true] at h3
    have h4 := h3.1
    simp only [gt_okm0, Bool.and_eq_true, decide_eq_true_eq] at h4
    obtain ⟨⟨⟨⟨⟨⟨a1, a2⟩, a3⟩, a4⟩, a5⟩, a6⟩, a7⟩ := h4
    refine ⟨a1, gt_code _ ?_, gt_at_ok a3, ⟨a4, a5⟩, a6, a7⟩
    rw [List.getD_eq_getElem?_getD, List.getElem?_eq_getElem a2]
    exact List.getElem_mem a2
  · subst e
    rw [if_neg (by decide), if_neg (by decide), if_neg (by decide), if_neg (by decide), if_neg (by decide), if_neg (by decide), if_neg (by decide), if_pos rfl] at h3
    simp only [Bool.and_eq_true] at h3
    exact ⟨gt_at_ok h3.2.1.1, gt_at_ok h3.2.1.2, gt_at_ok h3.2.2⟩
  · subst e
    rw [if_neg (by decide), if_neg (by decide), if_neg (by decide), if_neg (by decide), if_neg (by decide), if_neg (by decide), if_neg (by decide), if_neg (by decide), if_pos rfl] at h3
    simp only [Bool.and_eq_true, decide_eq_true_eq] at h3
    exact ⟨gt_at_ok h3.2.1.1.1, gt_at_ok h3.2.1.1.2, h3.2.1.2, h3.2.2⟩
  · subst e
    rw [if_neg (by decide), if_neg (by decide), if_neg (by decide), if_neg (by decide), if_neg (by decide), if_neg (by decide), if_neg (by decide), if_neg (by decide), if_neg (by decide), if_pos rfl] at h3
    simp only [Bool.and_eq_true, decide_eq_true_eq] at h3
    exact ⟨⟨host, gt_an_ok h3.2.1.1.1⟩, gt_at_ok h3.2.1.1.2, h3.2.1.2, h3.2.2⟩
  · subst e
    rw [if_neg (by decide), if_neg (by decide), if_neg (by decide), if_neg (by decide), if_neg (by decide), if_neg (by decide), if_neg (by decide), if_neg (by decide), if_neg (by decide), if_neg (by decide), if_pos rfl] at h3
    simp only [Bool.and_eq_true] at h3
    exact ⟨gt_at_ok h3.2.1, gt_at_ok h3.2.2⟩
/-- THE PROGRAM'S TABLES SAY WHAT THE CLAIM'S WORDS SAY -/
theorem gt_ok (b0 mi : Nat) (E : Nat → Nat) : mx_ok (gt_P b0 mi E) gt_c gt_cl gt_tbl gt_nst gt_ao := ⟨gt_okW, gt_okC, gt_okF b0 mi E, gt_okK b0 mi E, gt_okN b0 mi E, gt_okA b0 mi E, gt_okY b0 mi E, gt_okG b0 mi E, gt_okT b0 mi E, gt_okM b0 mi E⟩
