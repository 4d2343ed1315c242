/-! what a throw and a catch stand on -/
def gt_IO : String := "java/lang/IndexOutOfBoundsException"
def gt_IS : String := "java/lang/IllegalStateException"
def gt_xn (e : Nat) : String := if e = 1 then "java/lang/IndexOutOfBoundsException" else "java/lang/IllegalStateException"
def gt_nm : List String := ["java/lang/RuntimeException", "java/lang/Exception"]
def gt_xs : List (Nat × String) := [(216, "there is no such section"), (223, "the section has no place in an image"), (230, "there is no such symbol"), (235, "the symbol has no value in an image"), (259, "there is no such kind"), (261, "there is no image")]
def gt_xw : List Cond := [.declares ⟨"java/lang/RuntimeException", "<init>", "(Ljava/lang/String;)V"⟩, .declares ⟨"java/lang/Exception", "<init>", "(Ljava/lang/String;)V"⟩, .declares ⟨"java/lang/Throwable", "<init>", "(Ljava/lang/String;)V"⟩, .castable "java/lang/IndexOutOfBoundsException" "java/lang/IndexOutOfBoundsException", .castable "java/lang/IllegalStateException" "java/lang/IllegalStateException"]
def gt_Xu (P : mx_T) (U : State) : Prop := vx_Zq Bundle.tN "UNASSIGNED_STACK" Bundle.steD (mx_A P) U U.heap ∧ vx_Zq Bundle.tN "SUPPRESSED_SENTINEL" Bundle.listD (mx_A P) U U.heap ∧ (∀ q ∈ gt_xs, ∃ sa, vk_R "SectionGarden" q.1 q.2 sa U) ∧ va_Nc "java/lang/IllegalStateException" "java/lang/IndexOutOfBoundsException" U ∧ ∀ w ∈ gt_xw, va_Nw w U
theorem gt_xw_ot : ∀ w ∈ gt_xw, w.onTables = true := by decide
theorem gt_Xu.moved {P : mx_T} {s U : State} (h : gt_Xu P s) (hW : s.WarmedH U.vm) {locs : List Loc} (hS : va_S (mx_A P) s.heap U.heap locs) : gt_Xu P U := by
  obtain ⟨h1, h2, h3, h4, h5⟩ := h
  refine ⟨(vx_Zq.moved hW.alike h1).kept hS.2.1, (vx_Zq.moved hW.alike h2).kept hS.2.1, fun q hq => ?_, va_Nc.moved hW.alike h4, fun w hw => ?_⟩
  · obtain ⟨sa, h⟩ := h3 q hq
    exact ⟨sa, vk_R.warm hW h⟩
  · have h6 := h5 w hw
    simp only [gt_xw, List.mem_cons, List.not_mem_nil, or_false] at hw
    rcases hw with rfl | rfl | rfl | rfl | rfl
    · exact va_Nw.warmD hW h6
    · exact va_Nw.warmD hW h6
    · exact va_Nw.warmD hW h6
    · exact va_Nw.warmC hW h6
    · exact va_Nw.warmC hW h6
theorem gt_Xu.calling {P : mx_T} {U : State} (h : gt_Xu P U) (g : JFrame) (mk : MethodId) (a : Array Value) : gt_Xu P (U.calling g mk a) := by
  obtain ⟨h1, h2, h3, h4, h5⟩ := h
  refine ⟨vx_Zq.moved (u := U) (U := U.calling g mk a) (Vm.Alike.refl U.vm) h1, vx_Zq.moved (u := U) (U := U.calling g mk a) (Vm.Alike.refl U.vm) h2, fun q hq => ?_, va_Nc.moved (u := U) (U := U.calling g mk a) (Vm.Alike.refl U.vm) h4, fun w hw => va_Nw.same (u := U) (U := U.calling g mk a) (gt_xw_ot w hw) rfl (h5 w hw)⟩
  obtain ⟨sa, h⟩ := h3 q hq
  exact ⟨sa, vk_R.same (u := U) rfl h⟩
theorem mx_R.pv {P : mx_T} {cl : List vw_C} {D : va_G} {aC : Nat → ClassId} {H H1 : Heap} {G : mx_H} (h : mx_R P cl D aC H G) (z : H1.size = H.size + 1) (oq : ∀ q : Nat, q < H.size → H1[q]? = H[q]?) : mx_R P cl D aC H1 (mx_pv G) := by
  refine ⟨by rw [z, h.1]; rfl, fun b d hb => ?_⟩
  have hb' : G.1 b = some d := hb
  have hl := h.lt hb'
  exact ⟨fun q => ((h.2 b d hb').1 q).kept (oq b hl), fun q => ((h.2 b d hb').2 q).kept (oq b hl)⟩
theorem gt_in {ws : List Cond} (ps : List Nat) (h : (decide (ps.length = ws.length) && (ws.zip ps).all (fun e => decide (lw_tbl[e.2]? = some e.1))) = true) (hg : ws.all (fun w => goodWord w || decide (w ∈ gt_xw)) = true) : ∀ w ∈ ws, w ∈ gt_tbl ∨ w ∈ gt_xw := by
  intro w hw
  rw [Bool.and_eq_true, decide_eq_true_eq] at h
  have h1 := List.all_eq_true.mp hg w hw
  rw [Bool.or_eq_true, decide_eq_true_eq] at h1
  rcases h1 with h1 | h1
  · refine Or.inl (List.mem_filter.mpr ⟨?_, h1⟩)
    obtain ⟨i, hi, rfl⟩ := List.mem_iff_getElem.mp hw
    have h2 := List.all_eq_true.mp h.2 (ws[i], ps[i]'(by omega)) (List.mem_iff_getElem.mpr ⟨i, by simp; omega, by simp⟩)
    rw [decide_eq_true_eq] at h2
    exact List.mem_of_getElem? h2
  · exact Or.inr h1
def gt_ax (e : Nat) : List Cond := if e = 1 then vx_atS "SectionGarden" 218 "java/lang/IndexOutOfBoundsException" gt_nm else vx_atS "SectionGarden" 225 "java/lang/IllegalStateException" gt_nm
theorem gt_ax1 : ∀ w ∈ gt_ax 1, w ∈ gt_tbl ∨ w ∈ gt_xw := gt_in [88, 1009, 1018, 1021, 1024, 1026, 1010, 1011, 99, 100, 1012, 1017, 1022, 1042, 999, 1043, 1001, 1044, 1003, 1013, 1015, 1005, 1038, 1039, 1041, 1005, 1029, 1030, 1031, 1032, 991, 1032, 1033, 1034, 1035, 993, 1035, 1036, 1037, 1038, 995, 1028, 988, 989, 996, 997, 998, 1000, 1002, 1004, 1008, 1007, 1006] (by decide +kernel) (by decide +kernel)
theorem gt_ax2 : ∀ w ∈ gt_ax 2, w ∈ gt_tbl ∨ w ∈ gt_xw := gt_in [88, 1009, 1018, 1021, 1024, 1026, 1010, 1011, 99, 100, 1012, 1017, 1022, 1042, 999, 1043, 1001, 1044, 1003, 1013, 1015, 1005, 1038, 1039, 1041, 1005, 1065, 1066, 1067, 1032, 991, 1032, 1033, 1034, 1035, 993, 1035, 1036, 1037, 1038, 995, 1064, 1055, 1056, 1057, 1020, 1058, 1059, 1060, 1061, 1008, 1007, 1062] (by decide +kernel) (by decide +kernel)
def gt_tw : List Cond := [Cond.classLink "SectionGarden" 214 "java/lang/IndexOutOfBoundsException", .classLink "SectionGarden" 221 "java/lang/IllegalStateException", .initialized "java/lang/IndexOutOfBoundsException",.initialized "java/lang/IllegalStateException", .classLink "SectionGardenLaw" 13 "java/lang/IndexOutOfBoundsException", .classLink "SectionGardenLaw" 15 "java/lang/IllegalStateException", Cond.codeWith yL_place cL_place 4 (some .int) [(0,8,11,13),(0,8,14,15)], Cond.codeWith yL_value cL_value 4 (some .int) [(0,8,11,13),(0,8,14,15)], Cond.codeWith yL_range cL_range 5 (some .int) [(0,9,12,13),(0,9,16,15)], .static yL_place, .static yL_value, .static yL_range, .methodLink "SectionGardenLaw" 78 yL_place,.methodLink "SectionGardenLaw" 87 yL_value,.methodLink "SectionGardenLaw" 97 yL_range, .initialized "SectionGardenLaw"]
theorem gt_tw_in : ∀ w ∈ gt_tw, w ∈ gt_tbl := gt_us [987, 1054, 91, 92, 981, 982, 980, 1073, 1083, 979, 1072, 1082, 978, 1071, 1081, 65] (by decide +kernel)
theorem gt_ot1 : ∀ w ∈ Cond.classLink "SectionGarden" 214 "java/lang/IndexOutOfBoundsException" :: Cond.initialized "java/lang/IndexOutOfBoundsException" :: gt_ax 1, vx_ot w = true := List.all_eq_true.mp (by decide +kernel)
theorem gt_ot2 : ∀ w ∈ Cond.classLink "SectionGarden" 221 "java/lang/IllegalStateException" :: Cond.initialized "java/lang/IllegalStateException" :: gt_ax 2, vx_ot w = true := List.all_eq_true.mp (by decide +kernel)
theorem gt_hat {e : Nat} (he : e = 1 ∨ e = 2) {P : mx_T} {args : Array Value} {s : State} (hts : ∀ w ∈ gt_tbl, w.before args s = true) (hX : gt_Xu P s) : ∀ w ∈ gt_ax e, w.before args s = true := by
  intro w hw
  have h : w ∈ gt_tbl ∨ w ∈ gt_xw := by
    rcases he with rfl | rfl
    · exact gt_ax1 w hw
    · exact gt_ax2 w hw
  rcases h with h | h
  · exact hts w h
  · exact va_Nw.use (gt_xw_ot w h) (hX.2.2.2.2 w h)
/-- what is so after a throw -/
def gt_XC (P : mx_T) (D : va_G) (aC : Nat → ClassId) (e : Nat) (G : mx_H) : String → State → State → Prop := fun C st t => C = gt_xn e ∧ mx_R P gt_cl D aC t.heap (mx_pv G) ∧ va_F (mx_A P) st t
set_option maxHeartbeats 4000000 in
theorem gt_thr {P : mx_T} {D : va_G} {aC : Nat → ClassId} {p : Program} {l : Launch} {e : Env} {R : Room} {s : State} {m : MethodId} {args : Array Value} {below : List Frame} {meth : Method} {c : Code} {H : Heap} {locs : List Loc} {cells slots mc ms : Nat} {ls : Array Slot} {M : mx_M} {pc n ex : Nat} {st : List Value} {G G9 : mx_H} {i : Instr} {Qc : Array Value → State → Outcome → State → Prop}
    (hexec : p.tables.exec = Jvm.exec) (hb : c.code = mx_mb M) (hml : c.maxLocals = mx_ml M) (hl : l.stackTraces = false) (hown : s.vm.findClass "SectionGarden" = some m.cls) (hts : ∀ w ∈ gt_tbl, w.before args s = true) (hXu : gt_Xu P s) (hd : decode (mx_mb M) pc = .ok (i, n)) (hth : mx_th M pc st G n (fun a b => a = .inr (ex, 0) ∧ b = G9) i) (hout : ∀ x ∈ c.exceptionTable.toList, False) (hlocks : meth.locks = false) (hR : mx_R P gt_cl D aC H G) (hS : va_S (mx_A P) s.heap H locs) (hsz : ls.size = mx_ml M) (h5 : 5 < R.frames) (h82 : 82 ≤ R.locals) (hc1 : cells + 1 ≤ R.cells) (hs1 : slots + 6 ≤ R.slots) (hc : cells + 1 ≤ mc) (hs : slots + 6 ≤ ms) :
    W p l e R s m args below meth c H locs cells slots (vx_MQ below Qc (gt_XC P D aC ex G9) args s mc ms (mx_A P)) (F0 m pc ls st) := by
  cases i
  case new j =>
    obtain ⟨rfl, rfl, hm8, e9, tx, ic, hmem, d3, hdd, he, hG⟩ := hth
    cases he
    subst hG
    have hx : ∀ t : State, s.vm.Alike t.vm → t.heap.size = H.size + 1 → (∀ q : Nat, q < H.size → t.heap[q]? = H[q]?) → gt_XC P D aC ex G (gt_xn ex) s t := fun t _ z oq => ⟨rfl, hR.pv z oq, ⟨by rw [z]; exact Nat.le_succ_of_le hS.1, fun q h1 h2 => (oq q (Nat.lt_of_lt_of_le h1 hS.1)).trans (hS.2.1 q h1 h2)⟩⟩
    obtain ⟨hU, hN, hstr, -, -⟩ := id hXu
    have hsz' : ls.size = c.maxLocals := hsz.trans hml.symm
    have ho : ∀ k : Nat, ∀ x ∈ c.exceptionTable.toList, covers x (pc + k) = false := fun k x h => (hout x h).elim
    have hR1 : (([] : List Value).map fun v => v.category).sum + (13 * (gt_nm.length + 1) + 43) ≤ R.locals := h82
    simp only [mx_xt, List.mem_cons, Prod.mk.injEq, List.not_mem_nil, or_false] at hmem
    rcases hmem with ⟨rfl, rfl, rfl, rfl⟩ | ⟨rfl, rfl, rfl, rfl⟩ | ⟨rfl, rfl, rfl, rfl⟩ | ⟨rfl, rfl, rfl, rfl⟩ | ⟨rfl, rfl, rfl, rfl⟩ | ⟨rfl, rfl, rfl, rfl⟩
    · obtain ⟨sa, hsa⟩ := hstr (216, _) (by simp [gt_xs]; rfl)
      rcases hdd with ⟨d4, d6, d9⟩ | ⟨d4, d7, d10⟩
      · exact vx_throwS hexec hb hl (own := "SectionGarden") (cls := "java/lang/IndexOutOfBoundsException") (names := gt_nm) (A := mx_A P) hown (by decide +kernel) (by decide +kernel) (hts _ (gt_tw_in (.classLink "SectionGarden" 214 "java/lang/IndexOutOfBoundsException") (by decide))) (hts _ (gt_tw_in (.initialized "java/lang/IndexOutOfBoundsException") (by decide))) hsa (gt_hat (e := 1) (by decide) hts hXu) gt_ot1 hU hN hS hsz' hd d3 d4 d6 d9 (ho 9) h5 hR1 hc1 hs1 hlocks hx hS.2.2 hc hs
      · exact vx_throwSW hexec hb hl (own := "SectionGarden") (cls := "java/lang/IndexOutOfBoundsException") (names := gt_nm) (A := mx_A P) hown (by decide +kernel) (by decide +kernel) (hts _ (gt_tw_in (.classLink "SectionGarden" 214 "java/lang/IndexOutOfBoundsException") (by decide))) (hts _ (gt_tw_in (.initialized "java/lang/IndexOutOfBoundsException") (by decide))) hsa (gt_hat (e := 1) (by decide) hts hXu) gt_ot1 hU hN hS hsz' hd d3 d4 d7 d10 (ho 10) h5 hR1 hc1 hs1 hlocks hx hS.2.2 hc hs
    · obtain ⟨sa, hsa⟩ := hstr (223, _) (by simp [gt_xs]; rfl)
      rcases hdd with ⟨d4, d6, d9⟩ | ⟨d4, d7, d10⟩
      · exact vx_throwS hexec hb hl (own := "SectionGarden") (cls := "java/lang/IllegalStateException") (names := gt_nm) (A := mx_A P) hown (by decide +kernel) (by decide +kernel) (hts _ (gt_tw_in (.classLink "SectionGarden" 221 "java/lang/IllegalStateException") (by decide))) (hts _ (gt_tw_in (.initialized "java/lang/IllegalStateException") (by decide))) hsa (gt_hat (e := 2) (by decide) hts hXu) gt_ot2 hU hN hS hsz' hd d3 d4 d6 d9 (ho 9) h5 hR1 hc1 hs1 hlocks hx hS.2.2 hc hs
      · exact vx_throwSW hexec hb hl (own := "SectionGarden") (cls := "java/lang/IllegalStateException") (names := gt_nm) (A := mx_A P) hown (by decide +kernel) (by decide +kernel) (hts _ (gt_tw_in (.classLink "SectionGarden" 221 "java/lang/IllegalStateException") (by decide))) (hts _ (gt_tw_in (.initialized "java/lang/IllegalStateException") (by decide))) hsa (gt_hat (e := 2) (by decide) hts hXu) gt_ot2 hU hN hS hsz' hd d3 d4 d7 d10 (ho 10) h5 hR1 hc1 hs1 hlocks hx hS.2.2 hc hs
    · obtain ⟨sa, hsa⟩ := hstr (230, _) (by simp [gt_xs]; rfl)
      rcases hdd with ⟨d4, d6, d9⟩ | ⟨d4, d7, d10⟩
      · exact vx_throwS hexec hb hl (own := "SectionGarden") (cls := "java/lang/IndexOutOfBoundsException") (names := gt_nm) (A := mx_A P) hown (by decide +kernel) (by decide +kernel) (hts _ (gt_tw_in (.classLink "SectionGarden" 214 "java/lang/IndexOutOfBoundsException") (by decide))) (hts _ (gt_tw_in (.initialized "java/lang/IndexOutOfBoundsException") (by decide))) hsa (gt_hat (e := 1) (by decide) hts hXu) gt_ot1 hU hN hS hsz' hd d3 d4 d6 d9 (ho 9) h5 hR1 hc1 hs1 hlocks hx hS.2.2 hc hs
      · exact vx_throwSW hexec hb hl (own := "SectionGarden") (cls := "java/lang/IndexOutOfBoundsException") (names := gt_nm) (A := mx_A P) hown (by decide +kernel) (by decide +kernel) (hts _ (gt_tw_in (.classLink "SectionGarden" 214 "java/lang/IndexOutOfBoundsException") (by decide))) (hts _ (gt_tw_in (.initialized "java/lang/IndexOutOfBoundsException") (by decide))) hsa (gt_hat (e := 1) (by decide) hts hXu) gt_ot1 hU hN hS hsz' hd d3 d4 d7 d10 (ho 10) h5 hR1 hc1 hs1 hlocks hx hS.2.2 hc hs
    · obtain ⟨sa, hsa⟩ := hstr (235, _) (by simp [gt_xs]; rfl)
      rcases hdd with ⟨d4, d6, d9⟩ | ⟨d4, d7, d10⟩
      · exact vx_throwS hexec hb hl (own := "SectionGarden") (cls := "java/lang/IllegalStateException") (names := gt_nm) (A := mx_A P) hown (by decide +kernel) (by decide +kernel) (hts _ (gt_tw_in (.classLink "SectionGarden" 221 "java/lang/IllegalStateException") (by decide))) (hts _ (gt_tw_in (.initialized "java/lang/IllegalStateException") (by decide))) hsa (gt_hat (e := 2) (by decide) hts hXu) gt_ot2 hU hN hS hsz' hd d3 d4 d6 d9 (ho 9) h5 hR1 hc1 hs1 hlocks hx hS.2.2 hc hs
      · exact vx_throwSW hexec hb hl (own := "SectionGarden") (cls := "java/lang/IllegalStateException") (names := gt_nm) (A := mx_A P) hown (by decide +kernel) (by decide +kernel) (hts _ (gt_tw_in (.classLink "SectionGarden" 221 "java/lang/IllegalStateException") (by decide))) (hts _ (gt_tw_in (.initialized "java/lang/IllegalStateException") (by decide))) hsa (gt_hat (e := 2) (by decide) hts hXu) gt_ot2 hU hN hS hsz' hd d3 d4 d7 d10 (ho 10) h5 hR1 hc1 hs1 hlocks hx hS.2.2 hc hs
    · obtain ⟨sa, hsa⟩ := hstr (259, _) (by simp [gt_xs]; rfl)
      rcases hdd with ⟨d4, d6, d9⟩ | ⟨d4, d7, d10⟩
      · exact vx_throwS hexec hb hl (own := "SectionGarden") (cls := "java/lang/IndexOutOfBoundsException") (names := gt_nm) (A := mx_A P) hown (by decide +kernel) (by decide +kernel) (hts _ (gt_tw_in (.classLink "SectionGarden" 214 "java/lang/IndexOutOfBoundsException") (by decide))) (hts _ (gt_tw_in (.initialized "java/lang/IndexOutOfBoundsException") (by decide))) hsa (gt_hat (e := 1) (by decide) hts hXu) gt_ot1 hU hN hS hsz' hd d3 d4 d6 d9 (ho 9) h5 hR1 hc1 hs1 hlocks hx hS.2.2 hc hs
      · exact vx_throwSW hexec hb hl (own := "SectionGarden") (cls := "java/lang/IndexOutOfBoundsException") (names := gt_nm) (A := mx_A P) hown (by decide +kernel) (by decide +kernel) (hts _ (gt_tw_in (.classLink "SectionGarden" 214 "java/lang/IndexOutOfBoundsException") (by decide))) (hts _ (gt_tw_in (.initialized "java/lang/IndexOutOfBoundsException") (by decide))) hsa (gt_hat (e := 1) (by decide) hts hXu) gt_ot1 hU hN hS hsz' hd d3 d4 d7 d10 (ho 10) h5 hR1 hc1 hs1 hlocks hx hS.2.2 hc hs
    · obtain ⟨sa, hsa⟩ := hstr (261, _) (by simp [gt_xs]; rfl)
      rcases hdd with ⟨d4, d6, d9⟩ | ⟨d4, d7, d10⟩
      · exact vx_throwS hexec hb hl (own := "SectionGarden") (cls := "java/lang/IllegalStateException") (names := gt_nm) (A := mx_A P) hown (by decide +kernel) (by decide +kernel) (hts _ (gt_tw_in (.classLink "SectionGarden" 221 "java/lang/IllegalStateException") (by decide))) (hts _ (gt_tw_in (.initialized "java/lang/IllegalStateException") (by decide))) hsa (gt_hat (e := 2) (by decide) hts hXu) gt_ot2 hU hN hS hsz' hd d3 d4 d6 d9 (ho 9) h5 hR1 hc1 hs1 hlocks hx hS.2.2 hc hs
      · exact vx_throwSW hexec hb hl (own := "SectionGarden") (cls := "java/lang/IllegalStateException") (names := gt_nm) (A := mx_A P) hown (by decide +kernel) (by decide +kernel) (hts _ (gt_tw_in (.classLink "SectionGarden" 221 "java/lang/IllegalStateException") (by decide))) (hts _ (gt_tw_in (.initialized "java/lang/IllegalStateException") (by decide))) hsa (gt_hat (e := 2) (by decide) hts hXu) gt_ot2 hU hN hS hsz' hd d3 d4 d7 d10 (ho 10) h5 hR1 hc1 hs1 hlocks hx hS.2.2 hc hs
  all_goals exact False.elim hth
