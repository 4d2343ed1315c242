section
variable {p : Program} {l : Launch} {e : Env} {R : Room} {s : State} {m : MethodId} {args : Array Value} {below : List Frame} {meth : Method} {c : Code} {H : Heap} {locs : List Loc} {cells slots : Nat} {Q : State → Prop} {pc : Nat} {ls : Array Slot} {rest : List Value} {D : va_G} {cl : List vw_C} {a : Nat} {tys : List (ClassId × FieldType)}
/-- System.arraycopy of references: the cell anew, all others as they were -/
theorem mx_copy {cc : ByteArray} (hexec : p.tables.exec = Jvm.exec) (hb : c.code = cc) (hml : c.maxLocals = ls.size) {own : String} {index : Nat} (hown : s.vm.findClass own = some m.cls) (hlink : (Cond.methodLink own index arraycopyName).before args s = true) (hnat : (Cond.native arraycopyName).before args s = true) (hstat : (Cond.static arraycopyName).before args s = true) (hini : (Cond.initialized "java/lang/System").before args s = true)
    (hK : va_K D cl tys s) {t0 a0 : Nat} {c0 : ClassId} {n0 n1 : Nat} {f g : Nat → Option Nat} {E0 : String} (ht : tys[t0]? = some (c0, .object E0)) (ha0 : H[a0]? = some (vp_cell c0 (n0, mx_aq f))) (ha1 : H[a]? = some (vp_cell c0 (n1, mx_aq g)))
    {sp dp n : Int32} (h1 : ¬ sp < 0) (h2 : ¬ dp < 0) (h3 : ¬ n < 0) (h4 : sp.toNatClampNeg + n.toNatClampNeg ≤ n0) (h5 : dp.toNatClampNeg + n.toNatClampNeg ≤ n1) (hel : ∀ i : Nat, i < n.toNatClampNeg → ∀ y : Nat, f (sp.toNatClampNeg + i) = some y → va_Any E0 s H y)
    (hframes : 1 ≤ R.frames) (hlocals : (rest.map fun v => v.category).sum + (nativeFrameWords "java/lang/System" "arraycopy" 5 + 11) ≤ R.locals) (hdg : decode cc pc = .ok (.invokestatic index, 3))
    (kk : ∀ (H1 : Heap) (locs1 : List Loc), H1.size = H.size → (∀ q : Nat, q ≠ a → H1[q]? = H[q]?) → H1[a]? = some (vp_cell c0 (n1, mx_aq (va_cpy f g sp.toNatClampNeg dp.toNatClampNeg n.toNatClampNeg))) → (∀ q ∈ locs1, q ∈ locs ∨ q.base = a) → W p l e R s m args below meth c H1 locs1 cells slots Q (F0 m (pc + 3) ls rest)) : W p l e R s m args below meth c H locs cells slots Q (F0 m pc ls (.int n :: .int dp :: .ref a :: .int sp :: .ref a0 :: rest)) := by
  have nn : ∀ z : Int32, ¬ z < 0 → z.toInt = (z.toNatClampNeg : Int) := by
    intro z hz
    have hz0 : (0 : Int) ≤ z.toInt := by
      have := Int32.not_lt.mp hz
      simpa using Int32.le_iff_toInt_le.mp this
    show z.toInt = ((z.toInt.toNat : Nat) : Int)
    omega
  intro T hT X
  have hc0 : H[a0]? = some (vp_cell c0 (n0, .inr (.inr (.inr (.inr f))))) := ha0
  have hc1 : H[a]? = some (vp_cell c0 (n1, .inr (.inr (.inr (.inr g))))) := ha1
  obtain ⟨-, k1, hk1, cm1, hkk1⟩ := (hK.2 t0 _ ht).1 n1 (fun j => va_rf (g j))
  obtain ⟨vm', X', step⟩ := X.arraycopy hexec hown hlink hnat hstat hini (src := a0) (dst := a) (cs := vp_cell c0 (n0, .inr (.inr (.inr (.inr f))))) (cd := vp_cell c0 (n1, .inr (.inr (.inr (.inr g))))) (srcPos := sp) (destPos := dp) (n := n) (by rw [hT]; exact hc0) (by rw [hT]; exact hc1)
    (fun _ h => by cases h) (fun _ h => by cases h) (fun h => by cases h) (fun h => by cases h) hk1 hk1 hkk1 hkk1 rfl h1 h2 h3
    (by rw [nn sp h1, nn n h3]; show ¬ _ > ((arrV c0 n0 (fun j => va_rf (f j))).slots.size : Int); rw [arrV_size]; omega)
    (by rw [nn dp h2, nn n h3]; show ¬ _ > ((arrV c0 n1 (fun j => va_rf (g j))).slots.size : Int); rw [arrV_size]; omega)
    (fun vm₁ hal i hi => by
      have e : (vp_cell c0 (n0, .inr (.inr (.inr (.inr f))))).slots.getD (sp.toNatClampNeg + i) .null = va_rf (f (sp.toNatClampNeg + i)) := by
        show (arrV c0 n0 (fun j => va_rf (f j))).slots.getD _ _ = _
        rw [Array.getD_eq_getD_getElem?, arrV_read _ _ (by omega)]
        rfl
      rw [e]
      cases hy : f (sp.toNatClampNeg + i) with
      | none => exact ⟨rfl, trivial⟩
      | some y =>
        obtain ⟨cellV, g1, g2, ⟨kC, hkC⟩, hasg⟩ := hel i hi y hy
        obtain ⟨kA, comp, r1, r2, r3, -⟩ := (hK.2 t0 _ ht).2
        cases hk1.symm.trans r1
        cases hkk1.symm.trans r2
        obtain ⟨kE, hkE, -⟩ := Vm.findClass_spec r3
        obtain ⟨kC', hkC', -⟩ := hal.2.2 _ _ hkC
        obtain ⟨kE', hkE', -⟩ := hal.2.2 _ _ hkE
        refine ⟨rfl, cellV, (show T.heap[y]? = some cellV by rw [hT]; exact g1), (fun q h => by rw [h] at g2; cases g2), ⟨kC', hkC'⟩, ?_, ?_⟩
        · exact ⟨kE', hkE'⟩
        · show vm₁.assignable _ _ = true
          rw [hal.assignable]
          exact hasg _ r3)
    (g := F0 m pc ls (.int n :: .int dp :: .ref a :: .int sp :: .ref a0 :: rest)) rfl (by rw [hml]) (rest := rest) rfl (by rw [hb]; exact hdg) hframes (by show 2 * 0 + _ + _ ≤ _; omega)
  have e1 : copied (vp_cell c0 (n0, .inr (.inr (.inr (.inr f))))) (vp_cell c0 (n1, .inr (.inr (.inr (.inr g))))) sp dp n = vp_cell c0 (n1, .inr (.inr (.inr (.inr (va_cpy f g sp.toNatClampNeg dp.toNatClampNeg n.toNatClampNeg))))) := by
    rw [vp_cell_q, vp_cell_q, vp_cell_q]
    exact va_copied (fun z => va_rf z) c0 c0 f g h4
  rw [e1] at X' step
  have hl : a < H.size := (Array.getElem?_eq_some_iff.mp hc1).1
  have hheap : ((T.setVm vm').setCell a (vp_cell c0 (n1, .inr (.inr (.inr (.inr (va_cpy f g sp.toNatClampNeg dp.toNatClampNeg n.toNatClampNeg))))))).heap = H.setIfInBounds a (vp_cell c0 (n1, .inr (.inr (.inr (.inr (va_cpy f g sp.toNatClampNeg dp.toNatClampNeg n.toNatClampNeg)))))) := by rw [← hT]; rfl
  obtain ⟨t, a1, b1⟩ := kk _ _ (by simp) (fun q hq => by simp [Array.getElem?_setIfInBounds, Ne.symm hq]) (show (H.setIfInBounds a _)[a]? = some _ by simp [Array.getElem?_setIfInBounds, hl]; rfl) (fun q hq => by
      rcases List.mem_append.mp hq with h | h
      · exact Or.inl h
      · obtain ⟨z, -, hz⟩ := List.mem_map.mp h
        rw [← hz]
        exact Or.inr rfl) _ hheap X'
  exact ⟨t, step t a1, b1⟩
end
abbrev mx_al (f : Nat → Int64) : (Nat → Int32) ⊕ (Nat → Int64) ⊕ (Nat → UInt32) ⊕ (Nat → UInt64) ⊕ (Nat → Option Nat) := .inr (.inl f)
set_option maxHeartbeats 8000000 in
set_option maxRecDepth 100000 in
/-- instructions that are neither calls nor ends -/
theorem mx_sn {P : mx_T} {cn : Nat → String} {cl : List vw_C} {D : va_G} {aC : Nat → ClassId} {tbl nst : List Cond} {ao : List String} (hok : mx_ok P cn cl tbl nst ao) {l : Launch} {k : Nat} {M : mx_M} {pc : Nat} {L : mx_L} {st : List Value} {G : mx_H} {o : mx_O} {G' : mx_H} {i : Instr} {n : Nat} (hd : decode (mx_mb M) pc = .ok (i, n)) (h : mx_nx P M pc L st G n (fun pc' L' st' G1 => mx_wp P k M pc' L' st' G1 (fun a b => a = o ∧ b = G')) i)
    {p : Program} {e : Env} {R : Room} {s : State} {m : MethodId} {args : Array Value} {below : List Frame} {meth : Method} {c : Code} {H : Heap} {locs : List Loc} {cells slots : Nat} {Qf : State → Prop} {ls : Array Slot} {z0 u0 : Nat}
    (X : mx_X P cn cl D aC tbl nst ao M p s m args meth c) (hfr : mx_mf M ≤ R.frames) (hlo : mx_mw M ≤ R.locals) (hR : mx_R P cl D aC H G) (hS : va_S (mx_A P) s.heap H locs) (hL : mx_RL (mx_mg M) (mx_ml M) ls L) (hc : cells + z0 = G.2.1) (hs : slots + u0 = G.2.2) (hG1 : G'.2.1 ≤ z0 + R.cells) (hG2 : G'.2.2 ≤ u0 + R.slots)
    (go : ∀ {pc' : Nat} {L' : mx_L} {st' : List Value} {G1 : mx_H} {H1 : Heap} {locs1 : List Loc} {cells1 slots1 : Nat} {ls1 : Array Slot}, mx_wp P k M pc' L' st' G1 (fun a b => a = o ∧ b = G') → mx_R P cl D aC H1 G1 → va_S (mx_A P) s.heap H1 locs1 → mx_RL (mx_mg M) (mx_ml M) ls1 L' → cells1 + z0 = G1.2.1 → slots1 + u0 = G1.2.2 → W p l e R s m args below meth c H1 locs1 cells1 slots1 Qf (F0 m pc' ls1 st')) :
    W p l e R s m args below meth c H locs cells slots Qf (F0 m pc ls st) := by
  obtain ⟨hx, hb, hml, hown, hts, ⟨hK, hN, hAO, hZ, h0, hScr, ⟨C98, hTyp⟩, hMi, hDc, hEn, hEo⟩, hnm⟩ := X
  obtain ⟨okW, okC, okF, okK, okN, okA, okY, okG, okT, okM⟩ := hok
  obtain ⟨y0, y1, y2, y3, yO, y4, y5⟩ := okY
  have h0H : mx_t0 P ≤ H.size := Nat.le_trans h0 hS.1
  cases i
  case aconst_null =>
    obtain ⟨rfl, h⟩ := h
    exact lv_null hx hb hd (go h hR hS hL hc hs)
  case iconst k9 =>
    obtain ⟨rfl, h⟩ := h
    exact lv_iconst hx hb hd rfl (go h hR hS hL hc hs)
  case lconst k9 =>
    obtain ⟨rfl, h⟩ := h
    exact lv_lconst hx hb hd rfl (go h hR hS hL hc hs)
  case bipush k9 =>
    obtain ⟨rfl, h⟩ := h
    exact lv_bipush hx hb hd rfl (go h hR hS hL hc hs)
  case sipush k9 =>
    obtain ⟨rfl, h⟩ := h
    exact lv_sipush hx hb hd rfl (go h hR hS hL hc hs)
  case ldc k9 =>
    obtain ⟨rfl, x, h1, h2, h⟩ := h
    rcases h2 with ⟨y, rfl⟩ | rfl
    · exact lv_ldc hx hb hown (hts _ (okK.1 _ _ _ h1)) hd (go h hR hS hL hc hs)
    · exact va_ldcM hx hb hown (hts _ (okK.2.2 _ _ _ h1)) hMi hd (go h hR hS hL hc hs)
  case ldc_w k9 =>
    obtain ⟨rfl, x, h1, h⟩ := h
    exact lv_ldcw hx hb hown (hts _ (okK.1 _ _ _ h1)) hd (go h hR hS hL hc hs)
  case ldc2_w k9 =>
    obtain ⟨rfl, x, h1, h⟩ := h
    exact lv_ldc2 hx hb hown (hts _ (okK.2.1 _ _ _ h1)) hd (go h hR hS hL hc hs)
  case iload_n k9 =>
    obtain ⟨rfl, x, h1, h⟩ := h
    exact lv_iload_n hx hb hd rfl (hL.2.2 _ _ h1).1 (go h hR hS hL hc hs)
  case lload_n k9 =>
    obtain ⟨rfl, x, h1, h⟩ := h
    exact lv_lload_n hx hb hd rfl (hL.2.2 _ _ h1).1 (go h hR hS hL hc hs)
  case iload k9 =>
    obtain ⟨rfl, x, h1, h⟩ := h
    exact lv_iload hx hb hd (hL.2.2 _ _ h1).1 (go h hR hS hL hc hs)
  case lload k9 =>
    obtain ⟨rfl, x, h1, h⟩ := h
    exact lv_lload hx hb hd (hL.2.2 _ _ h1).1 (go h hR hS hL hc hs)
  case aload_n k9 =>
    obtain ⟨rfl, x, h1, h2, h⟩ := h
    rcases h2 with rfl | ⟨a, rfl⟩
    · exact lv_aload_nN hx hb hd rfl (hL.2.2 _ _ h1).1 (go h hR hS hL hc hs)
    · exact lv_aload_n hx hb hd rfl (hL.2.2 _ _ h1).1 (go h hR hS hL hc hs)
  case aload k9 =>
    obtain ⟨rfl, x, h1, h2, h⟩ := h
    rcases h2 with rfl | ⟨a, rfl⟩
    · exact lv_aloadN hx hb hd (hL.2.2 _ _ h1).1 (go h hR hS hL hc hs)
    · exact lv_aload hx hb hd (hL.2.2 _ _ h1).1 (go h hR hS hL hc hs)
  case istore_n k9 =>
    obtain ⟨rfl, x, r, rfl, h2, h⟩ := h
    exact lv_istore_n hx hb hd rfl (mx_lv_has hL) h2 rfl (fun ls' h' => go h hR hS (mx_RL1 hL h2 rfl h') hc hs)
  case istore k9 =>
    obtain ⟨rfl, x, r, rfl, h2, h⟩ := h
    exact lv_istore hx hb hd (mx_lv_has hL) h2 rfl (fun ls' h' => go h hR hS (mx_RL1 hL h2 rfl h') hc hs)
  case lstore_n k9 =>
    obtain ⟨rfl, x, r, rfl, h2, h3, h⟩ := h
    exact lv_lstore_n hx hb hd rfl (mx_lv_has hL) h2 rfl (fun ls' h' => go h hR hS (mx_RL2 hL h2 h3 h') hc hs)
  case lstore k9 =>
    obtain ⟨rfl, x, r, rfl, h2, h3, h⟩ := h
    exact lv_lstore hx hb hd (mx_lv_has hL) h2 rfl (fun ls' h' => go h hR hS (mx_RL2 hL h2 h3 h') hc hs)
  case astore_n k9 =>
    obtain ⟨rfl, x, r, rfl, h1, h2, h⟩ := h
    rcases h1 with rfl | ⟨a, rfl⟩
    · exact lv_astore_nN hx hb hd rfl (mx_lv_has hL) h2 rfl (fun ls' h' => go h hR hS (mx_RL1 hL h2 rfl h') hc hs)
    · exact lv_astore_n hx hb hd rfl (mx_lv_has hL) h2 rfl (fun ls' h' => go h hR hS (mx_RL1 hL h2 rfl h') hc hs)
  case astore k9 =>
    obtain ⟨rfl, x, r, rfl, h1, h2, h⟩ := h
    rcases h1 with rfl | ⟨a, rfl⟩
    · exact lv_astoreN hx hb hd (mx_lv_has hL) h2 rfl (fun ls' h' => go h hR hS (mx_RL1 hL h2 rfl h') hc hs)
    · exact lv_astore hx hb hd (mx_lv_has hL) h2 rfl (fun ls' h' => go h hR hS (mx_RL1 hL h2 rfl h') hc hs)
  case iinc k9 c9 =>
    obtain ⟨rfl, x, h1, h2, h⟩ := h
    obtain ⟨q9, hq9⟩ := List.getElem?_of_mem (mx_lv_mem.mpr ⟨h2, h1⟩)
    exact lv_iinc hx hb hd (mx_lv_has hL) hq9 rfl h2 rfl (fun ls' h' => go h hR hS (mx_RL1 hL h2 rfl h') hc hs)
  case iadd =>
    obtain ⟨rfl, x, y, r, rfl, h⟩ := h
    exact lv_iadd hx hb hd (go h hR hS hL hc hs)
  case isub =>
    obtain ⟨rfl, x, y, r, rfl, h⟩ := h
    exact lv_isub hx hb hd (go h hR hS hL hc hs)
  case imul =>
    obtain ⟨rfl, x, y, r, rfl, h⟩ := h
    exact lv_imul hx hb hd (go h hR hS hL hc hs)
  case iand =>
    obtain ⟨rfl, x, y, r, rfl, h⟩ := h
    exact lv_iand hx hb hd (go h hR hS hL hc hs)
  case ixor =>
    obtain ⟨rfl, x, y, r, rfl, h⟩ := h
    exact lv_ixor hx hb hd (go h hR hS hL hc hs)
  case ishr =>
    obtain ⟨rfl, x, y, r, rfl, h⟩ := h
    exact lv_ishr hx hb hd (go h hR hS hL hc hs)
  case ladd =>
    obtain ⟨rfl, x, y, r, rfl, h⟩ := h
    exact lv_ladd hx hb hd (go h hR hS hL hc hs)
  case lsub =>
    obtain ⟨rfl, x, y, r, rfl, h⟩ := h
    exact lv_lsub hx hb hd (go h hR hS hL hc hs)
  case lmul =>
    obtain ⟨rfl, x, y, r, rfl, h⟩ := h
    exact lv_lmul hx hb hd (go h hR hS hL hc hs)
  case land =>
    obtain ⟨rfl, x, y, r, rfl, h⟩ := h
    exact lv_land hx hb hd (go h hR hS hL hc hs)
  case lor =>
    obtain ⟨rfl, x, y, r, rfl, h⟩ := h
    exact lv_lor hx hb hd (go h hR hS hL hc hs)
  case lxor =>
    obtain ⟨rfl, x, y, r, rfl, h⟩ := h
    exact lv_lxor hx hb hd (go h hR hS hL hc hs)
  case ldiv =>
    obtain ⟨rfl, x, y, r, rfl, h1, h⟩ := h
    exact lv_ldiv hx hb hd h1 (go h hR hS hL hc hs)
  case lrem =>
    obtain ⟨rfl, x, y, r, rfl, h1, h⟩ := h
    exact lv_lrem hx hb hd h1 (go h hR hS hL hc hs)
  case lshl =>
    obtain ⟨rfl, x, y, r, rfl, h⟩ := h
    exact lv_lshl hx hb hd rfl (go h hR hS hL hc hs)
  case lshr =>
    obtain ⟨rfl, x, y, r, rfl, h⟩ := h
    exact lv_lshr hx hb hd rfl (go h hR hS hL hc hs)
  case i2l =>
    obtain ⟨rfl, x, r, rfl, h⟩ := h
    exact lv_i2l hx hb hd rfl (go h hR hS hL hc hs)
  case l2i =>
    obtain ⟨rfl, x, r, rfl, h⟩ := h
    exact lv_l2i hx hb hd rfl (go h hR hS hL hc hs)
  case i2b =>
    obtain ⟨rfl, x, r, rfl, h⟩ := h
    exact lv_i2b hx hb hd rfl (go h hR hS hL hc hs)
  case lcmp =>
    obtain ⟨rfl, x, y, r, rfl, h⟩ := h
    exact W.lcmp hx hb hd (go h hR hS hL hc hs)
  case dup =>
    obtain ⟨rfl, x, r, rfl, h1, h⟩ := h
    exact lv_dup hx hb hd h1 (go h hR hS hL hc hs)
  case dup_x1 =>
    obtain ⟨rfl, x, y, r, rfl, h1, h2, h⟩ := h
    exact lv_dup_x1 hx hb hd h1 h2 (go h hR hS hL hc hs)
  case pop =>
    obtain ⟨rfl, x, r, rfl, h1, h⟩ := h
    exact lv_pop hx hb hd h1 (go h hR hS hL hc hs)
  case ifCond k9 off =>
    obtain ⟨rfl, x, r, t, rfl, h2, ht, hf⟩ := h
    cases k9
    · exact lv_if_eq hx hb hd h2 (fun q => go (ht q) hR hS hL hc hs) (fun q => go (hf q) hR hS hL hc hs)
    · exact lv_if_ne hx hb hd h2 (fun q => go (ht q) hR hS hL hc hs) (fun q => go (hf (fun z => z q)) hR hS hL hc hs)
    · exact lv_if_lt hx hb hd h2 (fun q => go (ht q) hR hS hL hc hs) (fun q => go (hf q) hR hS hL hc hs)
    · exact lv_if_ge hx hb hd h2 (fun q => go (ht q) hR hS hL hc hs) (fun q => go (hf q) hR hS hL hc hs)
    · exact lv_if_gt hx hb hd h2 (fun q => go (ht q) hR hS hL hc hs) (fun q => go (hf q) hR hS hL hc hs)
    · exact lv_if_le hx hb hd h2 (fun q => go (ht q) hR hS hL hc hs) (fun q => go (hf q) hR hS hL hc hs)
  case if_icmp k9 off =>
    obtain ⟨rfl, x, y, r, t, rfl, h2, ht, hf⟩ := h
    cases k9
    · exact lv_icmp_eq hx hb hd h2 (fun q => go (ht q) hR hS hL hc hs) (fun q => go (hf q) hR hS hL hc hs)
    · exact lv_icmp_ne hx hb hd h2 (fun q => go (ht q) hR hS hL hc hs) (fun q => go (hf (fun z => z q)) hR hS hL hc hs)
    · exact lv_icmp_lt hx hb hd h2 (fun q => go (ht q) hR hS hL hc hs) (fun q => go (hf q) hR hS hL hc hs)
    · exact lv_icmp_ge hx hb hd h2 (fun q => go (ht q) hR hS hL hc hs) (fun q => go (hf q) hR hS hL hc hs)
    · exact lv_icmp_gt hx hb hd h2 (fun q => go (ht q) hR hS hL hc hs) (fun q => go (hf q) hR hS hL hc hs)
    · exact lv_icmp_le hx hb hd h2 (fun q => go (ht q) hR hS hL hc hs) (fun q => go (hf q) hR hS hL hc hs)
  case if_acmp k9 off =>
    cases k9
    · obtain ⟨rfl, x, y, r, t, rfl, h2, ht, hf⟩ := h
      exact lv_acmp_eq hx hb hd h2 (fun q => go (ht q) hR hS hL hc hs) (fun q => go (hf q) hR hS hL hc hs)
    · obtain ⟨rfl, x, y, r, t, rfl, h2, ht, hf⟩ := h
      exact lv_acmp_ne hx hb hd h2 (fun q => go (ht q) hR hS hL hc hs) (fun q => go (hf q) hR hS hL hc hs)
  case ifnull off =>
    obtain ⟨rfl, x, r, t, rfl, h2, ht, hf⟩ := h
    cases x with
    | none => exact lv_ifnullN hx hb hd h2 (go (ht rfl) hR hS hL hc hs)
    | some a => exact lv_ifnull hx hb hd (go (hf (fun z => nomatch z)) hR hS hL hc hs)
  case ifnonnull off =>
    obtain ⟨rfl, x, r, t, rfl, h2, ht, hf⟩ := h
    cases x with
    | none => exact lv_ifnonnullN hx hb hd (go (hf rfl) hR hS hL hc hs)
    | some a => exact lv_ifnonnull hx hb hd h2 (go (ht (fun z => nomatch z)) hR hS hL hc hs)
  case goto off =>
    obtain ⟨rfl, t, h2, h⟩ := h
    exact lv_goto hx hb hd h2 (go h hR hS hL hc hs)
  case tableswitch d9 lo hi offs =>
    obtain ⟨x, r, rfl, ht, hf⟩ := h
    by_cases hq : x.toInt < lo ∨ hi < x.toInt
    · obtain ⟨t, h2, h⟩ := ht hq
      exact lv_tableOut hx hb hd hq h2 (go h hR hS hL hc hs)
    · obtain ⟨off, t, h1, h2, h⟩ := hf hq
      exact lv_tableIn hx hb hd (fun z => hq (Or.inl z)) (fun z => hq (Or.inr z)) h1 h2 (go h hR hS hL hc hs)
  case lookupswitch d9 ps =>
    obtain ⟨x, r, t, rfl, h1, h2, h⟩ := h
    exact lv_lookup hx hb hd h1 rfl h2 (go h hR hS hL hc hs)
  case arraylength =>
    obtain ⟨rfl, a, t, ⟨n, q⟩, r, rfl, h1, h2, h⟩ := h
    obtain ⟨cell, c1, c2, c3, c4, c5, -⟩ := mx_arr hR h1
    rcases h2 with h2 | h2 | h2
    · exact W.alen hx hb c1 (mx_isarr (hK.2 t _ (mx_tl_at (List.getElem?_eq_getElem h2))).1 c2 c3) (by rw [c5]) rfl rfl hd (go h hR hS hL hc hs)
    · subst h2
      exact W.alen hx hb c1 (mx_isarr hTyp c2 c3) (by rw [c5]) rfl rfl hd (go h hR hS hL hc hs)
    · subst h2
      exact W.alen hx hb c1 (mx_isarr hScr c2 c3) (by rw [c5]) rfl rfl hd (go h hR hS hL hc hs)
  case iaload =>
    obtain ⟨rfl, i, a, t, n, f, r, rfl, h3, h1, h2, h⟩ := h
    obtain ⟨cell, c1, c2, c3, c4, c5, c6⟩ := mx_arr hR h1
    rcases h3 with rfl | rfl
    · exact W.iald hx hb c1 (mx_isarr (hK.2 0 _ (mx_tl_at y0)).1 c2 c3) c4 (by rw [c5]; exact h2) (c6 _ (Nat.not_le.mp fun q => h2 (Or.inr q))) rfl rfl hd (go h hR hS hL hc hs)
    · exact W.iald hx hb c1 (mx_isarr hScr c2 c3) c4 (by rw [c5]; exact h2) (c6 _ (Nat.not_le.mp fun q => h2 (Or.inr q))) rfl rfl hd (go h hR hS hL hc hs)
  case laload =>
    obtain ⟨rfl, i, a, n, f, r, rfl, h1, h2, h⟩ := h
    obtain ⟨cell, c1, c2, c3, c4, c5, c6⟩ := mx_arr hR h1
    exact W.lald hx hb c1 (mx_isarr (hK.2 1 _ (mx_tl_at y1)).1 c2 c3) c4 (by rw [c5]; exact h2) (c6 _ (Nat.not_le.mp fun q => h2 (Or.inr q))) rfl rfl hd (go h hR hS hL hc hs)
  case baload =>
    obtain ⟨rfl, i, a, t, n, f, r, rfl, h3, h1, h2, h⟩ := h
    obtain ⟨cell, c1, c2, c3, c4, c5, c6⟩ := mx_arr hR h1
    rcases h3 with rfl | rfl
    · exact W.bald hx hb c1 (mx_isarr (hK.2 2 _ (mx_tl_at y2)).1 c2 c3) c4 (by rw [c5]; exact h2) (c6 _ (Nat.not_le.mp fun q => h2 (Or.inr q))) rfl rfl hd (go h hR hS hL hc hs)
    · exact W.zald hx hb c1 (mx_isarr (hK.2 3 _ (mx_tl_at y3)).1 c2 c3) c4 (by rw [c5]; exact h2) (c6 _ (Nat.not_le.mp fun q => h2 (Or.inr q))) rfl rfl hd (go h hR hS hL hc hs)
  case aaload =>
    obtain ⟨rfl, i, a, t, n, f, r, rfl, h3, h1, h2, h⟩ := h
    obtain ⟨cell, c1, c2, c3, c4, c5, c6⟩ := mx_arr hR h1
    rcases h3 with ⟨h3, h4⟩ | h3
    · obtain ⟨C, hC⟩ := y4 t h3 h4
      exact W.aald (ty := .object C) hx hb c1 (mx_isarr (hK.2 t _ (mx_tl_at hC)).1 c2 c3) rfl c4 (by rw [c5]; exact h2) (c6 _ (Nat.not_le.mp fun q => h2 (Or.inr q))) rfl rfl hd (go h hR hS hL hc hs)
    · subst h3
      exact W.aald (ty := .object C98) hx hb c1 (mx_isarr hTyp c2 c3) rfl c4 (by rw [c5]; exact h2) (c6 _ (Nat.not_le.mp fun q => h2 (Or.inr q))) rfl rfl hd (go h hR hS hL hc hs)
  case iastore =>
    obtain ⟨rfl, x, i, a, n, f, r, rfl, h1, h2, h3, h⟩ := h
    refine W.iast hx hb (show H[a]? = some (vp_cell (aC 0) (n, .inl f)) from (hR.2 a _ h1).1 h2) ((hK.2 0 _ (mx_tl_at y0)).1 n (fun j => .int (f j))) (fun q => by cases q) (by show ¬ (i < 0 ∨ (arrV _ _ _).slots.size ≤ _); rw [arrV_size]; exact h3) rfl rfl hd fun H1 e9 z oq => ?_
    refine go h (hR.up h2 z oq ?_) (hS.put z oq h2) hL hc hs
    show H1[a]? = some (vp_cell (aC 0) (n, .inl (upd f i.toNatClampNeg x)))
    rw [e9]
    rw [vp_cell_i, vp_cell_i, arrV_store]
    congr 2
    funext q
    by_cases hq : q = i.toNatClampNeg
    · subst hq
      simp [updV, upd]
      try rfl
    · simp [updV, upd, hq]
  case lastore =>
    obtain ⟨rfl, x, i, a, n, f, r, rfl, h1, h2, h3, h⟩ := h
    refine W.last hx hb (show H[a]? = some (vp_cell (aC 1) (n, mx_al f)) from (hR.2 a _ h1).1 h2) ((hK.2 1 _ (mx_tl_at y1)).1 n (fun j => .long (f j))) (fun q => by cases q) (by show ¬ (i < 0 ∨ (arrV _ _ _).slots.size ≤ _); rw [arrV_size]; exact h3) rfl rfl hd fun H1 e9 z oq => ?_
    refine go h (hR.up h2 z oq ?_) (hS.put z oq h2) hL hc hs
    show H1[a]? = some (vp_cell (aC 1) (n, mx_al (vp_updL f i.toNatClampNeg x)))
    rw [e9]
    rw [vp_cell_l, vp_cell_l, arrV_store]
    congr 2
    funext q
    by_cases hq : q = i.toNatClampNeg
    · subst hq
      simp [updV, vp_updL]
      try rfl
    · simp [updV, vp_updL, hq]
  case bastore =>
    obtain ⟨rfl, x, i, a, t, n, f, r, rfl, h4, h1, h2, h3, h⟩ := h
    rcases h4 with rfl | rfl
    · refine W.bast hx hb (show H[a]? = some (vp_cell (aC 2) (n, .inl f)) from (hR.2 a _ h1).1 h2) ((hK.2 2 _ (mx_tl_at y2)).1 n (fun j => .int (f j))) (fun q => by cases q) (by show ¬ (i < 0 ∨ (arrV _ _ _).slots.size ≤ _); rw [arrV_size]; exact h3) rfl rfl hd fun H1 e9 z oq => ?_
      refine go h (hR.up h2 z oq ?_) (hS.put z oq h2) hL hc hs
      show H1[a]? = some (vp_cell (aC 2) (n, .inl (upd f i.toNatClampNeg (vp_nar .byte x))))
      rw [e9]
      rw [vp_cell_i, vp_cell_i, arrV_store]
      congr 2
      funext q
      by_cases hq : q = i.toNatClampNeg
      · subst hq
        simp [updV, upd, vp_nar]
        try rfl
      · simp [updV, upd, vp_nar, hq]
    · refine W.zast hx hb (show H[a]? = some (vp_cell (aC 3) (n, .inl f)) from (hR.2 a _ h1).1 h2) ((hK.2 3 _ (mx_tl_at y3)).1 n (fun j => .int (f j))) (fun q => by cases q) (by show ¬ (i < 0 ∨ (arrV _ _ _).slots.size ≤ _); rw [arrV_size]; exact h3) rfl rfl hd fun H1 e9 z oq => ?_
      refine go h (hR.up h2 z oq ?_) (hS.put z oq h2) hL hc hs
      show H1[a]? = some (vp_cell (aC 3) (n, .inl (upd f i.toNatClampNeg (vp_nar .boolean x))))
      rw [e9]
      rw [vp_cell_i, vp_cell_i, arrV_store]
      congr 2
      funext q
      by_cases hq : q = i.toNatClampNeg
      · subst hq
        simp [updV, upd, vp_nar]
        try rfl
      · simp [updV, upd, vp_nar, hq]
  case aastore =>
    obtain ⟨rfl, x, i, a, t, n, f, r, rfl, h4, h5, h1, h2, h3, h6, h⟩ := h
    obtain ⟨C, hC⟩ := y4 t h4 h5
    have fin : ∀ (H1 : Heap), H1[a]? = some ((vp_cell (aC t) (n, mx_aq f)).setSlot i.toNatClampNeg (va_rf x)) → H1[a]? = some (vp_cell (aC t) (n, mx_aq (va_up f i.toNatClampNeg x))) := by
      intro H1 e9
      rw [e9]
      show some ((vp_cell (aC t) (n, .inr (.inr (.inr (.inr f))))).setSlot i.toNatClampNeg (va_rf x)) = some (vp_cell (aC t) (n, .inr (.inr (.inr (.inr (va_up f i.toNatClampNeg x))))))
      rw [vp_cell_q, vp_cell_q, arrV_store]
      congr 2
      funext q
      by_cases hq : q = i.toNatClampNeg
      · subst hq
        simp [updV, va_up]
      · simp [updV, va_up, hq]
    cases x with
    | none =>
      exact va_WaastN (C := C) hx hb (show H[a]? = some (vp_cell (aC t) (n, mx_aq f)) from (hR.2 a _ h1).1 h2) ((hK.2 t _ (mx_tl_at hC)).1 n (fun j => va_rf (f j))) (fun q => by cases q) (by show ¬ (i < 0 ∨ (arrV _ _ _).slots.size ≤ _); rw [arrV_size]; exact h3) rfl rfl hd fun H1 e9 z oq => go h (hR.up h2 z oq (fin H1 e9)) (hS.put z oq h2) hL hc hs
    | some v =>
      obtain ⟨ci, fs, g1, g2⟩ := h6 v rfl
      obtain ⟨E, r9, k1, k2, k3⟩ := okG t ci g2
      obtain ⟨r8, cellV, hr8, v1, v2, v3, -, -⟩ := mx_obj hR g1
      have hcls := (hK.1 ci r9 k2).2
      obtain ⟨kA, comp, c1, c2, c3, -⟩ := (hK.2 t _ (mx_tl_at k1)).2
      obtain ⟨kE, hkE, -⟩ := Vm.findClass_spec c3
      have hasg : s.vm.assignable (D.1 ci) comp = true := by
        rcases k3 with k3 | k3
        · obtain ⟨c0, t1, f1, f2, f3⟩ := Cond.castable_spec (va_Nw.use (A := args) rfl (hN _ k3))
          cases hcls.1.symm.trans f1
          cases c3.symm.trans f2
          exact f3
        · have hcomp : comp = D.1 ci := Option.some.inj (c3.symm.trans (by rw [← k3]; exact hcls.1))
          rw [hcomp]
          exact va_assign hcls
      obtain ⟨kC, hkC, -⟩ := hcls.2
      have hlt : i.toNatClampNeg < n := Nat.not_le.mp fun q => h3 (Or.inr q)
      exact W.aast hx hb (show H[a]? = some (vp_cell (aC t) (n, mx_aq f)) from (hR.2 a _ h1).1 h2) (fun q z => by cases z) (fun z => by cases z) c1 c2 rfl hkE ⟨fun q => h3 (Or.inl q), by show _ < (arrV _ _ _).slots.size; rw [arrV_size]; exact hlt⟩ v1 (fun q z => by rw [z] at v3; cases v3) (by rw [v2]; exact hkC) (by rw [v2]; exact hasg) rfl rfl hd fun H1 e9 z oq => go h (hR.up h2 z oq (fin H1 e9)) (hS.put z oq h2) hL hc hs
  case newarray a9 =>
    cases a9
    · obtain ⟨rfl, k9, r, rfl, h1, h2, h⟩ := h
      obtain ⟨s1, s2⟩ := mx_sz h
      have s1' : G.2.1 + 1 ≤ G'.2.1 := s1
      have s2' : G.2.2 + k9.toNatClampNeg ≤ G'.2.2 := s2
      refine va_newaK hx hb (hts _ (y5 .boolean (Or.inr (Or.inr (Or.inr rfl))))) rfl hd rfl h1 rfl (by show k9.toNatClampNeg * _ ≤ _; simp [newarray.typeOf, componentBytes]; omega) (by omega) (by omega) hR.1 fun H1 cA e1 z1 o1 hAr hNm => ?_
      have ec : cA = aC 3 := Option.some.inj (hNm.symm.trans (hK.2 3 _ (mx_tl_at y3)).2)
      subst ec
      refine go h (hR.pu h0H (by rw [z1, hR.1]) (fun q hq => o1 q (by rw [← hR.1]; exact hq)) ?_) (mx_S.pu hS (by rw [z1, hR.1]) (fun q hq => o1 q (by rw [← hR.1]; exact hq))) hL (by show cells + 1 + z0 = G.2.1 + 1; omega) (by show slots + k9.toNatClampNeg + u0 = G.2.2 + k9.toNatClampNeg; omega)
      rw [hR.1]
      exact e1
    · exact False.elim h
    · exact False.elim h
    · exact False.elim h
    · obtain ⟨rfl, k9, r, rfl, h1, h2, h⟩ := h
      obtain ⟨s1, s2⟩ := mx_sz h
      have s1' : G.2.1 + 1 ≤ G'.2.1 := s1
      have s2' : G.2.2 + k9.toNatClampNeg ≤ G'.2.2 := s2
      refine va_newaK hx hb (hts _ (y5 .byte (Or.inr (Or.inr (Or.inl rfl))))) rfl hd rfl h1 rfl (by show k9.toNatClampNeg * _ ≤ _; simp [newarray.typeOf, componentBytes]; omega) (by omega) (by omega) hR.1 fun H1 cA e1 z1 o1 hAr hNm => ?_
      have ec : cA = aC 2 := Option.some.inj (hNm.symm.trans (hK.2 2 _ (mx_tl_at y2)).2)
      subst ec
      refine go h (hR.pu h0H (by rw [z1, hR.1]) (fun q hq => o1 q (by rw [← hR.1]; exact hq)) ?_) (mx_S.pu hS (by rw [z1, hR.1]) (fun q hq => o1 q (by rw [← hR.1]; exact hq))) hL (by show cells + 1 + z0 = G.2.1 + 1; omega) (by show slots + k9.toNatClampNeg + u0 = G.2.2 + k9.toNatClampNeg; omega)
      rw [hR.1]
      exact e1
    · exact False.elim h
    · obtain ⟨rfl, k9, r, rfl, h1, h2, h⟩ := h
      obtain ⟨s1, s2⟩ := mx_sz h
      have s1' : G.2.1 + 1 ≤ G'.2.1 := s1
      have s2' : G.2.2 + k9.toNatClampNeg ≤ G'.2.2 := s2
      refine va_newaK hx hb (hts _ (y5 .int (Or.inl rfl))) rfl hd rfl h1 rfl (by show k9.toNatClampNeg * _ ≤ _; simp [newarray.typeOf, componentBytes]; omega) (by omega) (by omega) hR.1 fun H1 cA e1 z1 o1 hAr hNm => ?_
      have ec : cA = aC 0 := Option.some.inj (hNm.symm.trans (hK.2 0 _ (mx_tl_at y0)).2)
      subst ec
      refine go h (hR.pu h0H (by rw [z1, hR.1]) (fun q hq => o1 q (by rw [← hR.1]; exact hq)) ?_) (mx_S.pu hS (by rw [z1, hR.1]) (fun q hq => o1 q (by rw [← hR.1]; exact hq))) hL (by show cells + 1 + z0 = G.2.1 + 1; omega) (by show slots + k9.toNatClampNeg + u0 = G.2.2 + k9.toNatClampNeg; omega)
      rw [hR.1]
      exact e1
    · obtain ⟨rfl, k9, r, rfl, h1, h2, h⟩ := h
      obtain ⟨s1, s2⟩ := mx_sz h
      have s1' : G.2.1 + 1 ≤ G'.2.1 := s1
      have s2' : G.2.2 + k9.toNatClampNeg ≤ G'.2.2 := s2
      refine va_newaK hx hb (hts _ (y5 .long (Or.inr (Or.inl rfl)))) rfl hd rfl h1 rfl (by show k9.toNatClampNeg * _ ≤ _; simp [newarray.typeOf, componentBytes]; omega) (by omega) (by omega) hR.1 fun H1 cA e1 z1 o1 hAr hNm => ?_
      have ec : cA = aC 1 := Option.some.inj (hNm.symm.trans (hK.2 1 _ (mx_tl_at y1)).2)
      subst ec
      refine go h (hR.pu h0H (by rw [z1, hR.1]) (fun q hq => o1 q (by rw [← hR.1]; exact hq)) ?_) (mx_S.pu hS (by rw [z1, hR.1]) (fun q hq => o1 q (by rw [← hR.1]; exact hq))) hL (by show cells + 1 + z0 = G.2.1 + 1; omega) (by show slots + k9.toNatClampNeg + u0 = G.2.2 + k9.toNatClampNeg; omega)
      rw [hR.1]
      exact e1
  case anewarray j9 =>
    obtain ⟨rfl, k9, t, r, rfl, h3, h1, h2, h⟩ := h
    obtain ⟨C, a1, a2, a3⟩ := okA _ _ _ h3
    obtain ⟨s1, s2⟩ := mx_sz h
    have s1' : G.2.1 + 1 ≤ G'.2.1 := s1
    have s2' : G.2.2 + k9.toNatClampNeg ≤ G'.2.2 := s2
    refine W.anew hx hb hown (hts _ a2) (va_AO.use (hAO C a3)) rfl hd rfl h1 (by omega) (by omega) (by omega) fun cA kA comp f1 f2 f3 f4 => ?_
    obtain ⟨kB, cmp2, b1, b2, b3, b4⟩ := (hK.2 t _ (mx_tl_at a1)).2
    have ec : cA = aC t := Option.some.inj (f1.symm.trans b4)
    subst ec
    generalize hH1 : H.push ({ cls := aC t, slots := Array.replicate k9.toNatClampNeg .null, vm := .none } : Cell) = H1
    have z1 : H1.size = H.size + 1 := by rw [← hH1, Array.size_push]
    have e1 : H1[H.size]? = some (arrV (aC t) k9.toNatClampNeg (fun _ => .null)) := by rw [← hH1, Array.getElem?_push_size, ← arrV_new]
    have o1 : ∀ q : Nat, q < H.size → H1[q]? = H[q]? := fun q hq => by rw [← hH1, Array.getElem?_push, if_neg (Nat.ne_of_lt hq)]
    have kk := go h (hR.pu (n := k9.toNatClampNeg) (c := .inl (t, k9.toNatClampNeg, mx_aq (fun _ => none))) h0H z1 o1 e1) (mx_S.pu hS z1 o1) hL (show cells + 1 + z0 = G.2.1 + 1 by omega) (show slots + k9.toNatClampNeg + u0 = G.2.2 + k9.toNatClampNeg by omega)
    rw [← hR.1] at kk
    exact kk
  case new j9 =>
    obtain ⟨rfl, ci, fs, h1, h⟩ := h
    obtain ⟨C, T, a1, a2, a3, a4, a5⟩ := okN _ _ _ _ h1
    obtain ⟨-, hin, ty, b1, b2⟩ := okC _ _ _ _ a1
    obtain ⟨s1, s2⟩ := mx_sz h
    have s1' : G.2.1 + 1 ≤ G'.2.1 := s1
    have s2' : G.2.2 + fs.length ≤ G'.2.2 := s2
    have hKn := hK.1 ci _ a1
    refine W.newcK hx hb hown (hts _ a2) (hts _ a3) (hts _ a4) rfl hd (by omega) (by omega) hKn.2.1 hR.1 fun H1 kC hkC e1 z1 o1 => ?_
    refine go h (hR.pu h0H (by rw [z1, hR.1]) (fun q hq => o1 q (by rw [← hR.1]; exact hq)) ?_) (mx_S.pu hS (by rw [z1, hR.1]) (fun q hq => o1 q (by rw [← hR.1]; exact hq))) hL (by show cells + 1 + z0 = G.2.1 + 1; omega) (by show slots + fs.length + u0 = G.2.2 + fs.length; omega)
    rw [hR.1]
    refine ⟨_, a1, (u_born ty hts hin hKn hkC e1 b1).to (fun j hj => ?_)⟩
    have q1 := a5 j hj
    rw [b1 j hj] at q1
    exact Option.some.inj q1
  case getfield j9 =>
    obtain ⟨rfl, a, v, r, rfl, hq, h⟩ := h
    rcases hq with ⟨ci, k9, t, b, fs, h1, h2, h3⟩ | hq
    rotate_left
    · obtain ⟨C, n9, d9, z1, z2⟩ := hEn _ _ _ _ hq
      obtain ⟨cf, kf, fi, fd, cell, q1, q2, q3, q4, q5, q6⟩ := z1.kept hS.2.1
      exact W.getf hx hb hown (hts _ z2) q1 q2 q3 q4 q5 rfl rfl hd (go h hR hS hL hc hs)
    obtain ⟨C, T, N, ref, a1, a2, a3, a4, a5, a6, a7⟩ := okF _ _ _ _ _ _ h1
    obtain ⟨-, hin, -⟩ := okC _ _ _ _ a1
    obtain ⟨r9, cell, q0, q1, q2, q3, q4, q5⟩ := mx_obj hR h2
    have hr : r9 = (C, T, N) := Option.some.inj (q0.symm.trans a1)
    subst hr
    obtain ⟨hSl, hfc, kC, hkC, hkind⟩ := hK.1 ci _ a1
    obtain ⟨cf, kf, fi, fd, hi, hsl⟩ := hSl k9 a2
    have hst := (u_facts hfc hkC (u_lays hts hin a2) hi).1
    have hsame : ∀ z, s.fieldFound? (T k9).1 (T k9).2.1 (T k9).2.2.1 = some z → s.fieldFound? ref (T k9).2.1 (T k9).2.2.1 = some z := by
      intro z hz
      rcases a7 with rfl | a7
      · exact hz
      · exact u_same (hts _ a7) z hz
    refine W.getf hx hb hown (hts _ a6) (hsame _ hi) hst q1 q4 (v := v) ?_ rfl rfl hd (go h hR hS hL hc hs)
    rw [hsl, q5 k9 a2]
    simp [vp_V, h3]
  case putfield j9 =>
    obtain ⟨rfl, v, a, ci, k9, t, b, fs, r, rfl, h1, h2, h3, h4, h5, h6, h7, h⟩ := h
    obtain ⟨C, T, N, ref, a1, a2, a3, a4, a5, a6, a7⟩ := okF _ _ _ _ _ _ h1
    obtain ⟨-, hin, ty, b1, b2⟩ := okC _ _ _ _ a1
    have hsame : ∀ z, s.fieldFound? (T k9).1 (T k9).2.1 (T k9).2.2.1 = some z → s.fieldFound? ref (T k9).2.1 (T k9).2.2.1 = some z := by
      intro z hz
      rcases a7 with rfl | a7
      · exact hz
      · exact u_same (hts _ a7) z hz
    have hap := va_apart (own := cn (mx_mc M)) hts hin ty b1 b2 hK a1
    obtain ⟨r9, q0, cell, q1, q2, q3, q4⟩ := (hR.2 a _ h2).1 h3
    have hr : r9 = (C, T, N) := Option.some.inj (q0.symm.trans a1)
    subst hr
    obtain ⟨hSl, hfc, kC, hkC, hkind⟩ := hK.1 ci _ a1
    obtain ⟨cf, kf, fi, fd, hi, hsl⟩ := hSl k9 a2
    have hst := (u_facts hfc hkC (u_lays hts hin a2) hi).1
    have hlay := hts _ (hin _ (u_in_lay a2))
    unfold u_lay at hlay
    have fin : ∀ (H1 : Heap), H1[a]? = some (cell.setSlot fd.slot v) → va_at D cl (a, mx_e aC (.inr (ci, fs.set k9 v))) H1 := by
      intro H1 e9
      rw [hsl] at e9
      exact ⟨_, a1, t_OB.to (V := updV (vp_V fs) k9 v) ⟨_, e9, q2, q3, t_set q4 hap a2 v⟩ (fun j _ => vp_updV_set h7 v j)⟩
    cases b with
    | false =>
      rw [if_neg (by rw [a4]; decide)] at hlay
      have h8 := u_store hfc hkC hkind hlay hi a3 h5 h6
      exact W.putK hx hb (f := fd) ⟨hown, hts _ a6, ⟨_, _, _, hsame _ hi⟩, hst⟩ (by rw [q2]; exact h8) q1 q3 (by rw [hsl]; exact k2_hasslot (q4 k9 a2)) rfl rfl hd fun H1 e9 z oq => go h (hR.up h3 z oq (fin H1 e9)) (hS.put z oq h3) hL hc hs
    | true =>
      rw [if_pos a4] at hlay
      have hcf : m.cls = cf := by
        obtain ⟨_, _, c', _, _, _, -, -, hf', -, -, -, hown2, -⟩ := Cond.laysFinal_spec hlay
        have e1 : c' = cf := by have := hi.symm.trans hf'; simp at this; exact this.1.symm
        rw [a5 rfl, (h4 rfl).2] at hown2
        rw [← e1]; exact Option.some.inj (hown.symm.trans hown2)
      have h8 := u_fits hfc hkC hkind (Or.inr hlay) hi a3 h5 h6
      exact W.putFinK hx hb hown (hts _ a6) (hsame _ hi) hst hcf (hnm.trans (h4 rfl).1) (by rw [q2]; exact h8) q1 q3 (by rw [hsl]; exact k2_hasslot (q4 k9 a2)) rfl rfl hd fun H1 e9 z oq => go h (hR.up h3 z oq (fin H1 e9)) (hS.put z oq h3) hL hc hs
  case getstatic j9 =>
    obtain ⟨rfl, v, h1, h⟩ := h
    obtain ⟨C, n9, d9, z1, z2⟩ := hZ _ _ _ h1
    exact va_gets hx hb z1 hS hown (hts _ z2) (fun _ z => z) hd (go h hR hS hL hc hs)
  case checkcast j9 =>
    obtain ⟨rfl, x, r, rfl, h1, h⟩ := h
    cases x with
    | none => exact lv_castN hx hb hd (go h hR hS hL hc hs)
    | some a =>
      obtain ⟨cs, ci, fs, g1, g2, g3⟩ := h1 a rfl
      obtain ⟨nm, k1, k2⟩ := okT _ _ _ g1
      obtain ⟨T, N, k3⟩ := k2 ci g3
      exact va_castS hx hb hown (hts _ k1) (hK.1 ci _ k3).2 (mx_recv hK hR k3 g2) hd (go h hR hS hL hc hs)
  case invokevirtual j9 =>
    obtain ⟨rfl, a, ⟨n, q⟩, r, na, M', rfl, h1, h2, h3, h4, h5, h⟩ := h
    obtain ⟨cell, c1, c2, c3, c4, c5, -⟩ := mx_arr hR h2
    obtain ⟨-, -, m1, -⟩ := okM _ _ _ _ _ h1
    obtain ⟨w1, w2, w3, w4⟩ := m1 rfl
    refine va_getC hx hb (by rw [hml, hL.1]) hown (hts _ w1) (va_Dc.use hDc) (hts _ w2) (hts _ w3) (hts _ w4) hMi ⟨cell, c1, c3, ?_⟩ (by omega) (by omega) hd (go h hR hS hL hc hs)
    rw [c2]
    exact va_nmO (hK.2 4 _ (mx_tl_at yO)).2 (by decide)
  case invokestatic j9 =>
    obtain ⟨rfl, h⟩ := h
    rcases h with h | h | h | h | h
    rotate_left
    · obtain ⟨x, y, r, na, M', rfl, h1, h2, h3, h4, h⟩ := h
      obtain ⟨-, -, -, m1, -⟩ := okM _ _ _ _ _ h1
      obtain ⟨w1, w2, w3, w4⟩ := m1 rfl
      exact va_mmin hx hb (by rw [hml, hL.1]) hown (hts _ w1) (hts _ w2) (hts _ w3) (hts _ w4) (by omega) (by omega) (by obtain ⟨s1, s2⟩ := mx_sz h; omega) (by obtain ⟨s1, s2⟩ := mx_sz h; omega) hd (go h hR hS hL hc hs)
    · obtain ⟨x, y, r, na, M', rfl, h1, h2, h3, h4, h⟩ := h
      obtain ⟨-, -, -, -, m1, -⟩ := okM _ _ _ _ _ h1
      obtain ⟨w1, w2, w3, w4⟩ := m1 rfl
      exact va_mmax hx hb (by rw [hml, hL.1]) hown (hts _ w1) (hts _ w2) (hts _ w3) (hts _ w4) (by omega) (by omega) (by obtain ⟨s1, s2⟩ := mx_sz h; omega) (by obtain ⟨s1, s2⟩ := mx_sz h; omega) hd (go h hR hS hL hc hs)
    · obtain ⟨x, y, r, na, M', rfl, h1, h2, h3, h4, h⟩ := h
      obtain ⟨-, -, -, -, -, m1, -⟩ := okM _ _ _ _ _ h1
      obtain ⟨w1, w2, w3, w4⟩ := m1 rfl
      exact va_mmin_long hx hb (by rw [hml, hL.1]) hown (hts _ w1) (hts _ w2) (hts _ w3) (hts _ w4) (by omega) (by omega) (by obtain ⟨s1, s2⟩ := mx_sz h; omega) (by obtain ⟨s1, s2⟩ := mx_sz h; omega) hd (go h hR hS hL hc hs)
    · obtain ⟨x, y, r, na, M', rfl, h1, h2, h3, h4, h⟩ := h
      obtain ⟨-, -, -, -, -, -, m1, -⟩ := okM _ _ _ _ _ h1
      obtain ⟨w1, w2, w3, w4⟩ := m1 rfl
      exact va_mmax_long hx hb (by rw [hml, hL.1]) hown (hts _ w1) (hts _ w2) (hts _ w3) (hts _ w4) (by omega) (by omega) (by obtain ⟨s1, s2⟩ := mx_sz h; omega) (by obtain ⟨s1, s2⟩ := mx_sz h; omega) hd (go h hR hS hL hc hs)
    obtain ⟨sp, dp, cn9, a0, a, n0, n1, f, g, r, na, M', rfl, h1, g0, g1, b0, b1, p1, p2, p3, p4, p5, hel, w0, w1, w2, h⟩ := h
    obtain ⟨-, m1, -⟩ := okM _ _ _ _ _ h1
    obtain ⟨v1, v2, v3, v4⟩ := m1 rfl
    refine mx_copy hx hb (by rw [hml, hL.1]) hown (hts _ v1) (hts _ v2) (hts _ v3) (hts _ v4) hK (mx_tl_at yO) ((hR.2 a0 _ g0).1 b0) ((hR.2 a _ g1).1 b1) p1 p2 p3 p4 p5 (fun i hi y hy => ?_) (by omega) (by have : nativeFrameWords "java/lang/System" "arraycopy" 5 + 11 ≤ 32 := (by decide); omega) hd (fun H1 locs1 z oq e9 hl => go h (hR.up b1 z oq e9) ?_ hL hc hs)
    · obtain ⟨ci, fs, q1, q2⟩ := hel i hi y hy
      obtain ⟨E, r9, k1, k2, k3⟩ := okG 4 ci q2
      have eE : E = "java/lang/Object" := FieldType.object.inj (Option.some.inj (k1.symm.trans yO))
      subst eE
      obtain ⟨r8, cellV, hr8, u1, u2, u3, -, -⟩ := mx_obj hR q1
      have hcls := (hK.1 ci r9 k2).2
      obtain ⟨kC, hkC, -⟩ := hcls.2
      refine ⟨cellV, u1, u3, ⟨kC, by rw [u2]; exact hkC⟩, fun comp hcomp => ?_⟩
      rw [u2]
      rcases k3 with k3 | k3
      · obtain ⟨c0, t1, f1, f2, f3⟩ := Cond.castable_spec (va_Nw.use (A := args) rfl (hN _ k3))
        cases hcls.1.symm.trans f1
        cases hcomp.symm.trans f2
        exact f3
      · have hcc : comp = D.1 ci := Option.some.inj (hcomp.symm.trans (by rw [← k3]; exact hcls.1))
        rw [hcc]
        exact va_assign hcls
    · refine ⟨by rw [z]; exact hS.1, fun q g1 g2 => ?_, fun q hq => ?_⟩
      · rw [oq q (fun e => g2 (by rw [e]; exact b1))]
        exact hS.2.1 q g1 g2
      · rcases hl q hq with h9 | h9
        · exact hS.2.2 q h9
        · rw [h9]; exact b1
  all_goals exact False.elim h
