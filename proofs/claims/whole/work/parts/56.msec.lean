section
variable {b0 mi z1 z2 : Nat} {E : Nat → Nat} {O : Nat → Option mx_C} {s : rx_S} {G : mx_H} {Q : mx_O → mx_H → Prop}
/-- a stretch of an array written -/
def iF {α : Type} (I : Nat → Nat → Nat → α) (r i p : Nat) (g : Nat → α) (k : Nat) : Nat → Nat → Nat → α := fun a b c => bif Nat.beq a r && (Nat.beq b i && (Nat.ble p c && Nat.blt c (p + k))) then g (c - p) else I a b c
theorem iF_if {α : Type} (I : Nat → Nat → Nat → α) (r i p : Nat) (g : Nat → α) (k a b c : Nat) : iF I r i p g k a b c = if a = r ∧ b = i ∧ p ≤ c ∧ c < p + k then g (c - p) else I a b c := by
  simp only [iF]
  by_cases h : a = r ∧ b = i ∧ p ≤ c ∧ c < p + k
  · rw [if_pos h]
    obtain ⟨rfl, rfl, h3, h4⟩ := h
    have e1 : Nat.ble p c = true := Nat.ble_eq_true_of_le h3
    have e2 : Nat.blt c (p + k) = true := Nat.ble_eq_true_of_le h4
    simp [e1, e2]
  · rw [if_neg h]
    have : (Nat.beq a r && (Nat.beq b i && (Nat.ble p c && Nat.blt c (p + k)))) = false := by
      cases e : (Nat.beq a r && (Nat.beq b i && (Nat.ble p c && Nat.blt c (p + k))))
      · rfl
      · rw [Bool.and_eq_true, Bool.and_eq_true, Bool.and_eq_true] at e
        exact absurd ⟨Nat.eq_of_beq_eq_true e.1, Nat.eq_of_beq_eq_true e.2.1, Nat.le_of_ble_eq_true e.2.2.1, Nat.le_of_ble_eq_true e.2.2.2⟩ h
    rw [this]; rfl
theorem iF_0 {α : Type} (I : Nat → Nat → Nat → α) (r i p : Nat) (g : Nat → α) : iF I r i p g 0 = I := by
  funext a b c
  rw [iF_if, if_neg (by omega)]
theorem iF_s {α : Type} (I : Nat → Nat → Nat → α) (r i p : Nat) (g : Nat → α) (k : Nat) : w3 (iF I r i p g k) r i (p + k) (g k) = iF I r i p g (k + 1) := by
  funext a b c
  rw [w3_if, iF_if, iF_if]
  by_cases h : a = r ∧ b = i ∧ c = p + k
  · rw [if_pos h, if_pos (by omega), h.2.2]; congr 1; omega
  · rw [if_neg h]
    by_cases h2 : a = r ∧ b = i ∧ p ≤ c ∧ c < p + k
    · rw [if_pos h2, if_pos (by omega)]
    · rw [if_neg h2, if_neg (by omega)]
theorem u3_id {α : Type} (x : Nat → Nat → Nat → α) {r i f : Nat} {w : α} (h : x r i f = w) : u3 x r i f w = x := by
  funext a b c
  rw [u3_if]
  by_cases e : a = r ∧ b = i ∧ c = f
  · obtain ⟨rfl, rfl, rfl⟩ := e; rw [if_pos ⟨rfl, rfl, rfl⟩, h]
  · rw [if_neg e]
theorem u3_u3 {α : Type} (x : Nat → Nat → Nat → α) (r i f : Nat) (v w : α) : u3 (u3 x r i f v) r i f w = u3 x r i f w := by
  funext a b c
  rw [u3_if, u3_if, u3_if]
  by_cases e : a = r ∧ b = i ∧ c = f
  · rw [if_pos e, if_pos e]
  · rw [if_neg e, if_neg e, if_neg e]
def m_fill (s : rx_S) (p : Nat) (sd : Int32) (k : Nat) : rx_S := (s.1, s.2.1, u3 s.2.2.1 0 0 12 (.inl (.int (nI (p + k)))), iF s.2.2.2.1 1 11 p (fun j => (sd + nI j) &&& 255) k, s.2.2.2.2)
theorem m_fill_0 {s : rx_S} {p : Nat} {sd : Int32} (h : rX s 0 0 12 = .inl (.int (nI p))) : m_fill s p sd 0 = s := by
  show (s.1, s.2.1, u3 s.2.2.1 0 0 12 (.inl (.int (nI p))), iF s.2.2.2.1 1 11 p _ 0, s.2.2.2.2) = s
  rw [iF_0, u3_id _ h]
theorem m_fill_s (s : rx_S) (p : Nat) (sd : Int32) (k : Nat) : sX (sI (m_fill s p sd k) 1 11 (p + k) ((sd + nI k) &&& 255)) 0 0 12 (.inl (.int (nI (p + k + 1)))) = m_fill s p sd (k + 1) := by
  show (s.1, s.2.1, u3 (u3 s.2.2.1 0 0 12 _) 0 0 12 _, w3 (iF s.2.2.2.1 1 11 p (fun j => (sd + nI j) &&& 255) k) 1 11 (p + k) ((fun j => (sd + nI j) &&& 255) k), s.2.2.2.2) = _
  rw [iF_s, u3_u3]; rfl
theorem mfr.fill {s s' : rx_S} (h : mfr s s') {p k : Nat} {sd : Int32} : mfr s (m_fill s' p sd k) := ⟨h.1, h.2.1, h.2.2.1, h.2.2.2.1, fun r hr => ⟨by
  rw [← (h.2.2.2.2 r hr).1]
  funext a b
  exact u3_n _ _ (fun e => by omega), by
  rw [← (h.2.2.2.2 r hr).2.1]
  funext a b
  exact (iF_if s'.2.2.2.1 1 11 p (fun j => (sd + nI j) &&& 255) k r a b).trans (if_neg (by omega)), (h.2.2.2.2 r hr).2.2⟩⟩
theorem m_fill_F {s : rx_S} (h : rm_F s) {p k : Nat} {sd : Int32} : rm_F (m_fill s p sd k) := rm_X (k := 12) h rfl
theorem c10_section_l (hS : rx_in s) (hM : rm_F s) {p zz n : Nat} {kd sd : Int32} (hkd : kd.toInt < 3) (hp : p + zz ≤ 60000) {K0 : rx_S → Prop} : ∀ (d k : Nat) (L : mx_L) (G : mx_H), zz - k < d → k ≤ zz → rx_R b0 O z1 z2 (m_fill s p sd k) G → L 0 = some (.ref (rA s 0 0)) → L 2 = some (.int kd) → L 3 = some (.int (nI zz)) → L 5 = some (.int sd) → L 6 = some (.int (nI n)) → L 7 = some (.int (nI k)) → (∀ (L : mx_L) (G : mx_H), rx_R b0 O z1 z2 (m_fill s p sd zz) G → L 0 = some (.ref (rA s 0 0)) → L 3 = some (.int (nI zz)) → L 6 = some (.int (nI n)) → mx_W (gt_P b0 mi E) mX10_section 208 L [] G Q) → mx_W (gt_P b0 mi E) mX10_section 163 L [] G Q := by
  intro d
  induction d with
  | zero => intro k L G h; exact absurd h (Nat.not_lt_zero _)
  | succ d ih =>
    intro k L G hd hkz R h0 h2 h3 h5 h6 h7 kx
    have en3 : (nI 3).toInt = 3 := by decide
    refine w_iload dX10_section_163 h7 ?_
    refine w_iload_n dX10_section_165 h3 ?_
    refine r_icmp_gen (t := 208) dX10_section_166 rfl (by omega) (by omega) (fun h166 => ?_) (fun h166 => ?_)
    ·
      obtain rfl : k = zz := by omega
      exact kx L G R h0 h3 h6
    ·
      refine w_iload_n dX10_section_169 h2 ?_
      refine w_iconst (v := nI 3) dX10_section_170 (by decide) ?_
      refine r_icmp_gei (t := 208) dX10_section_171 rfl (fun h => by omega) (fun h171 => ?_)
      refine w_aload_n dX10_section_174 h0 ?_
      refine r_getr  dX10_section_175 ft_9_40 R rfl (hS _ _ rfl) rfl (lb rfl) (hM.1 11 (lb rfl) (lb rfl)) ?_
      refine w_aload_n dX10_section_178 h0 ?_
      refine r_geti  dX10_section_179 ft_9_171 R rfl (hS _ _ rfl) rfl (lb rfl) rfl ?_
      refine w_iload dX10_section_182 h5 ?_
      refine w_iload dX10_section_184 h7 ?_
      refine w_iadd dX10_section_186 ?_
      refine w_sipush (v := 255) dX10_section_187 (by decide) ?_
      refine w_iand dX10_section_190 ?_
      refine r_iast  dX10_section_191 R rfl (hS _ _ rfl) rfl rfl (by omega) (lb rfl) (fun G1 R1 => ?_)
      refine w_aload_n dX10_section_192 h0 ?_
      refine w_dup dX10_section_193 rfl ?_
      refine r_geti  dX10_section_194 ft_9_171 R1 rfl (hS _ _ rfl) rfl (lb rfl) rfl ?_
      refine w_iconst (v := 1) dX10_section_197 (by decide) ?_
      refine w_iadd dX10_section_198 ?_
      rw [nI_1]
      refine r_puti  dX10_section_199 ft_9_171 R1 rfl (hS _ _ rfl) rfl (lb rfl) (fun h => by cases h) rfl rfl (fun G2 R2 => ?_)
      refine w_iinc dX10_section_202 h7 (nI_1 _) (lb rfl) ?_
      refine w_goto (t := 163) dX10_section_205 rfl ?_
      rw [m_fill_s] at R2
      exact ih (k + 1) _ _ (by omega) (by omega) R2 h0 h2 h3 h5 h6 rfl kx
/-- the model's state once a section is told -/
def m_sec (s : rx_S) (n p : Nat) (o k z a : Int32) : rx_S := sI (sI (sI (sI (sI (sI (sI (sI (m_told s) 1 3 n o) 1 4 n k) 1 5 n z) 1 6 n a) 1 7 n (nI p)) 1 8 n 0) 1 9 n (-1)) 1 10 n (-1)
theorem w3_at {α : Type} (I : Nat → Nat → Nat → α) (r i j : Nat) (v : α) (p : Nat) : w3 I r i j v r i p = if p = j then v else I r i p := by
  rw [w3_if]
  by_cases h : p = j
  · rw [if_pos ⟨rfl, rfl, h⟩, if_pos h]
  · rw [if_neg (fun e => h e.2.2), if_neg h]
theorem u2_at (I : Nat → Nat → Int32) (i j : Nat) (v : Int32) (p : Nat) : u2 I i j v i p = if p = j then v else I i p := by
  rw [u2_if]
  by_cases h : p = j
  · rw [if_pos ⟨rfl, h⟩, if_pos h]
  · rw [if_neg (fun e => h e.2), if_neg h]
theorem MR_sec {s s2 : rx_S} {τ τ2 : tx_T} (hT : MR s τ) (hV : TV τ) {o k a sd : Int32} {zz p q : Nat} (hz : zz ≤ 20000) (hz2 : tN τ 5 + zz ≤ 60000) (hp : rX s 0 0 12 = .inl (.int (nI p))) (hpl : p ≤ tN τ 5) (hq : (k.toInt < 3 ∧ q = zz) ∨ (¬ k.toInt < 3 ∧ q = 0)) (hF : rm_F s2)
    (x1 : rX s2 0 0 1 = rX s 0 0 1) (x2 : rX s2 0 0 2 = .inl (.int (nI (tN τ 1 + 1)))) (x12 : rX s2 0 0 12 = .inl (.int (nI (p + q)))) (x13 : rX s2 0 0 13 = .inl (.int (nI (tN τ 5 + zz)))) (x14 : rX s2 0 0 14 = rX s 0 0 14) (x20 : rX s2 0 0 20 = rX s 0 0 20) (x26 : rX s2 0 0 26 = rX s 0 0 26)
    (a3 : ∀ i, rI s2 1 3 i = if i = tN τ 1 then o else rI s 1 3 i) (a4 : ∀ i, rI s2 1 4 i = if i = tN τ 1 then k else rI s 1 4 i) (a5 : ∀ i, rI s2 1 5 i = if i = tN τ 1 then nI zz else rI s 1 5 i) (a6 : ∀ i, rI s2 1 6 i = if i = tN τ 1 then a else rI s 1 6 i) (a7 : ∀ i, rI s2 1 7 i = if i = tN τ 1 then nI p else rI s 1 7 i) (a8 : ∀ i, rI s2 1 8 i = if i = tN τ 1 then 0 else rI s 1 8 i) (a9 : ∀ i, rI s2 1 9 i = if i = tN τ 1 then -1 else rI s 1 9 i) (a10 : ∀ i, rI s2 1 10 i = if i = tN τ 1 then -1 else rI s 1 10 i)
    (a11 : ∀ j, rI s2 1 11 j = if p ≤ j ∧ j < p + q then (sd + nI (j - p)) &&& 255 else rI s 1 11 j)
    (b1 : ∀ k, rI s2 1 15 k = rI s 1 15 k ∧ rI s2 1 16 k = rI s 1 16 k ∧ rI s2 1 17 k = rI s 1 17 k ∧ rI s2 1 18 k = rI s 1 18 k ∧ rI s2 1 19 k = rI s 1 19 k) (b2 : ∀ k, rI s2 1 21 k = rI s 1 21 k ∧ rI s2 1 22 k = rI s 1 22 k ∧ rI s2 1 23 k = rI s 1 23 k ∧ rI s2 1 24 k = rI s 1 24 k ∧ rI s2 1 25 k = rI s 1 25 k) (b3 : ∀ k, rI s2 1 27 k = rI s 1 27 k) (b4 : ∀ k, rL s2 1 28 k = rL s 1 28 k)
    (n0 : tN τ2 0 = tN τ 0) (n1 : tN τ2 1 = tN τ 1 + 1) (n2 : tN τ2 2 = tN τ 2) (n3 : tN τ2 3 = tN τ 3) (n4 : tN τ2 4 = tN τ 4) (n5 : tN τ2 5 = tN τ 5 + zz)
    (t3 : ∀ i, tT τ2 3 i = if i = tN τ 1 then o else tT τ 3 i) (t4 : ∀ i, tT τ2 4 i = if i = tN τ 1 then k else tT τ 4 i) (t5 : ∀ i, tT τ2 5 i = if i = tN τ 1 then nI zz else tT τ 5 i) (t6 : ∀ i, tT τ2 6 i = if i = tN τ 1 then a else tT τ 6 i) (t8 : ∀ i, tT τ2 8 i = if i = tN τ 1 then 0 else tT τ 8 i) (t9 : ∀ i, tT τ2 9 i = if i = tN τ 1 then -1 else tT τ 9 i) (t10 : ∀ i, tT τ2 10 i = if i = tN τ 1 then -1 else tT τ 10 i) (ty : ∀ i j, tY τ2 i j = if i = tN τ 1 then (sd + nI j) &&& 255 else tY τ i j)
    (d1 : ∀ k, tT τ2 15 k = tT τ 15 k ∧ tT τ2 16 k = tT τ 16 k ∧ tT τ2 17 k = tT τ 17 k ∧ tT τ2 18 k = tT τ 18 k ∧ tT τ2 19 k = tT τ 19 k) (d2 : ∀ k, tT τ2 21 k = tT τ 21 k ∧ tT τ2 22 k = tT τ 22 k ∧ tT τ2 23 k = tT τ 23 k ∧ tT τ2 24 k = tT τ 24 k ∧ tT τ2 25 k = tT τ 25 k) (d3 : ∀ k, tT τ2 27 k = tT τ 27 k) (d4 : ∀ k, tT τ2 28 k = tT τ 28 k) : MR s2 τ2 := by
  obtain ⟨hM, ⟨c1, c2, c13, c14, c20, c26⟩, hsec, ⟨fr, fl, g1, g2, g3, g4⟩, hsy, hre, hro, hba⟩ := hT
  have hV0 := hV.1
  have hfl : fl = p := (nI_eq (by omega) (by omega)).mp (by have := g1.symm.trans hp; injection this with e; injection e)
  subst hfl
  have ez : cl (nI zz) = zz := clN (by omega)
  refine ⟨hF, ⟨by rw [x1, n0]; exact c1, by rw [x2, n1], by rw [x13, n5], by rw [x14, n2]; exact c14, by rw [x20, n3]; exact c20, by rw [x26, n4]; exact c26⟩, fun i hi => ?_, ?_, fun k hk => ?_, fun k hk => ?_, fun k hk => ?_, fun k hk => ?_⟩
  · rw [n1] at hi
    rw [a3, a4, a5, a6, a8, a9, a10, t3, t4, t5, t6, t8, t9, t10]
    by_cases e : i = tN τ 1
    · simp only [if_pos e, and_self]
    · simp only [if_neg e]
      exact hsec i (by omega)
  · refine ⟨fun i => if i = tN τ 1 then fl else fr i, fl + q, x12, ?_, fun i hi hk => ?_, fun i i' hii hi' hk hk' => ?_⟩
    · rw [n5]; rcases hq with h | h <;> omega
    · rw [n1] at hi
      rw [t4] at hk
      rw [a7, t5]
      by_cases e : i = tN τ 1
      · rw [if_pos e] at hk
        simp only [if_pos e]
        rw [ez]
        have hq' : q = zz := by rcases hq with h | h <;> omega
        subst hq'
        refine ⟨trivial, Nat.le_refl _, fun j hj => ?_⟩
        rw [a11, ty, if_pos e, if_pos (by omega)]
        congr 3; omega
      · rw [if_neg e] at hk
        simp only [if_neg e]
        obtain ⟨h1, h2, h3⟩ := g3 i (by omega) hk
        refine ⟨h1, by omega, fun j hj => ?_⟩
        rw [a11, ty, if_neg e, if_neg (by omega)]
        exact h3 j hj
    · rw [n1] at hi'
      have hne : i ≠ tN τ 1 := by omega
      rw [t4, if_neg hne] at hk
      rw [t5, if_neg hne]
      show (if i = tN τ 1 then fl else fr i) + cl (tT τ 5 i) ≤ if i' = tN τ 1 then fl else fr i'
      rw [if_neg hne]
      by_cases e : i' = tN τ 1
      · rw [if_pos e]; exact (g3 i (by omega) hk).2.1
      · rw [if_neg e]
        rw [t4, if_neg e] at hk'
        exact g4 i i' hii (by omega) hk hk'
  · rw [n2] at hk
    rw [(b1 k).1, (b1 k).2.1, (b1 k).2.2.1, (b1 k).2.2.2.1, (b1 k).2.2.2.2, (d1 k).1, (d1 k).2.1, (d1 k).2.2.1, (d1 k).2.2.2.1, (d1 k).2.2.2.2]
    exact hsy k hk
  · rw [n3] at hk
    rw [(b2 k).1, (b2 k).2.1, (b2 k).2.2.1, (b2 k).2.2.2.1, (b2 k).2.2.2.2, (d2 k).1, (d2 k).2.1, (d2 k).2.2.1, (d2 k).2.2.2.1, (d2 k).2.2.2.2]
    exact hre k hk
  · rw [n4] at hk
    rw [b3, d3]; exact hro k hk
  · rw [b4, d4]; exact hba k hk
theorem m_sec_F {s : rx_S} (h : rm_F s) {n p : Nat} {o k z a : Int32} : rm_F (m_sec s n p o k z a) := rm_I (rm_I (rm_I (rm_I (rm_I (rm_I (rm_I (rm_I (m_told_F h))))))))
theorem m_sec_S {s : rx_S} (h : rx_in s) {n p : Nat} {o k z a : Int32} : rx_in (m_sec s n p o k z a) := fun r i e => h r i e
theorem c10_section_e {s : rx_S} {p q zz n m : Nat} {sd : Int32} {L : mx_L} (R : rx_R b0 O z1 z2 (m_fill s p sd q) G) (hS : rx_in s) (hM : rm_F s) (c2 : rX s 0 0 2 = .inl (.int (nI n))) (c13 : rX s 0 0 13 = .inl (.int (nI m))) (h0 : L 0 = some (.ref (rA s 0 0))) (h3 : L 3 = some (.int (nI zz))) (h6 : L 6 = some (.int (nI n))) (k9 : ∀ G, rx_R b0 O z1 z2 (sX (sX (m_fill s p sd q) 0 0 13 (.inl (.int (nI (m + zz))))) 0 0 2 (.inl (.int (nI (n + 1))))) G → Q (.inl (some (.int (nI n)))) G) : mx_W (gt_P b0 mi E) mX10_section 208 L [] G Q := by
  refine w_aload_n dX10_section_208 h0 ?_
  refine w_dup dX10_section_209 rfl ?_
  refine r_geti  dX10_section_210 ft_9_168 R rfl (hS _ _ rfl) rfl (lb rfl) c13 ?_
  refine w_iload_n dX10_section_213 h3 ?_
  refine w_iadd dX10_section_214 ?_
  rw [nI_add]
  refine r_puti  dX10_section_215 ft_9_168 R rfl (hS _ _ rfl) rfl (lb rfl) (fun h => by cases h) rfl rfl (fun G1 R1 => ?_)
  refine w_aload_n dX10_section_218 h0 ?_
  refine w_dup dX10_section_219 rfl ?_
  refine r_geti  dX10_section_220 ft_9_165 R1 rfl (hS _ _ rfl) rfl (lb rfl) c2 ?_
  refine w_iconst (v := 1) dX10_section_223 (by decide) ?_
  refine w_iadd dX10_section_224 ?_
  rw [nI_1]
  refine r_puti  dX10_section_225 ft_9_165 R1 rfl (hS _ _ rfl) rfl (lb rfl) (fun h => by cases h) rfl rfl (fun G2 R2 => ?_)
  refine w_iload dX10_section_228 h6 ?_
  exact w_iret dX10_section_230 rfl rfl (k9 _ R2)
theorem c10_section_s {s : rx_S} {p zz : Nat} {kd sd : Int32} {L : mx_L} (R : rx_R b0 O z1 z2 (m_fill s p sd 0) G) (hS : rx_in s) (hM : rm_F s) (hkd : 3 ≤ kd.toInt) (hzz : zz < 2 ^ 31) (h0 : L 0 = some (.ref (rA s 0 0))) (h2 : L 2 = some (.int kd)) (h3 : L 3 = some (.int (nI zz))) (h7 : L 7 = some (.int (nI 0))) (k9 : mx_W (gt_P b0 mi E) mX10_section 208 L [] G Q) : mx_W (gt_P b0 mi E) mX10_section 163 L [] G Q := by
  have en3 : (nI 3).toInt = 3 := by decide
  refine w_iload dX10_section_163 h7 ?_
  refine w_iload_n dX10_section_165 h3 ?_
  refine r_icmp_gen (t := 208) dX10_section_166 rfl (by omega) (by omega) (fun h166 => ?_) (fun h166 => ?_)
  ·
    exact k9
  ·
    refine w_iload_n dX10_section_169 h2 ?_
    refine w_iconst (v := nI 3) dX10_section_170 (by decide) ?_
    refine r_icmp_gei (t := 208) dX10_section_171 rfl (fun h171 => ?_) (fun h => by omega)
    exact k9
theorem c10_section (R : rx_R b0 O z1 z2 s G) (hS : rx_in s) {τ : tx_T} (hT : MR s τ) (hV : TV τ) {o k z a sd : Int32} (qn : ∀ r9, f_section τ o k z a sd = (r9, none) → Q (.inl (some (.int r9))) G) (qs : ∀ r9 τ', f_section τ o k z a sd = (r9, some τ') → ∀ s' G', rx_R b0 O z1 z2 s' G' → mfr s s' → MR s' τ' → MT s' → Q (.inl (some (.int r9))) G') : mx_W (gt_P b0 mi E) mX10_section 0 (mx_en 0 [.ref (rA s 0 0), .int o, .int k, .int z, .int a, .int sd]) [] G Q := by
  have hT0 := hT
  obtain ⟨hM, ⟨c1, c2, c13, c14, c20, c26⟩, hsec, hby, hsy, hre, hro, hba⟩ := hT
  have hV0 := hV.1
  have e5 := nI_toInt (n := tN τ 5) (by omega)
  have e60 : (60000 : Int32).toInt = 60000 := by decide
  refine w_iload_n dX10_section_0 rfl ?_
  refine w_i2l dX10_section_1 ?_
  refine w_lconst (v := 0) dX10_section_2 (by decide) ?_
  refine w_aload_n dX10_section_3 rfl ?_
  refine r_geti  dX10_section_4 ft_9_149 R rfl (hS _ _ rfl) rfl (lb rfl) c1 ?_
  refine w_iconst (v := 1) dX10_section_7 (by decide) ?_
  refine w_isub dX10_section_8 ?_
  refine w_i2l dX10_section_9 ?_
  refine r_stat3 dX10_section_10 mt_9_155 (lb rfl) (lb rfl) (lb rfl) (lb rfl) rfl (c10_inI (Int32.toInt_toInt64 _) (b := 0) (by decide) (t_cnt (by omega)) (fun i10a i10b => ⟨_, rfl, ?_⟩) (fun i10 => ⟨_, rfl, ?_⟩))
  ·
    refine w_if_ne (t := 19) dX10_section_13 rfl (fun _ => ?_) (fun h => absurd (by decide) h)
    refine w_iload_n dX10_section_19 rfl ?_
    refine w_i2l dX10_section_20 ?_
    refine w_lconst (v := 0) dX10_section_21 (by decide) ?_
    refine w_ldc2 dX10_section_22 ct_9_159 ?_
    refine r_stat3 dX10_section_25 mt_9_155 (lb rfl) (lb rfl) (lb rfl) (lb rfl) rfl (c10_inI (Int32.toInt_toInt64 _) (b := 0) (by decide) (c := 3) (by decide) (fun i25a i25b => ⟨_, rfl, ?_⟩) (fun i25 => ⟨_, rfl, ?_⟩))
    ·
      refine w_if_eq (t := 56) dX10_section_28 rfl (fun h => absurd h (by decide)) (fun _ => ?_)
      refine w_iload_n dX10_section_31 rfl ?_
      refine w_i2l dX10_section_32 ?_
      refine w_lconst (v := 0) dX10_section_33 (by decide) ?_
      refine w_ldc2 dX10_section_34 ct_9_161 ?_
      refine r_stat3 dX10_section_37 mt_9_155 (lb rfl) (lb rfl) (lb rfl) (lb rfl) rfl (c10_inI (Int32.toInt_toInt64 _) (b := 0) (by decide) (c := 20000) (by decide) (fun i37a i37b => ⟨_, rfl, ?_⟩) (fun i37 => ⟨_, rfl, ?_⟩))
      ·
        refine w_if_eq (t := 56) dX10_section_40 rfl (fun h => absurd h (by decide)) (fun _ => ?_)
        refine w_iload dX10_section_43 rfl ?_
        refine w_i2l dX10_section_45 ?_
        refine w_lconst (v := 0) dX10_section_46 (by decide) ?_
        refine w_ldc2 dX10_section_47 ct_9_163 ?_
        refine r_stat3 dX10_section_50 mt_9_155 (lb rfl) (lb rfl) (lb rfl) (lb rfl) rfl (c10_inI (Int32.toInt_toInt64 _) (b := 0) (by decide) (c := 8) (by decide) (fun i50a i50b => ⟨_, rfl, ?_⟩) (fun i50 => ⟨_, rfl, ?_⟩))
        ·
          refine w_if_ne (t := 59) dX10_section_53 rfl (fun _ => ?_) (fun h => absurd (by decide) h)
          refine w_aload_n dX10_section_59 rfl ?_
          refine r_geti  dX10_section_60 ft_9_165 R rfl (hS _ _ rfl) rfl (lb rfl) c2 ?_
          refine w_bipush (v := nI 60) dX10_section_63 (by decide) ?_
          refine r_icmp_eqn (t := 79) dX10_section_65 rfl (by omega) (by omega) (fun h65 => ?_) (fun h65 => ?_)
          ·
            refine w_bipush (v := (-104)) dX10_section_79 (by decide) ?_
            exact w_iret dX10_section_81 rfl rfl (qn _ (by rw [f_section, if_neg (Classical.not_not.mpr ⟨i10a, by omega⟩), if_neg (Classical.not_not.mpr ⟨⟨i25a, i25b⟩, ⟨i37a, i37b⟩, ⟨i50a, i50b⟩⟩), if_pos (Or.inl h65)]))
          ·
            refine w_aload_n dX10_section_68 rfl ?_
            refine r_geti  dX10_section_69 ft_9_168 R rfl (hS _ _ rfl) rfl (lb rfl) c13 ?_
            refine w_iload_n dX10_section_72 rfl ?_
            refine w_iadd dX10_section_73 ?_
            have e73 : (nI (tN τ 5) + z).toInt = (tN τ 5 : Int) + z.toInt := by rw [t_add (by rw [e5]; omega) i37a (by rw [e5]; omega), e5]
            refine w_ldc dX10_section_74 ct_9_39 ?_
            refine r_icmp_lei (t := 82) dX10_section_76 rfl (fun h76 => ?_) (fun h76 => ?_)
            ·
              obtain ⟨zz, hzz, rfl⟩ := nI_ofI i37a
              have ezz := nI_toInt hzz
              obtain ⟨fr, fl, g1, g2, g3, g4⟩ := hby
              refine w_aload_n dX10_section_82 rfl ?_
              refine r_inv0  dX10_section_83 mt_9_152 R rfl (hS _ _ rfl) rfl (lb rfl) (lb rfl) (lb rfl) (lb rfl) rfl (c10_told R hS hM (fun _ Rt => ⟨_, rfl, ?_⟩))
              refine w_aload_n dX10_section_86 rfl ?_
              refine r_geti  dX10_section_87 ft_9_165 Rt rfl (hS _ _ rfl) rfl (lb rfl) c2 ?_
              refine w_istore dX10_section_90 (lb rfl) ?_
              refine w_aload_n dX10_section_92 rfl ?_
              refine r_getr  dX10_section_93 ft_9_13 Rt rfl (hS _ _ rfl) rfl (lb rfl) (hM.1 3 (lb rfl) (lb rfl)) ?_
              refine w_iload dX10_section_96 rfl ?_
              refine w_iload_n dX10_section_98 rfl ?_
              refine r_iast  dX10_section_99 Rt rfl (hS _ _ rfl) rfl rfl (by omega) (lb rfl) (fun G1 R1 => ?_)
              refine w_aload_n dX10_section_100 rfl ?_
              refine r_getr  dX10_section_101 ft_9_17 R1 rfl (hS _ _ rfl) rfl (lb rfl) (hM.1 4 (lb rfl) (lb rfl)) ?_
              refine w_iload dX10_section_104 rfl ?_
              refine w_iload_n dX10_section_106 rfl ?_
              refine r_iast  dX10_section_107 R1 rfl (hS _ _ rfl) rfl rfl (by omega) (lb rfl) (fun G2 R2 => ?_)
              refine w_aload_n dX10_section_108 rfl ?_
              refine r_getr  dX10_section_109 ft_9_20 R2 rfl (hS _ _ rfl) rfl (lb rfl) (hM.1 5 (lb rfl) (lb rfl)) ?_
              refine w_iload dX10_section_112 rfl ?_
              refine w_iload_n dX10_section_114 rfl ?_
              refine r_iast  dX10_section_115 R2 rfl (hS _ _ rfl) rfl rfl (by omega) (lb rfl) (fun G3 R3 => ?_)
              refine w_aload_n dX10_section_116 rfl ?_
              refine r_getr  dX10_section_117 ft_9_23 R3 rfl (hS _ _ rfl) rfl (lb rfl) (hM.1 6 (lb rfl) (lb rfl)) ?_
              refine w_iload dX10_section_120 rfl ?_
              refine w_iload dX10_section_122 rfl ?_
              refine r_iast  dX10_section_124 R3 rfl (hS _ _ rfl) rfl rfl (by omega) (lb rfl) (fun G4 R4 => ?_)
              refine w_aload_n dX10_section_125 rfl ?_
              refine r_getr  dX10_section_126 ft_9_26 R4 rfl (hS _ _ rfl) rfl (lb rfl) (hM.1 7 (lb rfl) (lb rfl)) ?_
              refine w_iload dX10_section_129 rfl ?_
              refine w_aload_n dX10_section_131 rfl ?_
              refine r_geti  dX10_section_132 ft_9_171 R4 rfl (hS _ _ rfl) rfl (lb rfl) g1 ?_
              refine r_iast  dX10_section_135 R4 rfl (hS _ _ rfl) rfl rfl (by omega) (lb rfl) (fun G5 R5 => ?_)
              refine w_aload_n dX10_section_136 rfl ?_
              refine r_getr  dX10_section_137 ft_9_29 R5 rfl (hS _ _ rfl) rfl (lb rfl) (hM.1 8 (lb rfl) (lb rfl)) ?_
              refine w_iload dX10_section_140 rfl ?_
              refine w_iconst (v := 0) dX10_section_142 (by decide) ?_
              refine r_zast  dX10_section_143 R5 rfl (hS _ _ rfl) rfl rfl (by omega) (lb rfl) (show vp_nar .boolean 0 = 0 from rfl) (fun G6 R6 => ?_)
              refine w_aload_n dX10_section_144 rfl ?_
              refine r_getr  dX10_section_145 ft_9_33 R6 rfl (hS _ _ rfl) rfl (lb rfl) (hM.1 9 (lb rfl) (lb rfl)) ?_
              refine w_iload dX10_section_148 rfl ?_
              refine w_iconst (v := (-1)) dX10_section_150 (by decide) ?_
              refine r_iast  dX10_section_151 R6 rfl (hS _ _ rfl) rfl rfl (by omega) (lb rfl) (fun G7 R7 => ?_)
              refine w_aload_n dX10_section_152 rfl ?_
              refine r_getr  dX10_section_153 ft_9_36 R7 rfl (hS _ _ rfl) rfl (lb rfl) (hM.1 10 (lb rfl) (lb rfl)) ?_
              refine w_iload dX10_section_156 rfl ?_
              refine w_iconst (v := (-1)) dX10_section_158 (by decide) ?_
              refine r_iast  dX10_section_159 R7 rfl (hS _ _ rfl) rfl rfl (by omega) (lb rfl) (fun G8 R8 => ?_)
              refine w_iconst (v := 0) dX10_section_160 (by decide) ?_
              refine w_istore dX10_section_161 (lb rfl) ?_
              have hS1 : rx_in (m_sec s (tN τ 1) fl o k (nI zz) a) := m_sec_S hS
              have hM1 : rm_F (m_sec s (tN τ 1) fl o k (nI zz) a) := m_sec_F hM
              have R9 : rx_R b0 O z1 z2 (m_fill (m_sec s (tN τ 1) fl o k (nI zz) a) fl sd 0) G8 := by
                rw [m_fill_0 (s := m_sec s (tN τ 1) fl o k (nI zz) a) (p := fl) g1]; exact R8
              have a11q : ∀ q j, rI (sX (sX (m_fill (m_sec s (tN τ 1) fl o k (nI zz) a) fl sd q) 0 0 13 (.inl (.int (nI (tN τ 5 + zz))))) 0 0 2 (.inl (.int (nI (tN τ 1 + 1))))) 1 11 j = if fl ≤ j ∧ j < fl + q then (sd + nI (j - fl)) &&& 255 else rI s 1 11 j := by
                intro q j
                refine (iF_if (m_sec s (tN τ 1) fl o k (nI zz) a).2.2.2.1 1 11 fl (fun j => (sd + nI j) &&& 255) q 1 11 j).trans ?_
                by_cases e : fl ≤ j ∧ j < fl + q
                · rw [if_pos ⟨rfl, rfl, e.1, e.2⟩, if_pos e]
                · rw [if_neg (fun h => e h.2.2), if_neg e]; rfl
              by_cases hk3 : k.toInt < 3
              · refine c10_section_l hS1 hM1 (K0 := fun _ => True) (n := tN τ 1) (zz := zz) hk3 (by omega) (zz + 1) 0 _ _ (by omega) (by omega) R9 rfl rfl rfl rfl rfl rfl (fun L G RF l0 l3 l6 => ?_)
                exact c10_section_e RF hS1 hM1 c2 c13 l0 l3 l6 (fun G RL => by
                  refine qs _ _ (by rw [f_section, if_neg (Classical.not_not.mpr ⟨i10a, by omega⟩), if_neg (Classical.not_not.mpr ⟨⟨i25a, i25b⟩, ⟨i37a, i37b⟩, ⟨i50a, i50b⟩⟩), if_neg (fun e => e.elim h65 (by omega))]) _ _ RL ((mfr.told s).I.I.I.I.I.I.I.I.fill.X.X) ?_ ⟨rfl, rfl, rfl, rfl⟩
                  exact MR_sec (o := o) (k := k) (a := a) (sd := sd) (zz := zz) (p := fl) (q := zz) hT0 hV (by omega) (by omega) g1 g2 (Or.inl ⟨hk3, rfl⟩) (rm_X (rm_X (m_fill_F (m_sec_F hM)) rfl) rfl) rfl rfl rfl rfl rfl rfl rfl (fun i => w3_at _ _ _ _ _ _) (fun i => w3_at _ _ _ _ _ _) (fun i => w3_at _ _ _ _ _ _) (fun i => w3_at _ _ _ _ _ _) (fun i => w3_at _ _ _ _ _ _) (fun i => w3_at _ _ _ _ _ _) (fun i => w3_at _ _ _ _ _ _) (fun i => w3_at _ _ _ _ _ _) (fun j => a11q zz j) (fun k => ⟨rfl, rfl, rfl, rfl, rfl⟩) (fun k => ⟨rfl, rfl, rfl, rfl, rfl⟩) (fun k => rfl) (fun k => rfl) rfl rfl rfl rfl rfl (congrArg (tN τ 5 + ·) (clN hzz)) (fun i => u2_at _ _ _ _ _) (fun i => u2_at _ _ _ _ _) (fun i => u2_at _ _ _ _ _) (fun i => u2_at _ _ _ _ _) (fun i => u2_at _ _ _ _ _) (fun i => u2_at _ _ _ _ _) (fun i => u2_at _ _ _ _ _) (fun i j => rfl) (fun k => ⟨rfl, rfl, rfl, rfl, rfl⟩) (fun k => ⟨rfl, rfl, rfl, rfl, rfl⟩) (fun k => rfl) (fun k => rfl))
              · refine c10_section_s R9 hS1 hM1 (kd := k) (by omega) (zz := zz) hzz rfl rfl rfl rfl ?_
                exact c10_section_e R9 hS1 hM1 c2 c13 rfl rfl rfl (fun G RL => by
                  refine qs _ _ (by rw [f_section, if_neg (Classical.not_not.mpr ⟨i10a, by omega⟩), if_neg (Classical.not_not.mpr ⟨⟨i25a, i25b⟩, ⟨i37a, i37b⟩, ⟨i50a, i50b⟩⟩), if_neg (fun e => e.elim h65 (by omega))]) _ _ RL ((mfr.told s).I.I.I.I.I.I.I.I.fill.X.X) ?_ ⟨rfl, rfl, rfl, rfl⟩
                  exact MR_sec (o := o) (k := k) (a := a) (sd := sd) (zz := zz) (p := fl) (q := 0) hT0 hV (by omega) (by omega) g1 g2 (Or.inr ⟨hk3, rfl⟩) (rm_X (rm_X (m_fill_F (m_sec_F hM)) rfl) rfl) rfl rfl rfl rfl rfl rfl rfl (fun i => w3_at _ _ _ _ _ _) (fun i => w3_at _ _ _ _ _ _) (fun i => w3_at _ _ _ _ _ _) (fun i => w3_at _ _ _ _ _ _) (fun i => w3_at _ _ _ _ _ _) (fun i => w3_at _ _ _ _ _ _) (fun i => w3_at _ _ _ _ _ _) (fun i => w3_at _ _ _ _ _ _) (fun j => a11q 0 j) (fun k => ⟨rfl, rfl, rfl, rfl, rfl⟩) (fun k => ⟨rfl, rfl, rfl, rfl, rfl⟩) (fun k => rfl) (fun k => rfl) rfl rfl rfl rfl rfl (congrArg (tN τ 5 + ·) (clN hzz)) (fun i => u2_at _ _ _ _ _) (fun i => u2_at _ _ _ _ _) (fun i => u2_at _ _ _ _ _) (fun i => u2_at _ _ _ _ _) (fun i => u2_at _ _ _ _ _) (fun i => u2_at _ _ _ _ _) (fun i => u2_at _ _ _ _ _) (fun i j => rfl) (fun k => ⟨rfl, rfl, rfl, rfl, rfl⟩) (fun k => ⟨rfl, rfl, rfl, rfl, rfl⟩) (fun k => rfl) (fun k => rfl))
            ·
              refine w_bipush (v := (-104)) dX10_section_79 (by decide) ?_
              exact w_iret dX10_section_81 rfl rfl (qn _ (by rw [f_section, if_neg (Classical.not_not.mpr ⟨i10a, by omega⟩), if_neg (Classical.not_not.mpr ⟨⟨i25a, i25b⟩, ⟨i37a, i37b⟩, ⟨i50a, i50b⟩⟩), if_pos (Or.inr (by omega))]))
        ·
          refine w_if_ne (t := 59) dX10_section_53 rfl (fun h => absurd h (by decide)) (fun _ => ?_)
          refine w_bipush (v := (-102)) dX10_section_56 (by decide) ?_
          exact w_iret dX10_section_58 rfl rfl (qn _ (by rw [f_section, if_neg (Classical.not_not.mpr ⟨i10a, by omega⟩), if_pos (fun e => i50 e.2.2.1 e.2.2.2)]))
      ·
        refine w_if_eq (t := 56) dX10_section_40 rfl (fun _ => ?_) (fun h => absurd (by decide) h)
        refine w_bipush (v := (-102)) dX10_section_56 (by decide) ?_
        exact w_iret dX10_section_58 rfl rfl (qn _ (by rw [f_section, if_neg (Classical.not_not.mpr ⟨i10a, by omega⟩), if_pos (fun e => i37 e.2.1.1 e.2.1.2)]))
    ·
      refine w_if_eq (t := 56) dX10_section_28 rfl (fun _ => ?_) (fun h => absurd (by decide) h)
      refine w_bipush (v := (-102)) dX10_section_56 (by decide) ?_
      exact w_iret dX10_section_58 rfl rfl (qn _ (by rw [f_section, if_neg (Classical.not_not.mpr ⟨i10a, by omega⟩), if_pos (fun e => i25 e.1.1 e.1.2)]))
  ·
    refine w_if_ne (t := 19) dX10_section_13 rfl (fun h => absurd h (by decide)) (fun _ => ?_)
    refine w_bipush (v := (-101)) dX10_section_16 (by decide) ?_
    exact w_iret dX10_section_18 rfl rfl (qn _ (by rw [f_section, if_pos (fun e => i10 e.1 (by omega))]))
end
