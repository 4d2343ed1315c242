def vPl (τ : tx_T) (w : Bool) (S : vS) : Prop := ∀ i, (h : i < S.1.length) → plB τ w (S.1[i]).1 = true
/-- what kept relocations lead to is kept -/
def AO (τ : tx_T) : Prop := ∀ k, k < tN τ 3 → kin (kR τ) (cl (tT τ 21 k)) = true → aimI τ (cl (tT τ 24 k)) = 1 → kin (kR τ) (cl (atI τ (cl (tT τ 24 k)))) = true
theorem subL {u : Int64} {p : Nat} (hp : p < 2 ^ 31) (h1 : -4294967296 ≤ u.toInt) (h2 : u.toInt ≤ 4294967296) : (u - lN p).toInt = u.toInt - p := by
  rw [Int64.toInt_sub, lN_toInt hp, Int.bmod_def]; omega
theorem subL2 {u : Int64} {a : Int32} (h1 : -8589934592 ≤ u.toInt) (h2 : u.toInt ≤ 8589934592) : (u - a.toInt64).toInt = u.toInt - a.toInt := by
  rw [Int64.toInt_sub, Int32.toInt_toInt64, Int.bmod_def]
  have := Int32.toInt_lt a
  have := Int32.le_toInt a
  omega
theorem vvI_le {τ : tx_T} (hV : TV τ) {w : Bool} {V : List (Nat × Nat)} (hv : ∀ x, nvN V x ≤ 200) {k : Nat} (hk : k < tN τ 3) : -2147483648 ≤ vvI τ w V k ∧ vvI τ w V k ≤ 4200000000 := by
  have hy := (hV.2.2.2.1 k hk).2.2.2.1
  have hc := clI hy.1
  have h1 := va_le hV (w := w) hv (y := cl (tT τ 24 k)) (by omega)
  have := Int32.toInt_lt (tT τ 25 k)
  have := Int32.le_toInt (tT τ 25 k)
  unfold vvI
  omega
theorem vPl_need {τ : tx_T} {w : Bool} {S : vS} (h : vPl τ w S) {x k : Nat} (hx : plB τ w x = true) : vPl τ w (vneed τ S x k) := by
  unfold vneed
  cases e : fst1 (vmB τ S.1 x k) S.1.length with
  | some j => exact h
  | none =>
    intro i hi
    simp only [List.length_append, List.length_cons, List.length_nil] at hi
    by_cases e2 : i < S.1.length
    · simp only [List.getElem_append_left e2]; exact h i e2
    · obtain rfl : i = S.1.length := by omega
      simp only [List.getElem_concat_length]; exact hx
theorem vPl_stp {τ : tx_T} {w : Bool} {V : List (Nat × Nat)} {S : vS} (h : vPl τ w S) {x k : Nat} : vPl τ w (vstp τ w V x S k) := by
  unfold vstp
  cases e : (tT τ 21 k == nI x) && plB τ w x && (tT τ 23 k == 3) && (S.2 k).isNone && farB τ w V x k
  · exact h
  · simp only [Bool.and_eq_true] at e
    exact vPl_need h e.1.1.1.2
theorem vstp_f {τ : tx_T} {w : Bool} {V : List (Nat × Nat)} {S : vS} {x k : Nat} (h : ¬ tT τ 21 k = nI x ∨ plB τ w x = false ∨ ¬ tT τ 23 k = 3 ∨ ¬ S.2 k = none ∨ farB τ w V x k = false) : vstp τ w V x S k = S := by
  have e : ((tT τ 21 k == nI x) && plB τ w x && (tT τ 23 k == 3) && (S.2 k).isNone && farB τ w V x k) = false := by
    rcases h with h | h | h | h | h
    · simp [h]
    · simp [h]
    · simp [h]
    · cases e : S.2 k with
      | none => exact absurd e h
      | some j => simp
    · simp [h]
  unfold vstp; rw [e]; rfl
theorem vstp_t {τ : tx_T} {w : Bool} {V : List (Nat × Nat)} {S : vS} {x k : Nat} (h1 : tT τ 21 k = nI x) (h2 : plB τ w x = true) (h3 : tT τ 23 k = 3) (h4 : S.2 k = none) (h5 : farB τ w V x k = true) : vstp τ w V x S k = vneed τ S x k := by
  unfold vstp; rw [h1, h2, h3, h4, h5]; simp
theorem pl_kin {τ : tx_T} {w : Bool} {x : Nat} (h : plB τ w x = true) : kin (kR τ) x = true := by
  unfold plB at h; rw [Bool.and_eq_true] at h; exact h.1
theorem vmB_eq {τ : tx_T} {W : List (Nat × Nat)} {x k i : Nat} (h : i < W.length) : vmB τ W x k i = (Nat.beq (W[i]).1 x && (tT τ 25 (W[i]).2 == tT τ 25 k) && saB τ (cl (tT τ 24 (W[i]).2)) (cl (tT τ 24 k))) := by
  unfold vmB; rw [List.getElem?_eq_getElem h]
section
variable {b0 mi z1 z2 : Nat} {E : Nat → Nat} {O : Nat → Option mx_C} {s : rx_S} {G : mx_H} {Q : mx_O → mx_H → Prop}
theorem c10_veneerAll_w {s0 : rx_S} (hS0 : rx_in s0) {τ : tx_T} (hV : TV τ) {w : Bool} {V : List (Nat × Nat)} {tm : Nat} {S : vS} (hvv : vV τ S) {x k : Nat} (hx : x < tN τ 1) (hk : k < tN τ 3) {v : Int32}  : ∀ (d : Nat) (i : Nat) (L : mx_L) (s : rx_S) (G : mx_H), S.1.length - i < d → rx_R b0 O z1 z2 s G → i ≤ S.1.length → mfk s0 s → NF s τ w → PL s τ w V → rX s 0 0 49 = .inl (.int (nI tm)) → (rX s 0 0 50 = .inl (.int (nI S.1.length)) ∧ (∀ i, (h : i < S.1.length) → rI s 1 51 i = nI (S.1[i]).1 ∧ rI s 1 52 i = nI (S.1[i]).2) ∧ ∀ j, j < 200 → j ≠ k → rI s 1 53 j = oI (S.2 j)) → rI s 1 53 k = oI (fst1 (vmB τ S.1 x k) i) → L 0 = some (.ref (rA s 0 0)) → L 1 = some (.int v) → L 2 = some (.int (nI x)) → L 3 = some (.int (nI k)) → L 5 = some (.int (nI i)) → (∀ (L : mx_L) (s : rx_S) (G : mx_H), rx_R b0 O z1 z2 s G → mfk s0 s → NF s τ w → PL s τ w V → rX s 0 0 49 = .inl (.int (nI tm)) → (rX s 0 0 50 = .inl (.int (nI S.1.length)) ∧ (∀ i, (h : i < S.1.length) → rI s 1 51 i = nI (S.1[i]).1 ∧ rI s 1 52 i = nI (S.1[i]).2) ∧ ∀ j, j < 200 → j ≠ k → rI s 1 53 j = oI (S.2 j)) → rI s 1 53 k = oI (fst1 (vmB τ S.1 x k) S.1.length) → L 0 = some (.ref (rA s 0 0)) → L 1 = some (.int v) → L 2 = some (.int (nI x)) → L 3 = some (.int (nI k)) → mx_W (gt_P b0 mi E) mX10_veneerAll 237 L [] G Q) → mx_W (gt_P b0 mi E) mX10_veneerAll 144 L [] G Q := by
  intro d
  induction d with
  | zero => intro i L s G hd; exact absurd hd (Nat.not_lt_zero _)
  | succ d ih =>
    intro i L s G hd R hi hf hF hP ht hW hc h0 h1 h2 h3 h5 kx
    obtain ⟨hK, hI⟩ := id hF
    obtain ⟨hN, hKQ, hKV⟩ := id hK
    obtain ⟨hT, hL, hD, hA⟩ := id hN
    obtain ⟨hM, ⟨c1, c2, c13, c14, c20, c26⟩, hsec, hby, hsy, hre, hro, hba⟩ := id hT
    have hV0 := hV.1
    have hS : rx_in s := hf.inn hS0
    have hsl0 := vV_len hvv
    refine w_iload dX10_veneerAll_144 h5 ?_
    refine w_aload_n dX10_veneerAll_146 h0 ?_
    refine r_geti  dX10_veneerAll_147 ft_9_227 R rfl (hS _ _ rfl) rfl (lb rfl) hW.1 ?_
    refine r_icmp_gen (t := 237) dX10_veneerAll_150 rfl (by omega) (by omega) (fun h150 => ?_) (fun h150 => ?_)
    ·
      obtain rfl : i = S.1.length := by omega
      exact kx _ _ _ R hf hF hP ht hW hc h0 h1 h2 h3
    ·
      refine w_aload_n dX10_veneerAll_153 h0 ?_
      refine r_getr  dX10_veneerAll_154 ft_9_136 R rfl (hS _ _ rfl) rfl (lb rfl) (hM.1 53 (lb rfl) (lb rfl)) ?_
      refine w_iload_n dX10_veneerAll_157 h3 ?_
      refine r_iald  dX10_veneerAll_158 R rfl (hS _ _ rfl) rfl rfl (by omega) (lb rfl) hc ?_
      refine w_iconst (v := (-1)) dX10_veneerAll_159 (by decide) ?_
      refine r_icmp_neP (t := 237) dX10_veneerAll_160 rfl (fun h160 => ?_) (fun h160 => ?_)
      ·
        have hc2 : fst1 (vmB τ S.1 x k) S.1.length = fst1 (vmB τ S.1 x k) i := by
          cases e : fst1 (vmB τ S.1 x k) i with
          | none => exact absurd (by rw [e]; rfl) h160
          | some j =>
            have := fst1_some.mp e
            exact fst1_some.mpr ⟨by omega, this.2⟩
        exact kx _ _ _ R hf hF hP ht hW (by rw [hc2]; exact hc) h0 h1 h2 h3
      ·
        have hsl := vV_len hvv
        obtain ⟨v1, v2, v3, v4⟩ := hvv.1 i (by omega)
        obtain ⟨g1, g2⟩ := hW.2.1 i (by omega)
        have hn : fst1 (vmB τ S.1 x k) i = none := (oI_none (fun j hj => by have := fst_lt hj; omega)).mp h160
        have hya := (hV.2.2.2.1 (S.1[i]).2 v2).2.2.2.1
        obtain ⟨ya, ya1, ya2⟩ := nI_ofI hya.1
        have yal : ya < tN τ 2 := by have := hya.2; rw [ya2, nI_toInt ya1] at this; omega
        have hyb := (hV.2.2.2.1 k hk).2.2.2.1
        obtain ⟨yb, yb1, yb2⟩ := nI_ofI hyb.1
        have ybl : yb < tN τ 2 := by have := hyb.2; rw [yb2, nI_toInt yb1] at this; omega
        refine w_aload_n dX10_veneerAll_163 h0 ?_
        refine r_getr  dX10_veneerAll_164 ft_9_133 R rfl (hS _ _ rfl) rfl (lb rfl) (hM.1 52 (lb rfl) (lb rfl)) ?_
        refine w_iload dX10_veneerAll_167 h5 ?_
        refine r_iald  dX10_veneerAll_169 R rfl (hS _ _ rfl) rfl rfl (by omega) (lb rfl) g2 ?_
        refine w_istore dX10_veneerAll_170 (lb rfl) ?_
        refine w_aload_n dX10_veneerAll_172 h0 ?_
        refine r_getr  dX10_veneerAll_173 ft_9_136 R rfl (hS _ _ rfl) rfl (lb rfl) (hM.1 53 (lb rfl) (lb rfl)) ?_
        refine w_iload_n dX10_veneerAll_176 h3 ?_
        refine w_aload_n dX10_veneerAll_177 h0 ?_
        refine r_getr  dX10_veneerAll_178 ft_9_130 R rfl (hS _ _ rfl) rfl (lb rfl) (hM.1 51 (lb rfl) (lb rfl)) ?_
        refine w_iload dX10_veneerAll_181 h5 ?_
        refine r_iald  dX10_veneerAll_183 R rfl (hS _ _ rfl) rfl rfl (by omega) (lb rfl) g1 ?_
        refine w_iload_n dX10_veneerAll_184 h2 ?_
        refine r_icmp_neP (t := 229) dX10_veneerAll_185 rfl (fun h185 => ?_) (fun h185 => ?_)
        ·
          refine w_iconst (v := (-1)) dX10_veneerAll_229 (by decide) ?_
          refine r_iast  dX10_veneerAll_230 R rfl (hS _ _ rfl) rfl rfl (by omega) (lb rfl) (fun G1 R1 => ?_)
          refine w_iinc dX10_veneerAll_231 h5 (nI_1 _) (lb rfl) ?_
          refine w_goto (t := 144) dX10_veneerAll_234 rfl ?_
          have em : vmB τ S.1 x k i = false := by
            rw [vmB_eq (by omega)]
            have : Nat.beq (S.1[i]).1 x = false := by
              cases e : Nat.beq (S.1[i]).1 x
              · rfl
              · exact absurd (by rw [Nat.eq_of_beq_eq_true e]) h185
            rw [this]; rfl
          exact ih (i + 1) _ _ _ (by omega) R1 (by omega) hf.I (NF_I hF (by omega)) hP ht ⟨hW.1, fun j hj => ⟨(sI_p (by decide)).trans (hW.2.1 j hj).1, (sI_p (by decide)).trans (hW.2.1 j hj).2⟩, fun j hj hjk => (sI_at.trans (if_neg hjk)).trans (hW.2.2 j hj hjk)⟩ ((sI_at.trans (if_pos rfl)).trans (by rw [fst1_f em, hn]; rfl)) h0 h1 h2 h3 rfl kx
        ·
          refine w_aload_n dX10_veneerAll_188 h0 ?_
          refine r_getr  dX10_veneerAll_189 ft_9_70 R rfl (hS _ _ rfl) rfl (lb rfl) (hM.1 25 (lb rfl) (lb rfl)) ?_
          refine w_iload dX10_veneerAll_192 rfl ?_
          refine r_iald  dX10_veneerAll_194 R rfl (hS _ _ rfl) rfl rfl (by omega) (lb rfl) (hre (S.1[i]).2 v2).2.2.2.2 ?_
          refine w_aload_n dX10_veneerAll_195 h0 ?_
          refine r_getr  dX10_veneerAll_196 ft_9_70 R rfl (hS _ _ rfl) rfl (lb rfl) (hM.1 25 (lb rfl) (lb rfl)) ?_
          refine w_iload_n dX10_veneerAll_199 h3 ?_
          refine r_iald  dX10_veneerAll_200 R rfl (hS _ _ rfl) rfl rfl (by omega) (lb rfl) (hre k hk).2.2.2.2 ?_
          refine r_icmp_neP (t := 229) dX10_veneerAll_201 rfl (fun h201 => ?_) (fun h201 => ?_)
          ·
            refine w_iconst (v := (-1)) dX10_veneerAll_229 (by decide) ?_
            refine r_iast  dX10_veneerAll_230 R rfl (hS _ _ rfl) rfl rfl (by omega) (lb rfl) (fun G2 R2 => ?_)
            refine w_iinc dX10_veneerAll_231 h5 (nI_1 _) (lb rfl) ?_
            refine w_goto (t := 144) dX10_veneerAll_234 rfl ?_
            have em : vmB τ S.1 x k i = false := by rw [vmB_eq (by omega), beq_eq_false_iff_ne.mpr h201]; simp
            exact ih (i + 1) _ _ _ (by omega) R2 (by omega) hf.I (NF_I hF (by omega)) hP ht ⟨hW.1, fun j hj => ⟨(sI_p (by decide)).trans (hW.2.1 j hj).1, (sI_p (by decide)).trans (hW.2.1 j hj).2⟩, fun j hj hjk => (sI_at.trans (if_neg hjk)).trans (hW.2.2 j hj hjk)⟩ ((sI_at.trans (if_pos rfl)).trans (by rw [fst1_f em, hn]; rfl)) h0 h1 h2 h3 rfl kx
          ·
            refine w_aload_n dX10_veneerAll_204 h0 ?_
            refine w_aload_n dX10_veneerAll_205 h0 ?_
            refine r_getr  dX10_veneerAll_206 ft_9_67 R rfl (hS _ _ rfl) rfl (lb rfl) (hM.1 24 (lb rfl) (lb rfl)) ?_
            refine w_iload dX10_veneerAll_209 rfl ?_
            refine r_iald  dX10_veneerAll_211 R rfl (hS _ _ rfl) rfl rfl (by omega) (lb rfl) ((hre (S.1[i]).2 v2).2.2.2.1.trans ya2) ?_
            refine w_aload_n dX10_veneerAll_212 h0 ?_
            refine r_getr  dX10_veneerAll_213 ft_9_67 R rfl (hS _ _ rfl) rfl (lb rfl) (hM.1 24 (lb rfl) (lb rfl)) ?_
            refine w_iload_n dX10_veneerAll_216 h3 ?_
            refine r_iald  dX10_veneerAll_217 R rfl (hS _ _ rfl) rfl rfl (by omega) (lb rfl) ((hre k hk).2.2.2.1.trans yb2) ?_
            refine r_inv2  dX10_veneerAll_218 mt_9_266 R rfl (hS _ _ rfl) rfl (lb rfl) (lb rfl) (lb rfl) (lb rfl) rfl (c10_sameAim R hS hV hF yal ybl (fun hsa => ⟨_, rfl, ?_⟩) (fun hsa => ⟨_, rfl, ?_⟩))
            ·
              refine w_if_eq (t := 229) dX10_veneerAll_221 rfl (fun h => absurd h (by decide)) (fun _ => ?_)
              refine w_iload dX10_veneerAll_224 h5 ?_
              refine w_goto (t := 230) dX10_veneerAll_226 rfl ?_
              refine r_iast  dX10_veneerAll_230 R rfl (hS _ _ rfl) rfl rfl (by omega) (lb rfl) (fun G3 R3 => ?_)
              refine w_iinc dX10_veneerAll_231 h5 (nI_1 _) (lb rfl) ?_
              refine w_goto (t := 144) dX10_veneerAll_234 rfl ?_
              have em : vmB τ S.1 x k i = true := by rw [vmB_eq (by omega), ya2, yb2, clN ya1, clN yb1, hsa, (nI_eq (by omega) (by omega)).mp h185, h201]; simp
              exact ih (i + 1) _ _ _ (by omega) R3 (by omega) hf.I (NF_I hF (by omega)) hP ht ⟨hW.1, fun j hj => ⟨(sI_p (by decide)).trans (hW.2.1 j hj).1, (sI_p (by decide)).trans (hW.2.1 j hj).2⟩, fun j hj hjk => (sI_at.trans (if_neg hjk)).trans (hW.2.2 j hj hjk)⟩ ((sI_at.trans (if_pos rfl)).trans (by rw [fst1_t hn em]; rfl)) h0 h1 h2 h3 rfl kx
            ·
              refine w_if_eq (t := 229) dX10_veneerAll_221 rfl (fun _ => ?_) (fun h => absurd (by decide) h)
              refine w_iconst (v := (-1)) dX10_veneerAll_229 (by decide) ?_
              refine r_iast  dX10_veneerAll_230 R rfl (hS _ _ rfl) rfl rfl (by omega) (lb rfl) (fun G4 R4 => ?_)
              refine w_iinc dX10_veneerAll_231 h5 (nI_1 _) (lb rfl) ?_
              refine w_goto (t := 144) dX10_veneerAll_234 rfl ?_
              have em : vmB τ S.1 x k i = false := by rw [vmB_eq (by omega), ya2, yb2, clN ya1, clN yb1, hsa]; simp
              exact ih (i + 1) _ _ _ (by omega) R4 (by omega) hf.I (NF_I hF (by omega)) hP ht ⟨hW.1, fun j hj => ⟨(sI_p (by decide)).trans (hW.2.1 j hj).1, (sI_p (by decide)).trans (hW.2.1 j hj).2⟩, fun j hj hjk => (sI_at.trans (if_neg hjk)).trans (hW.2.2 j hj hjk)⟩ ((sI_at.trans (if_pos rfl)).trans (by rw [fst1_f em, hn]; rfl)) h0 h1 h2 h3 rfl kx
theorem c10_veneerAll_k {s0 : rx_S} (hS0 : rx_in s0) {τ : tx_T} (hV : TV τ) {w : Bool} (hO : AO τ) {V : List (Nat × Nat)} (hvn : ∀ x, nvN V x ≤ 200) {tm : Nat} {S : vS} (hvv0 : vV τ S) (hvp0 : vPl τ w S) {x : Nat} (hx : x < tN τ 1)  : ∀ (d : Nat) (k : Nat) (v : Int32) (L : mx_L) (s : rx_S) (G : mx_H), tN τ 3 - k < d → rx_R b0 O z1 z2 s G → k ≤ tN τ 3 → mfk s0 s → NF s τ w → PL s τ w V → rX s 0 0 49 = .inl (.int (nI tm)) → VS s (fo (vstp τ w V x) S k) → ((v = 0 ∧ (fo (vstp τ w V x) S k).1.length = V.length) ∨ (v = 1 ∧ V.length < (fo (vstp τ w V x) S k).1.length)) → L 0 = some (.ref (rA s 0 0)) → L 1 = some (.int v) → L 2 = some (.int (nI x)) → L 3 = some (.int (nI k)) → (∀ (v : Int32) (L : mx_L) (s : rx_S) (G : mx_H), rx_R b0 O z1 z2 s G → mfk s0 s → NF s τ w → PL s τ w V → rX s 0 0 49 = .inl (.int (nI tm)) → VS s (vsec τ w V S x) → ((v = 0 ∧ (vsec τ w V S x).1.length = V.length) ∨ (v = 1 ∧ V.length < (vsec τ w V S x).1.length)) → L 0 = some (.ref (rA s 0 0)) → L 1 = some (.int v) → L 2 = some (.int (nI x)) → mx_W (gt_P b0 mi E) mX10_veneerAll 295 L [] G Q) → mx_W (gt_P b0 mi E) mX10_veneerAll 56 L [] G Q := by
  intro d
  induction d with
  | zero => intro k v L s G hd; exact absurd hd (Nat.not_lt_zero _)
  | succ d ih =>
    intro k v L s G hd R hk hf hF hP ht hW hv h0 h1 h2 h3 kx
    have hvv : vV τ (fo (vstp τ w V x) S k) := vV_sec hvv0 hx hk
    have hsl := vV_len hvv
    obtain ⟨hK, hI⟩ := id hF
    obtain ⟨hN, hKQ, hKV⟩ := id hK
    obtain ⟨hT, hL, hD, hA⟩ := id hN
    obtain ⟨hM, ⟨c1, c2, c13, c14, c20, c26⟩, hsec, hby, hsy, hre, hro, hba⟩ := id hT
    have hV0 := hV.1
    have hS : rx_in s := hf.inn hS0
    refine w_iload_n dX10_veneerAll_56 h3 ?_
    refine w_aload_n dX10_veneerAll_57 h0 ?_
    refine r_geti  dX10_veneerAll_58 ft_9_195 R rfl (hS _ _ rfl) rfl (lb rfl) c20 ?_
    refine r_icmp_gen (t := 295) dX10_veneerAll_61 rfl (by omega) (by omega) (fun h61 => ?_) (fun h61 => ?_)
    ·
      obtain rfl : k = tN τ 3 := by omega
      exact kx v _ _ _ R hf hF hP ht hW hv h0 h1 h2
    ·
      refine w_aload_n dX10_veneerAll_64 h0 ?_
      refine r_getr  dX10_veneerAll_65 ft_9_58 R rfl (hS _ _ rfl) rfl (lb rfl) (hM.1 21 (lb rfl) (lb rfl)) ?_
      refine w_iload_n dX10_veneerAll_68 h3 ?_
      refine r_iald  dX10_veneerAll_69 R rfl (hS _ _ rfl) rfl rfl (by omega) (lb rfl) (hre k (by omega)).1 ?_
      refine w_iload_n dX10_veneerAll_70 h2 ?_
      refine r_icmp_neP (t := 133) dX10_veneerAll_71 rfl (fun h71 => ?_) (fun h71 => ?_)
      ·
        refine w_iconst (v := 0) dX10_veneerAll_133 (by decide) ?_
        refine w_istore dX10_veneerAll_134 (lb rfl) ?_
        refine w_iload dX10_veneerAll_136 rfl ?_
        refine w_if_eq (t := 289) dX10_veneerAll_138 rfl (fun _ => ?_) (fun h => absurd (by decide) h)
        refine w_iinc dX10_veneerAll_289 h3 (nI_1 _) (lb rfl) ?_
        refine w_goto (t := 56) dX10_veneerAll_292 rfl ?_
        have est : fo (vstp τ w V x) S (k + 1) = fo (vstp τ w V x) S k := vstp_f (Or.inl h71)
        exact ih (k + 1) v _ _ _ (by omega) R (by omega) hf hF hP ht (by rw [est]; exact hW) (by rw [est]; exact hv) h0 h1 h2 rfl kx
      ·
        refine w_aload_n dX10_veneerAll_74 h0 ?_
        refine w_iload_n dX10_veneerAll_75 h2 ?_
        refine r_inv1  dX10_veneerAll_76 mt_9_235 R rfl (hS _ _ rfl) rfl (lb rfl) (lb rfl) (lb rfl) (lb rfl) rfl (c10_isPlaced R hS hV hF (x := x) (by omega) (fun hpl => ⟨_, rfl, ?_⟩) (fun hpl => ⟨_, rfl, ?_⟩))
        ·
          refine w_if_eq (t := 133) dX10_veneerAll_79 rfl (fun h => absurd h (by decide)) (fun _ => ?_)
          refine w_aload_n dX10_veneerAll_82 h0 ?_
          refine r_getr  dX10_veneerAll_83 ft_9_64 R rfl (hS _ _ rfl) rfl (lb rfl) (hM.1 23 (lb rfl) (lb rfl)) ?_
          refine w_iload_n dX10_veneerAll_86 h3 ?_
          refine r_iald  dX10_veneerAll_87 R rfl (hS _ _ rfl) rfl rfl (by omega) (lb rfl) (hre k (by omega)).2.2.1 ?_
          refine w_iconst (v := 3) dX10_veneerAll_88 (by decide) ?_
          refine r_icmp_neP (t := 133) dX10_veneerAll_89 rfl (fun h89 => ?_) (fun h89 => ?_)
          ·
            refine w_iconst (v := 0) dX10_veneerAll_133 (by decide) ?_
            refine w_istore dX10_veneerAll_134 (lb rfl) ?_
            refine w_iload dX10_veneerAll_136 rfl ?_
            refine w_if_eq (t := 289) dX10_veneerAll_138 rfl (fun _ => ?_) (fun h => absurd (by decide) h)
            refine w_iinc dX10_veneerAll_289 h3 (nI_1 _) (lb rfl) ?_
            refine w_goto (t := 56) dX10_veneerAll_292 rfl ?_
            have est : fo (vstp τ w V x) S (k + 1) = fo (vstp τ w V x) S k := vstp_f (Or.inr (Or.inr (Or.inl h89)))
            exact ih (k + 1) v _ _ _ (by omega) R (by omega) hf hF hP ht (by rw [est]; exact hW) (by rw [est]; exact hv) h0 h1 h2 rfl kx
          ·
            refine w_aload_n dX10_veneerAll_92 h0 ?_
            refine r_getr  dX10_veneerAll_93 ft_9_136 R rfl (hS _ _ rfl) rfl (lb rfl) (hM.1 53 (lb rfl) (lb rfl)) ?_
            refine w_iload_n dX10_veneerAll_96 h3 ?_
            refine r_iald  dX10_veneerAll_97 R rfl (hS _ _ rfl) rfl rfl (by omega) (lb rfl) (hW.2.2 k (by omega)) ?_
            refine w_iconst (v := (-1)) dX10_veneerAll_98 (by decide) ?_
            refine r_icmp_neP (t := 133) dX10_veneerAll_99 rfl (fun h99 => ?_) (fun h99 => ?_)
            ·
              refine w_iconst (v := 0) dX10_veneerAll_133 (by decide) ?_
              refine w_istore dX10_veneerAll_134 (lb rfl) ?_
              refine w_iload dX10_veneerAll_136 rfl ?_
              refine w_if_eq (t := 289) dX10_veneerAll_138 rfl (fun _ => ?_) (fun h => absurd (by decide) h)
              refine w_iinc dX10_veneerAll_289 h3 (nI_1 _) (lb rfl) ?_
              refine w_goto (t := 56) dX10_veneerAll_292 rfl ?_
              have est : fo (vstp τ w V x) S (k + 1) = fo (vstp τ w V x) S k := vstp_f (Or.inr (Or.inr (Or.inr (Or.inl (fun e => h99 (by rw [e]; rfl))))))
              exact ih (k + 1) v _ _ _ (by omega) R (by omega) hf hF hP ht (by rw [est]; exact hW) (by rw [est]; exact hv) h0 h1 h2 rfl kx
            ·
              refine w_aload_n dX10_veneerAll_102 h0 ?_
              refine w_aload_n dX10_veneerAll_103 h0 ?_
              refine w_iload_n dX10_veneerAll_104 h3 ?_
              refine r_inv1  dX10_veneerAll_105 mt_9_259 R rfl (hS _ _ rfl) rfl (lb rfl) (lb rfl) (lb rfl) (lb rfl) rfl (c10_v R hS hV hF hP hvn (k := k) (by omega) (hO k (by omega) (by rw [h71, clN (by omega)]; exact pl_kin hpl)) (fun u hu1 hu2 => ⟨_, rfl, ?_⟩))
              refine w_aload_n dX10_veneerAll_108 h0 ?_
              refine r_getr  dX10_veneerAll_109 ft_9_121 R rfl (hS _ _ rfl) rfl (lb rfl) (hM.1 46 (lb rfl) (lb rfl)) ?_
              refine w_iload_n dX10_veneerAll_112 h2 ?_
              refine r_lald  dX10_veneerAll_113 R rfl (hS _ _ rfl) rfl rfl (by omega) (lb rfl) (hP.1 x hx hpl) ?_
              refine w_lsub dX10_veneerAll_114 ?_
              refine w_aload_n dX10_veneerAll_115 h0 ?_
              refine r_getr  dX10_veneerAll_116 ft_9_61 R rfl (hS _ _ rfl) rfl (lb rfl) (hM.1 22 (lb rfl) (lb rfl)) ?_
              refine w_iload_n dX10_veneerAll_119 h3 ?_
              refine r_iald  dX10_veneerAll_120 R rfl (hS _ _ rfl) rfl rfl (by omega) (lb rfl) (hre k (by omega)).2.1 ?_
              refine w_i2l dX10_veneerAll_121 ?_
              refine w_lsub dX10_veneerAll_122 ?_
              have hvl := vvI_le hV (w := w) hvn (k := k) (by omega)
              have hpo := plN_le hV (w := w) hvn hx
              have hu2b : (u - lN (plN τ w V x)).toInt = vvI τ w V k - plN τ w V x := by rw [subL (by omega) (by omega) (by omega), hu1]
              have hu3 : (u - lN (plN τ w V x) - (tT τ 22 k).toInt64).toInt = vvI τ w V k - plN τ w V x - (tT τ 22 k).toInt := by rw [subL2 (by omega) (by omega), hu2b]
              refine r_inv1  dX10_veneerAll_123 mt_9_262 R rfl (hS _ _ rfl) rfl (lb rfl) (lb rfl) (lb rfl) (lb rfl) rfl (c10_isBranchNear (fun hnear => ⟨_, rfl, ?_⟩) (fun hnear => ⟨_, rfl, ?_⟩))
              ·
                refine w_if_ne (t := 133) dX10_veneerAll_126 rfl (fun _ => ?_) (fun h => absurd (by decide) h)
                refine w_iconst (v := 0) dX10_veneerAll_133 (by decide) ?_
                refine w_istore dX10_veneerAll_134 (lb rfl) ?_
                refine w_iload dX10_veneerAll_136 rfl ?_
                refine w_if_eq (t := 289) dX10_veneerAll_138 rfl (fun _ => ?_) (fun h => absurd (by decide) h)
                refine w_iinc dX10_veneerAll_289 h3 (nI_1 _) (lb rfl) ?_
                refine w_goto (t := 56) dX10_veneerAll_292 rfl ?_
                have est : fo (vstp τ w V x) S (k + 1) = fo (vstp τ w V x) S k := vstp_f (Or.inr (Or.inr (Or.inr (Or.inr (by unfold farB; rw [decide_eq_true (by rw [← hu3]; exact hnear)]; rfl)))))
                exact ih (k + 1) v _ _ _ (by omega) R (by omega) hf hF hP ht (by rw [est]; exact hW) (by rw [est]; exact hv) h0 h1 h2 rfl kx
              ·
                refine w_if_ne (t := 133) dX10_veneerAll_126 rfl (fun h => absurd h (by decide)) (fun _ => ?_)
                refine w_iconst (v := 1) dX10_veneerAll_129 (by decide) ?_
                refine w_goto (t := 134) dX10_veneerAll_130 rfl ?_
                have hfar : farB τ w V x k = true := by unfold farB; rw [decide_eq_false (by rw [← hu3]; exact hnear)]; rfl
                refine w_istore dX10_veneerAll_134 (lb rfl) ?_
                refine w_iload dX10_veneerAll_136 rfl ?_
                refine w_if_eq (t := 289) dX10_veneerAll_138 rfl (fun h => absurd h (by decide)) (fun _ => ?_)
                refine w_iconst (v := 0) dX10_veneerAll_141 (by decide) ?_
                refine w_istore dX10_veneerAll_142 (lb rfl) ?_
                have hnone : (fo (vstp τ w V x) S k).2 k = none := (oI_none (fun j hj => by have := (hvv.2.1 k j hj).1; omega)).mp h99
                have est : fo (vstp τ w V x) S (k + 1) = vneed τ (fo (vstp τ w V x) S k) x k := vstp_t h71 hpl h89 hnone hfar
                refine c10_veneerAll_w hS0 hV hvv hx (k := k) (by omega) ((fo (vstp τ w V x) S k).1.length + 1) 0 _ _ _ (by omega) R (by omega) hf hF hP ht ⟨hW.1, hW.2.1, fun j hj _ => hW.2.2 j hj⟩ ((hW.2.2 k (by omega)).trans (by rw [hnone]; rfl)) h0 h1 h2 h3 rfl (fun L s G R hf hF hP ht hW hc h0 h1 h2 h3 => ?_)
                have hS : rx_in s := hf.inn hS0
                have hM := hF.1.1.1.1
                generalize hS1 : fo (vstp τ w V x) S k = S1 at *
                refine w_aload_n dX10_veneerAll_237 h0 ?_
                refine r_getr  dX10_veneerAll_238 ft_9_136 R rfl (hS _ _ rfl) rfl (lb rfl) (hM.1 53 (lb rfl) (lb rfl)) ?_
                refine w_iload_n dX10_veneerAll_241 h3 ?_
                refine r_iald  dX10_veneerAll_242 R rfl (hS _ _ rfl) rfl rfl (by omega) (lb rfl) hc ?_
                refine w_iconst (v := (-1)) dX10_veneerAll_243 (by decide) ?_
                refine r_icmp_neP (t := 289) dX10_veneerAll_244 rfl (fun h244 => ?_) (fun h244 => ?_)
                ·
                  refine w_iinc dX10_veneerAll_289 h3 (nI_1 _) (lb rfl) ?_
                  refine w_goto (t := 56) dX10_veneerAll_292 rfl ?_
                  obtain ⟨j, hj⟩ : ∃ j, fst1 (vmB τ S1.1 x k) S1.1.length = some j := by
                    cases e : fst1 (vmB τ S1.1 x k) S1.1.length with
                    | none => exact absurd (by rw [e]; rfl) h244
                    | some j => exact ⟨j, rfl⟩
                  have ene : vneed τ S1 x k = (S1.1, fun a => if a = k then some j else S1.2 a) := by unfold vneed; rw [hj]
                  have est2 : fo (vstp τ w V x) S (k + 1) = (S1.1, fun a => if a = k then some j else S1.2 a) := est.trans ene
                  exact ih (k + 1) v _ _ _ (by omega) R (by omega) hf hF hP ht (by rw [est2]; exact ⟨hW.1, hW.2.1, fun a ha => by
                    show _ = oI (if a = k then some j else S1.2 a)
                    by_cases e : a = k
                    · rw [if_pos e, e, ← hj]; exact hc
                    · rw [if_neg e]; exact hW.2.2 a ha e⟩) (by rw [est2]; exact hv) h0 h1 h2 rfl kx
                ·
                  have hj : fst1 (vmB τ S1.1 x k) S1.1.length = none := (oI_none (fun j hj => by have := fst_lt hj; omega)).mp h244
                  have ene : vneed τ S1 x k = (S1.1 ++ [(x, k)], fun a => if a = k then some S1.1.length else S1.2 a) := by unfold vneed; rw [hj]
                  have hl2 : S1.1.length + 1 ≤ tN τ 3 := by
                    have := vV_len (vV_need hvv hx (by omega) h71 hnone)
                    rw [ene] at this
                    simpa using this
                  refine w_aload_n dX10_veneerAll_247 h0 ?_
                  refine r_getr  dX10_veneerAll_248 ft_9_130 R rfl (hS _ _ rfl) rfl (lb rfl) (hM.1 51 (lb rfl) (lb rfl)) ?_
                  refine w_aload_n dX10_veneerAll_251 h0 ?_
                  refine r_geti  dX10_veneerAll_252 ft_9_227 R rfl (hS _ _ rfl) rfl (lb rfl) hW.1 ?_
                  refine w_iload_n dX10_veneerAll_255 h2 ?_
                  refine r_iast  dX10_veneerAll_256 R rfl (hS _ _ rfl) rfl rfl (by omega) (lb rfl) (fun G1 R1 => ?_)
                  refine w_aload_n dX10_veneerAll_257 h0 ?_
                  refine r_getr  dX10_veneerAll_258 ft_9_133 R1 rfl (hS _ _ rfl) rfl (lb rfl) (hM.1 52 (lb rfl) (lb rfl)) ?_
                  refine w_aload_n dX10_veneerAll_261 h0 ?_
                  refine r_geti  dX10_veneerAll_262 ft_9_227 R1 rfl (hS _ _ rfl) rfl (lb rfl) hW.1 ?_
                  refine w_iload_n dX10_veneerAll_265 h3 ?_
                  refine r_iast  dX10_veneerAll_266 R1 rfl (hS _ _ rfl) rfl rfl (by omega) (lb rfl) (fun G2 R2 => ?_)
                  refine w_aload_n dX10_veneerAll_267 h0 ?_
                  refine r_getr  dX10_veneerAll_268 ft_9_136 R2 rfl (hS _ _ rfl) rfl (lb rfl) (hM.1 53 (lb rfl) (lb rfl)) ?_
                  refine w_iload_n dX10_veneerAll_271 h3 ?_
                  refine w_aload_n dX10_veneerAll_272 h0 ?_
                  refine r_geti  dX10_veneerAll_273 ft_9_227 R2 rfl (hS _ _ rfl) rfl (lb rfl) hW.1 ?_
                  refine r_iast  dX10_veneerAll_276 R2 rfl (hS _ _ rfl) rfl rfl (by omega) (lb rfl) (fun G3 R3 => ?_)
                  refine w_aload_n dX10_veneerAll_277 h0 ?_
                  refine w_dup dX10_veneerAll_278 rfl ?_
                  refine r_geti  dX10_veneerAll_279 ft_9_227 R3 rfl (hS _ _ rfl) rfl (lb rfl) hW.1 ?_
                  refine w_iconst (v := 1) dX10_veneerAll_282 (by decide) ?_
                  refine w_iadd dX10_veneerAll_283 ?_
                  rw [nI_1]
                  refine r_puti  dX10_veneerAll_284 ft_9_227 R3 rfl (hS _ _ rfl) rfl (lb rfl) (fun h => by cases h) rfl rfl (fun G4 R4 => ?_)
                  refine w_iconst (v := 1) dX10_veneerAll_287 (by decide) ?_
                  refine w_istore_n dX10_veneerAll_288 (lb rfl) ?_
                  refine w_iinc dX10_veneerAll_289 h3 (nI_1 _) (lb rfl) ?_
                  refine w_goto (t := 56) dX10_veneerAll_292 rfl ?_
                  have est2 : fo (vstp τ w V x) S (k + 1) = (S1.1 ++ [(x, k)], fun a => if a = k then some S1.1.length else S1.2 a) := est.trans ene
                  refine ih (k + 1) 1 _ _ _ (by omega) R4 (by omega) hf.I.I.I.X (NF_X (NF_I (NF_I (NF_I hF (by omega)) (by omega)) (by omega)) (by omega) (by omega) rfl) hP ((sX_p (by decide)).trans ht) ?_ ?_ h0 rfl h2 rfl kx
                  · rw [est2]
                    refine ⟨by rw [sX_s]; simp, fun i hi => ?_, fun a ha => ?_⟩
                    · have hi' : i < S1.1.length + 1 := by simpa using hi
                      refine ⟨(sI_p (by decide)).trans ((sI_p (by decide)).trans (sI_at.trans ?_)), (sI_p (by decide)).trans (sI_at.trans ?_)⟩
                      · by_cases e : i = S1.1.length
                        · subst e; rw [if_pos rfl]; simp
                        · rw [if_neg e, (hW.2.1 i (by omega)).1]; simp only [List.getElem_append_left (show i < S1.1.length by omega)]
                      · by_cases e : i = S1.1.length
                        · subst e; rw [if_pos rfl]; simp
                        · rw [if_neg e, sI_p (by decide), (hW.2.1 i (by omega)).2]; simp only [List.getElem_append_left (show i < S1.1.length by omega)]
                    · show _ = oI (if a = k then some S1.1.length else S1.2 a)
                      refine sI_at.trans ?_
                      by_cases e : a = k
                      · rw [if_pos e, if_pos e]; rfl
                      · rw [if_neg e, if_neg e, sI_p (by decide), sI_p (by decide)]; exact hW.2.2 a ha e
                  · rw [est2]
                    refine Or.inr ⟨rfl, ?_⟩
                    simp only [List.length_append, List.length_cons, List.length_nil]
                    rcases hv with q | q <;> omega
        ·
          refine w_if_eq (t := 133) dX10_veneerAll_79 rfl (fun _ => ?_) (fun h => absurd (by decide) h)
          refine w_iconst (v := 0) dX10_veneerAll_133 (by decide) ?_
          refine w_istore dX10_veneerAll_134 (lb rfl) ?_
          refine w_iload dX10_veneerAll_136 rfl ?_
          refine w_if_eq (t := 289) dX10_veneerAll_138 rfl (fun _ => ?_) (fun h => absurd (by decide) h)
          refine w_iinc dX10_veneerAll_289 h3 (nI_1 _) (lb rfl) ?_
          refine w_goto (t := 56) dX10_veneerAll_292 rfl ?_
          have est : fo (vstp τ w V x) S (k + 1) = fo (vstp τ w V x) S k := vstp_f (Or.inr (Or.inl hpl))
          exact ih (k + 1) v _ _ _ (by omega) R (by omega) hf hF hP ht (by rw [est]; exact hW) (by rw [est]; exact hv) h0 h1 h2 rfl kx
end
