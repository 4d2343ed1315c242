/-- folding is known -/
def NF (s : rx_S) (τ : tx_T) (w : Bool) : Prop := NK s τ ∧ ∀ x, x < tN τ 1 → rI s 1 43 x = oI (inO τ w x)
theorem NF_I {s : rx_S} {τ : tx_T} {w : Bool} (h : NF s τ w) {k j : Nat} {v : Int32} (hk : 44 ≤ k) : NF (sI s 1 k j v) τ w := ⟨NK_I h.1 (by omega), fun x hx => (sI_p (by omega)).trans (h.2 x hx)⟩
theorem NF_L {s : rx_S} {τ : tx_T} {w : Bool} (h : NF s τ w) {k j : Nat} {v : Int64} (hk : 44 ≤ k) : NF (sL s 1 k j v) τ w := ⟨NK_L h.1 (by omega), h.2⟩
theorem NF_X {s : rx_S} {τ : tx_T} {w : Bool} (h : NF s τ w) {k : Nat} {v : Int32} (hk : k = 0 ∨ 29 ≤ k) (h3 : k ≠ 39) (h2 : (rx_m k).2 = 0) : NF (sX s 0 0 k (.inl (.int v))) τ w := ⟨NK_X h.1 hk h3 h2, h.2⟩
/-- the veneers -/
def VS (s : rx_S) (S : vS) : Prop := rX s 0 0 50 = .inl (.int (nI S.1.length)) ∧ (∀ i, (h : i < S.1.length) → rI s 1 51 i = nI (S.1[i]).1 ∧ rI s 1 52 i = nI (S.1[i]).2) ∧ ∀ k, k < 200 → rI s 1 53 k = oI (S.2 k)
/-- the places -/
def PL (s : rx_S) (τ : tx_T) (w : Bool) (V : List (Nat × Nat)) : Prop := (∀ x, x < tN τ 1 → plB τ w x = true → rL s 1 46 x = lN (plN τ w V x)) ∧ ∀ k, k < 4 → rL s 1 47 k = lN (bgN τ w V k) ∧ rL s 1 48 k = lN (enN τ w V k)
theorem sh1 {a : Nat} (h : a ≤ 8) : (1 : Int64) <<< ((nI a).toInt64 &&& 63) = lN (2 ^ a) := by
  have h2 : a = 0 ∨ a = 1 ∨ a = 2 ∨ a = 3 ∨ a = 4 ∨ a = 5 ∨ a = 6 ∨ a = 7 ∨ a = 8 := by omega
  rcases h2 with rfl | rfl | rfl | rfl | rfl | rfl | rfl | rfl | rfl <;> decide
theorem upL {p a : Nat} (ha : a ≤ 8) (hp : p < 2 ^ 31) : (lN p + lN (2 ^ a) - 1) / lN (2 ^ a) * lN (2 ^ a) = lN (upN p a) ∧ ¬ lN (2 ^ a) = 0 := by
  have h2 : 1 ≤ 2 ^ a ∧ 2 ^ a ≤ 256 := by
    have h2 : a = 0 ∨ a = 1 ∨ a = 2 ∨ a = 3 ∨ a = 4 ∨ a = 5 ∨ a = 6 ∨ a = 7 ∨ a = 8 := by omega
    rcases h2 with rfl | rfl | rfl | rfl | rfl | rfl | rfl | rfl | rfl <;> decide
  unfold upN
  generalize 2 ^ a = b at h2
  refine ⟨?_, fun e => ?_⟩
  · rw [lN_add, show (1 : Int64) = lN 1 from rfl, lN_sub (by omega)]
    rw [show lN (p + b - 1) / lN b = lN ((p + b - 1) / b) from (Int64.ofNat_div (by omega) (by omega)).symm, lN_mul]
  · have : lN b = lN 0 := e
    rw [lN_eq (by omega) (by omega)] at this; omega
theorem cp_cnt {V : List (Nat × Nat)} {x : Nat} (n : Nat) (h : n < V.length) : (V.take (n + 1)).countP (fun e => Nat.beq e.1 x) = (V.take n).countP (fun e => Nat.beq e.1 x) + (bif Nat.beq (V[n]).1 x then 1 else 0) := by
  rw [List.take_succ_eq_append_getElem h, List.countP_append]
  cases hb : Nat.beq (V[n]).1 x <;> simp [hb]
section
variable {b0 mi z1 z2 : Nat} {E : Nat → Nat} {O : Nat → Option mx_C} {s : rx_S} {G : mx_H} {Q : mx_O → mx_H → Prop}
theorem c10_isPlaced (R : rx_R b0 O z1 z2 s G) (hS : rx_in s) {τ : tx_T} (hV : TV τ) {w : Bool} (hF : NF s τ w) {x : Nat} (hx : x < tN τ 1) (qt : plB τ w x = true → Q (.inl (some (.int 1))) G) (qf : plB τ w x = false → Q (.inl (some (.int 0))) G) : mx_W (gt_P b0 mi E) mX10_isPlaced 0 (mx_en 0 [.ref (rA s 0 0), .int (nI x)]) [] G Q := by
  obtain ⟨hK, hI⟩ := id hF
  obtain ⟨hN, hKQ, hKV⟩ := id hK
  obtain ⟨hT, hL, hD, hA⟩ := id hN
  obtain ⟨hM, ⟨c1, c2, c13, c14, c20, c26⟩, hsec, hby, hsy, hre, hro, hba⟩ := id hT
  have hV0 := hV.1
  refine w_aload_n dX10_isPlaced_0 rfl ?_
  refine r_getr  dX10_isPlaced_1 ft_9_103 R rfl (hS _ _ rfl) rfl (lb rfl) (hM.1 40 (lb rfl) (lb rfl)) ?_
  refine w_iload_n dX10_isPlaced_4 rfl ?_
  refine r_zald  dX10_isPlaced_5 R rfl (hS _ _ rfl) rfl rfl (by omega) (lb rfl) (hKQ.2.2.1 x (by omega)) ?_
  refine w_if_eq (t := 23) dX10_isPlaced_6 rfl (fun h6 => ?_) (fun h6 => ?_)
  ·
    refine w_iconst (v := 0) dX10_isPlaced_23 (by decide) ?_
    exact w_iret dX10_isPlaced_24 rfl rfl (qf (by unfold plB; rw [b32_eq h6]; rfl))
  ·
    refine w_aload_n dX10_isPlaced_9 rfl ?_
    refine r_getr  dX10_isPlaced_10 ft_9_112 R rfl (hS _ _ rfl) rfl (lb rfl) (hM.1 43 (lb rfl) (lb rfl)) ?_
    refine w_iload_n dX10_isPlaced_13 rfl ?_
    refine r_iald  dX10_isPlaced_14 R rfl (hS _ _ rfl) rfl rfl (by omega) (lb rfl) (hI x hx) ?_
    refine w_iconst (v := (-1)) dX10_isPlaced_15 (by decide) ?_
    refine r_icmp_neP (t := 23) dX10_isPlaced_16 rfl (fun h16 => ?_) (fun h16 => ?_)
    ·
      refine w_iconst (v := 0) dX10_isPlaced_23 (by decide) ?_
      refine w_iret dX10_isPlaced_24 rfl rfl ?_
      refine qf ?_
      unfold plB
      cases e : inO τ w x with
      | none => exact absurd (by rw [e]; rfl) h16
      | some j => simp
    ·
      refine w_iconst (v := 1) dX10_isPlaced_19 (by decide) ?_
      refine w_goto (t := 24) dX10_isPlaced_20 rfl ?_
      exact w_iret dX10_isPlaced_24 rfl rfl (qt (by unfold plB; rw [b32_ne h6, (oI_none (fun j hj => by have := fst_lt hj; omega)).mp h16]; rfl))
theorem c10_up {p a : Nat} {u v : Int64} (hu : u = lN p) (hv : v = lN (2 ^ a)) (ha : a ≤ 8) (hp : p < 2 ^ 31) (q : Q (.inl (some (.long (lN (upN p a))))) G) : mx_W (gt_P b0 mi E) mX10_up 0 (mx_en 0 [.long u, .long v]) [] G Q := by
  subst hu
  subst hv
  have h1 := (upL ha hp).1
  have h2 := (upL ha hp).2
  refine w_lload_n dX10_up_0 rfl ?_
  refine w_lload_n dX10_up_1 rfl ?_
  refine w_ladd dX10_up_2 ?_
  refine w_lconst (v := 1) dX10_up_3 (by decide) ?_
  refine w_lsub dX10_up_4 ?_
  refine w_lload_n dX10_up_5 rfl ?_
  refine w_ldiv dX10_up_6 h2 ?_
  refine w_lload_n dX10_up_7 rfl ?_
  refine w_lmul dX10_up_8 ?_
  exact w_lret dX10_up_9 rfl (by rw [h1]; exact q)
theorem c10_veneersOf_l (R : rx_R b0 O z1 z2 s G) (hS : rx_in s) {τ : tx_T} (hV : TV τ) {w : Bool} (hF : NF s τ w) {S : vS} (hW : VS s S) (hl : S.1.length ≤ 200) {x : Nat} (hx : x < tN τ 1) (hvV : ∀ e, e ∈ S.1 → e.1 < tN τ 1)  : ∀ (d : Nat) (n : Nat) (L : mx_L), S.1.length - n < d → n ≤ S.1.length → L 0 = some (.ref (rA s 0 0)) → L 1 = some (.int (nI x)) → L 2 = some (.int (nI ((S.1.take (n)).countP (fun e => Nat.beq e.1 x)))) → L 3 = some (.int (nI n)) → (Q (.inl (some (.int (nI (nvN S.1 x))))) G) → mx_W (gt_P b0 mi E) mX10_veneersOf 4 L [] G Q := by
  obtain ⟨hK, hI⟩ := id hF
  obtain ⟨hN, hKQ, hKV⟩ := id hK
  obtain ⟨hT, hL, hD, hA⟩ := id hN
  obtain ⟨hM, ⟨c1, c2, c13, c14, c20, c26⟩, hsec, hby, hsy, hre, hro, hba⟩ := id hT
  have hV0 := hV.1
  intro d
  induction d with
  | zero => intro n L hd; exact absurd hd (Nat.not_lt_zero _)
  | succ d ih =>
    intro n L hd hn h0 h1 h2 h3 q
    refine w_iload_n dX10_veneersOf_4 h3 ?_
    refine w_aload_n dX10_veneersOf_5 h0 ?_
    refine r_geti  dX10_veneersOf_6 ft_9_227 R rfl (hS _ _ rfl) rfl (lb rfl) hW.1 ?_
    refine r_icmp_gen (t := 36) dX10_veneersOf_9 rfl (by omega) (by omega) (fun h9 => ?_) (fun h9 => ?_)
    ·
      refine w_iload_n dX10_veneersOf_36 h2 ?_
      refine w_iret dX10_veneersOf_37 rfl rfl ?_
      obtain rfl : n = S.1.length := by omega
      rw [List.take_length]; exact q
    ·
      refine w_iload_n dX10_veneersOf_12 h2 ?_
      refine w_aload_n dX10_veneersOf_13 h0 ?_
      refine r_getr  dX10_veneersOf_14 ft_9_130 R rfl (hS _ _ rfl) rfl (lb rfl) (hM.1 51 (lb rfl) (lb rfl)) ?_
      refine w_iload_n dX10_veneersOf_17 h3 ?_
      refine r_iald  dX10_veneersOf_18 R rfl (hS _ _ rfl) rfl rfl (by omega) (lb rfl) (hW.2.1 n (by omega)).1 ?_
      refine w_iload_n dX10_veneersOf_19 h1 ?_
      refine r_icmp_neP (t := 27) dX10_veneersOf_20 rfl (fun h20 => ?_) (fun h20 => ?_)
      ·
        refine w_iconst (v := nI 0) dX10_veneersOf_27 (by decide) ?_
        refine w_iadd dX10_veneersOf_28 ?_
        rw [nI_add]
        refine w_istore_n dX10_veneersOf_29 (lb rfl) ?_
        refine w_iinc dX10_veneersOf_30 h3 (nI_1 _) (lb rfl) ?_
        refine w_goto (t := 4) dX10_veneersOf_33 rfl ?_
        have hb : Nat.beq (S.1[n]).1 x = false := by
          cases e : Nat.beq (S.1[n]).1 x
          · rfl
          · exact absurd (by rw [Nat.eq_of_beq_eq_true e]) h20
        exact ih (n + 1) _ (by omega) (by omega) h0 h1 (by rw [cp_cnt n h9, hb]; rfl) rfl q
      ·
        refine w_iconst (v := nI 1) dX10_veneersOf_23 (by decide) ?_
        refine w_goto (t := 28) dX10_veneersOf_24 rfl ?_
        refine w_iadd dX10_veneersOf_28 ?_
        rw [nI_add]
        refine w_istore_n dX10_veneersOf_29 (lb rfl) ?_
        refine w_iinc dX10_veneersOf_30 h3 (nI_1 _) (lb rfl) ?_
        refine w_goto (t := 4) dX10_veneersOf_33 rfl ?_
        have hb : Nat.beq (S.1[n]).1 x = true := by
          have := hvV (S.1[n]) (List.getElem_mem h9)
          rw [(nI_eq (by omega) (by omega)).mp h20]; simp
        exact ih (n + 1) _ (by omega) (by omega) h0 h1 (by rw [cp_cnt n h9, hb]; rfl) rfl q
theorem c10_veneersOf (R : rx_R b0 O z1 z2 s G) (hS : rx_in s) {τ : tx_T} (hV : TV τ) {w : Bool} (hF : NF s τ w) {S : vS} (hW : VS s S) (hl : S.1.length ≤ 200) {x : Nat} (hx : x < tN τ 1) (hvV : ∀ e, e ∈ S.1 → e.1 < tN τ 1) (q : Q (.inl (some (.int (nI (nvN S.1 x))))) G) : mx_W (gt_P b0 mi E) mX10_veneersOf 0 (mx_en 0 [.ref (rA s 0 0), .int (nI x)]) [] G Q := by
  refine w_iconst (v := 0) dX10_veneersOf_0 (by decide) ?_
  refine w_istore_n dX10_veneersOf_1 (lb rfl) ?_
  refine w_iconst (v := 0) dX10_veneersOf_2 (by decide) ?_
  refine w_istore_n dX10_veneersOf_3 (lb rfl) ?_
  exact c10_veneersOf_l R hS hV hF hW hl hx hvV (S.1.length + 1) 0 _ (by omega) (by omega) rfl rfl rfl rfl q
theorem vV_m {τ : tx_T} {S : vS} (h : vV τ S) : ∀ e, e ∈ S.1 → e.1 < tN τ 1 := fun e he => by
  obtain ⟨i, hi, rfl⟩ := List.getElem_of_mem he
  exact (h.1 i hi).1
theorem vV_n {τ : tx_T} (hV : TV τ) {S : vS} (h : vV τ S) : ∀ x, nvN S.1 x ≤ 200 := fun x => Nat.le_trans (nv_le h x) (by have := hV.1; omega)
noncomputable def prN (τ : tx_T) (w : Bool) (V : List (Nat × Nat)) : Nat → Nat
  | 0 => 4096
  | k + 1 => enN τ w V k
theorem bgN_eq (τ : tx_T) (w : Bool) (V : List (Nat × Nat)) (k : Nat) : bgN τ w V k = if 0 ≤ (tT τ 28 k).toInt then cl (tT τ 28 k) else prN τ w V k := by cases k <;> rfl
theorem rwN_s {τ : tx_T} {w : Bool} {V : List (Nat × Nat)} {k b x : Nat} (h : tT τ 4 x = nI k) (h2 : plB τ w x = true) : rwN τ w V k b (x + 1) = endN τ V x (upN (rwN τ w V k b x) (cl (tT τ 6 x))) := by
  unfold rwN; rw [fo, h, h2]; simp
theorem rwN_f {τ : tx_T} {w : Bool} {V : List (Nat × Nat)} {k b x : Nat} (h : ¬ tT τ 4 x = nI k ∨ plB τ w x = false) : rwN τ w V k b (x + 1) = rwN τ w V k b x := by
  unfold rwN; rw [fo]
  rcases h with h | h
  · rw [beq_eq_false_iff_ne.mpr h]; rfl
  · rw [h]; simp
theorem c10_placeAll_x {s0 : rx_S} (hS0 : rx_in s0) {τ : tx_T} (hV : TV τ) {w : Bool} {S : vS} (hvv : vV τ S) {k tm : Nat} (hk : k < 4)  : ∀ (d : Nat) (x : Nat) (L : mx_L) (s : rx_S) (G : mx_H), tN τ 1 - x < d → rx_R b0 O z1 z2 s G → x ≤ tN τ 1 → mfk s0 s → NF s τ w → VS s S → rX s 0 0 49 = .inl (.int (nI tm)) → (∀ y, y < tN τ 1 → plB τ w y = true → dn (k) (x) (cl (tT τ 4 y)) y → rL s 1 46 y = lN (plN τ w S.1 y)) → (∀ j, j < k + 1 → rL s 1 47 j = lN (bgN τ w S.1 j)) → (∀ j, j < k → rL s 1 48 j = lN (enN τ w S.1 j)) → L 0 = some (.ref (rA s 0 0)) → L 1 = some (.long (lN (rwN τ w S.1 k (bgN τ w S.1 k) (x)))) → L 3 = some (.int (nI k)) → L 4 = some (.int (nI x)) → (∀ (L : mx_L) (s : rx_S) (G : mx_H), rx_R b0 O z1 z2 s G → mfk s0 s → NF s τ w → VS s S → rX s 0 0 49 = .inl (.int (nI tm)) → (∀ y, y < tN τ 1 → plB τ w y = true → dn (k) (tN τ 1) (cl (tT τ 4 y)) y → rL s 1 46 y = lN (plN τ w S.1 y)) → (∀ j, j < k + 1 → rL s 1 47 j = lN (bgN τ w S.1 j)) → (∀ j, j < k → rL s 1 48 j = lN (enN τ w S.1 j)) → L 0 = some (.ref (rA s 0 0)) → L 1 = some (.long (lN (enN τ w S.1 k))) → L 3 = some (.int (nI k)) → mx_W (gt_P b0 mi E) mX10_placeAll 158 L [] G Q) → mx_W (gt_P b0 mi E) mX10_placeAll 53 L [] G Q := by
  intro d
  induction d with
  | zero => intro x L s G hd; exact absurd hd (Nat.not_lt_zero _)
  | succ d ih =>
    intro x L s G hd R hx hf hF hW ht hp hb he h0 h1 h3 h4 kx
    obtain ⟨hK, hI⟩ := id hF
    obtain ⟨hN, hKQ, hKV⟩ := id hK
    obtain ⟨hT, hL, hD, hA⟩ := id hN
    obtain ⟨hM, ⟨c1, c2, c13, c14, c20, c26⟩, hsec, hby, hsy, hre, hro, hba⟩ := id hT
    have hV0 := hV.1
    have hS : rx_in s := hf.inn hS0
    have hsl := vV_len hvv
    refine w_iload dX10_placeAll_53 h4 ?_
    refine w_aload_n dX10_placeAll_55 h0 ?_
    refine r_geti  dX10_placeAll_56 ft_9_165 R rfl (hS _ _ rfl) rfl (lb rfl) c2 ?_
    refine r_icmp_gen (t := 158) dX10_placeAll_59 rfl (by omega) (by omega) (fun h59 => ?_) (fun h59 => ?_)
    ·
      obtain rfl : x = tN τ 1 := by omega
      exact kx _ _ _ R hf hF hW ht hp hb he h0 h1 h3
    ·
      refine w_aload_n dX10_placeAll_62 h0 ?_
      refine r_getr  dX10_placeAll_63 ft_9_17 R rfl (hS _ _ rfl) rfl (lb rfl) (hM.1 4 (lb rfl) (lb rfl)) ?_
      refine w_iload dX10_placeAll_66 h4 ?_
      refine r_iald  dX10_placeAll_68 R rfl (hS _ _ rfl) rfl rfl (by omega) (lb rfl) (hsec x (by omega)).2.1 ?_
      refine w_iload_n dX10_placeAll_69 h3 ?_
      refine r_icmp_neP (t := 152) dX10_placeAll_70 rfl (fun h70 => ?_) (fun h70 => ?_)
      ·
        refine w_iinc dX10_placeAll_152 h4 (nI_1 _) (lb rfl) ?_
        refine w_goto (t := 53) dX10_placeAll_155 rfl ?_
        exact ih (x + 1) _ _ _ (by omega) R (by omega) hf hF hW ht (fun y hy hpy hd => by
          by_cases e : y = x ∧ cl (tT τ 4 y) = k
          · obtain ⟨rfl, e2⟩ := e
            exact absurd (i32e (by rw [nI_toInt (by omega), ← clI (hV.2.1 y hy).2.1.1]; omega)) h70
          · exact hp y hy hpy (by unfold dn at *; omega)) hb he h0 (by rw [rwN_f (Or.inl h70)]; exact h1) h3 rfl kx
      ·
        refine w_aload_n dX10_placeAll_73 h0 ?_
        refine w_iload dX10_placeAll_74 h4 ?_
        refine r_inv1  dX10_placeAll_76 mt_9_235 R rfl (hS _ _ rfl) rfl (lb rfl) (lb rfl) (lb rfl) (lb rfl) rfl (c10_isPlaced R hS hV hF (x := x) (by omega) (fun hpl => ⟨_, rfl, ?_⟩) (fun hpl => ⟨_, rfl, ?_⟩))
        ·
          refine w_if_eq (t := 152) dX10_placeAll_79 rfl (fun h => absurd h (by decide)) (fun _ => ?_)
          have ha := (hV.2.1 x (by omega)).2.2.2.1
          obtain ⟨a, ha1, ha2⟩ := nI_ofI ha.1
          have ha8 : a ≤ 8 := by have := ha.2; rw [ha2, nI_toInt ha1] at this; omega
          have ec6 : cl (tT τ 6 x) = a := by rw [ha2, clN ha1]
          have hz := (hV.2.1 x (by omega)).2.2.1
          obtain ⟨z, hz1, hz2⟩ := nI_ofI hz.1
          have hz9 : z ≤ 20000 := by have := hz.2; rw [hz2, nI_toInt hz1] at this; omega
          have ec5 : cl (tT τ 5 x) = z := by rw [hz2, clN hz1]
          have hbg := bgN_le hV (w := w) (vV_n hV hvv) hk
          have hrw := (rwN_le hV (w := w) (vV_n hV hvv) k (bgN τ w S.1 k) (n := x) (by omega)).1
          have hup := (upN_le (rwN τ w S.1 k (bgN τ w S.1 k) (x)) ha8).1
          have hnv := vV_n hV hvv x
          have plN_eq : plN τ w S.1 x = upN (rwN τ w S.1 k (bgN τ w S.1 k) (x)) a := by
            unfold plN; rw [ec6, show cl (tT τ 4 x) = k by rw [h70, clN (by omega)]]
          refine w_aload_n dX10_placeAll_82 h0 ?_
          refine r_getr  dX10_placeAll_83 ft_9_121 R rfl (hS _ _ rfl) rfl (lb rfl) (hM.1 46 (lb rfl) (lb rfl)) ?_
          refine w_iload dX10_placeAll_86 h4 ?_
          refine w_lload_n dX10_placeAll_88 h1 ?_
          refine w_lconst (v := 1) dX10_placeAll_89 (by decide) ?_
          refine w_aload_n dX10_placeAll_90 h0 ?_
          refine r_getr  dX10_placeAll_91 ft_9_23 R rfl (hS _ _ rfl) rfl (lb rfl) (hM.1 6 (lb rfl) (lb rfl)) ?_
          refine w_iload dX10_placeAll_94 h4 ?_
          refine r_iald  dX10_placeAll_96 R rfl (hS _ _ rfl) rfl rfl (by omega) (lb rfl) ((hsec x (by omega)).2.2.2.1.trans ha2) ?_
          refine w_lshl dX10_placeAll_97 ?_
          rw [sh1 ha8]
          refine r_stat2 dX10_placeAll_98 mt_9_238 (lb rfl) (lb rfl) (lb rfl) (lb rfl) rfl (c10_up rfl rfl ha8 (by omega) ⟨_, rfl, ?_⟩)
          refine r_last  dX10_placeAll_101 R rfl (hS _ _ rfl) rfl rfl (by omega) (lb rfl) (fun G1 R1 => ?_)
          refine w_aload_n dX10_placeAll_102 h0 ?_
          refine r_getr  dX10_placeAll_103 ft_9_121 R1 rfl (hS _ _ rfl) rfl (lb rfl) (hM.1 46 (lb rfl) (lb rfl)) ?_
          refine w_iload dX10_placeAll_106 h4 ?_
          refine r_lald  dX10_placeAll_108 R1 rfl (hS _ _ rfl) rfl rfl (by omega) (lb rfl) (sL_at.trans (if_pos rfl)) ?_
          refine w_aload_n dX10_placeAll_109 h0 ?_
          refine r_getr  dX10_placeAll_110 ft_9_20 R1 rfl (hS _ _ rfl) rfl (lb rfl) (hM.1 5 (lb rfl) (lb rfl)) ?_
          refine w_iload dX10_placeAll_113 h4 ?_
          refine r_iald  dX10_placeAll_115 R1 rfl (hS _ _ rfl) rfl rfl (by omega) (lb rfl) ((hsec x (by omega)).2.2.1.trans hz2) ?_
          refine w_i2l dX10_placeAll_116 ?_
          rw [nI_l (by omega)]
          refine w_ladd dX10_placeAll_117 ?_
          rw [lN_add]
          refine w_lstore_n dX10_placeAll_118 (lb rfl) rfl ?_
          refine w_aload_n dX10_placeAll_119 h0 ?_
          refine w_iload dX10_placeAll_120 h4 ?_
          refine r_inv1  dX10_placeAll_122 mt_9_242 R1 rfl (hS _ _ rfl) rfl (lb rfl) (lb rfl) (lb rfl) (lb rfl) rfl (c10_veneersOf R1 hS hV (NF_L hF (by omega)) hW (by omega) (x := x) (by omega) (vV_m hvv) ⟨_, rfl, ?_⟩)
          refine w_istore dX10_placeAll_125 (lb rfl) ?_
          refine w_iload dX10_placeAll_127 rfl ?_
          refine r_if_lei (t := 150) dX10_placeAll_129 rfl (fun h129 => ?_) (fun h129 => ?_)
          ·
            refine w_lload_n dX10_placeAll_150 rfl ?_
            refine w_lstore_n dX10_placeAll_151 (lb rfl) rfl ?_
            refine w_iinc dX10_placeAll_152 h4 (nI_1 _) (lb rfl) ?_
            refine w_goto (t := 53) dX10_placeAll_155 rfl ?_
            have ez : endN τ S.1 x (upN (rwN τ w S.1 k (bgN τ w S.1 k) (x)) a) = upN (rwN τ w S.1 k (bgN τ w S.1 k) (x)) a + z := by
              unfold endN; rw [ec5]; rw [if_neg (by rw [nI_toInt (by omega)] at h129; omega)]
            exact ih (x + 1) _ _ _ (by omega) R1 (by omega) hf.L (NF_L hF (by omega)) hW ht (fun y hy hpy hd => by
              rw [sL_at]
              by_cases e : y = x
              · subst e; rw [if_pos rfl, plN_eq]
              · rw [if_neg e]; exact hp y hy hpy (by unfold dn at *; omega)) (fun j hj => (sL_p (by decide)).trans (hb j hj)) (fun j hj => (sL_p (by decide)).trans (he j hj)) h0 (by rw [rwN_s h70 hpl, ec6, ez]; rfl) h3 rfl kx
          ·
            refine w_lload_n dX10_placeAll_132 rfl ?_
            refine w_ldc2 dX10_placeAll_133 ct_9_189 ?_
            refine r_stat2 dX10_placeAll_136 mt_9_238 (lb rfl) (lb rfl) (lb rfl) (lb rfl) rfl (c10_up rfl (by decide) (a := 2) (by omega) (by omega) ⟨_, rfl, ?_⟩)
            refine w_ldc2 dX10_placeAll_139 ct_9_163 ?_
            refine w_iload dX10_placeAll_142 rfl ?_
            refine w_i2l dX10_placeAll_144 ?_
            refine w_lmul dX10_placeAll_145 ?_
            rw [nI_l (by omega), show (8 : Int64) = lN 8 from rfl, lN_mul]
            refine w_ladd dX10_placeAll_146 ?_
            rw [lN_add]
            refine w_goto (t := 151) dX10_placeAll_147 rfl ?_
            refine w_lstore_n dX10_placeAll_151 (lb rfl) rfl ?_
            refine w_iinc dX10_placeAll_152 h4 (nI_1 _) (lb rfl) ?_
            refine w_goto (t := 53) dX10_placeAll_155 rfl ?_
            have ez : endN τ S.1 x (upN (rwN τ w S.1 k (bgN τ w S.1 k) (x)) a) = upN (upN (rwN τ w S.1 k (bgN τ w S.1 k) (x)) a + z) 2 + 8 * nvN S.1 x := by
              unfold endN; rw [ec5]; rw [if_pos (by rw [nI_toInt (by omega)] at h129; omega)]
            exact ih (x + 1) _ _ _ (by omega) R1 (by omega) hf.L (NF_L hF (by omega)) hW ht (fun y hy hpy hd => by
              rw [sL_at]
              by_cases e : y = x
              · subst e; rw [if_pos rfl, plN_eq]
              · rw [if_neg e]; exact hp y hy hpy (by unfold dn at *; omega)) (fun j hj => (sL_p (by decide)).trans (hb j hj)) (fun j hj => (sL_p (by decide)).trans (he j hj)) h0 (by rw [rwN_s h70 hpl, ec6, ez]; rfl) h3 rfl kx
        ·
          refine w_if_eq (t := 152) dX10_placeAll_79 rfl (fun _ => ?_) (fun h => absurd (by decide) h)
          refine w_iinc dX10_placeAll_152 h4 (nI_1 _) (lb rfl) ?_
          refine w_goto (t := 53) dX10_placeAll_155 rfl ?_
          exact ih (x + 1) _ _ _ (by omega) R (by omega) hf hF hW ht (fun y hy hpy hd => by
            by_cases e : y = x ∧ cl (tT τ 4 y) = k
            · obtain ⟨rfl, e2⟩ := e
              exact absurd (hpl.symm.trans hpy) (by decide)
            · exact hp y hy hpy (by unfold dn at *; omega)) hb he h0 (by rw [rwN_f (Or.inr hpl)]; exact h1) h3 rfl kx
theorem c10_placeAll_k {s0 : rx_S} (hS0 : rx_in s0) {τ : tx_T} (hV : TV τ) {w : Bool} {S : vS} (hvv : vV τ S) {tm : Nat}  : ∀ (d : Nat) (k : Nat) (L : mx_L) (s : rx_S) (G : mx_H), 4 - k < d → rx_R b0 O z1 z2 s G → k ≤ 4 → mfk s0 s → NF s τ w → VS s S → rX s 0 0 49 = .inl (.int (nI tm)) → (∀ y, y < tN τ 1 → plB τ w y = true → dn (k) (0) (cl (tT τ 4 y)) y → rL s 1 46 y = lN (plN τ w S.1 y)) → (∀ j, j < k → rL s 1 47 j = lN (bgN τ w S.1 j)) → (∀ j, j < k → rL s 1 48 j = lN (enN τ w S.1 j)) → L 0 = some (.ref (rA s 0 0)) → L 1 = some (.long (lN (prN τ w S.1 k))) → L 3 = some (.int (nI k)) → (∀ (s' : rx_S) (G' : mx_H), rx_R b0 O z1 z2 s' G' → mfk s0 s' → NF s' τ w → VS s' S → rX s' 0 0 49 = .inl (.int (nI tm)) → PL s' τ w S.1 → Q (.inl none) G') → mx_W (gt_P b0 mi E) mX10_placeAll 16 L [] G Q := by
  intro d
  induction d with
  | zero => intro k L s G hd; exact absurd hd (Nat.not_lt_zero _)
  | succ d ih =>
    intro k L s G hd R hk hf hF hW ht hp hb he h0 h1 h3 kx
    obtain ⟨hK, hI⟩ := id hF
    obtain ⟨hN, hKQ, hKV⟩ := id hK
    obtain ⟨hT, hL, hD, hA⟩ := id hN
    obtain ⟨hM, ⟨c1, c2, c13, c14, c20, c26⟩, hsec, hby, hsy, hre, hro, hba⟩ := id hT
    have hV0 := hV.1
    have hS : rx_in s := hf.inn hS0
    have hsl := vV_len hvv
    refine w_iload_n dX10_placeAll_16 h3 ?_
    refine w_iconst (v := nI 4) dX10_placeAll_17 (by decide) ?_
    refine r_icmp_gen (t := 171) dX10_placeAll_18 rfl (by omega) (by omega) (fun h18 => ?_) (fun h18 => ?_)
    ·
      refine w_ret dX10_placeAll_171 rfl ?_
      obtain rfl : k = 4 := by omega
      exact kx _ _ R hf hF hW ht ⟨fun x hx hpx => hp x hx hpx (by have h := (hV.2.1 x hx).2.1; have := clI h.1; unfold dn; omega), fun j hj => ⟨hb j hj, he j hj⟩⟩
    ·
      refine w_aload_n dX10_placeAll_21 h0 ?_
      refine r_getr  dX10_placeAll_22 ft_9_78 R rfl (hS _ _ rfl) rfl (lb rfl) (hM.1 28 (lb rfl) (lb rfl)) ?_
      refine w_iload_n dX10_placeAll_25 h3 ?_
      refine r_lald  dX10_placeAll_26 R rfl (hS _ _ rfl) rfl rfl (by omega) (lb rfl) ((hba k (by omega))) ?_
      refine w_lconst (v := 0) dX10_placeAll_27 (by decide) ?_
      refine r_lc_lt (t := 41) dX10_placeAll_28 dX10_placeAll_29 rfl (fun h28 => ?_) (fun h28 => ?_)
      ·
        have h28 : (tT τ 28 k).toInt < 0 := by rw [Int32.toInt_toInt64] at h28; simpa using h28
        refine w_lload_n dX10_placeAll_41 h1 ?_
        refine w_lstore_n dX10_placeAll_42 (lb rfl) rfl ?_
        refine w_aload_n dX10_placeAll_43 h0 ?_
        refine r_getr  dX10_placeAll_44 ft_9_124 R rfl (hS _ _ rfl) rfl (lb rfl) (hM.1 47 (lb rfl) (lb rfl)) ?_
        refine w_iload_n dX10_placeAll_47 h3 ?_
        refine w_lload_n dX10_placeAll_48 rfl ?_
        refine r_last  dX10_placeAll_49 R rfl (hS _ _ rfl) rfl rfl (by omega) (lb rfl) (fun G1 R1 => ?_)
        refine w_iconst (v := 0) dX10_placeAll_50 (by decide) ?_
        refine w_istore dX10_placeAll_51 (lb rfl) ?_
        have eb : bgN τ w S.1 k = prN τ w S.1 k := by rw [bgN_eq, if_neg (by omega)]
        refine c10_placeAll_x hS0 hV hvv (k := k) (tm := tm) (by omega) (tN τ 1 + 1) 0 _ _ _ (by omega) R1 (by omega) hf.L (NF_L hF (by omega)) hW ht (fun y hy hpy hd => (sL_p (by decide)).trans (hp y hy hpy hd)) (fun j hj => ?_) (fun j hj => (sL_p (by decide)).trans (he j hj)) h0 (by show _ = some (Value.long (lN (bgN τ w S.1 k))); rw [eb]; rfl) h3 rfl (fun L s G R hf hF hW ht hp hb he h0 h1 h3 => ?_)
        · rw [sL_at]
          by_cases e : j = k
          · rw [if_pos e, e, eb]
          · rw [if_neg e]; exact hb j (by omega)
        · have hS : rx_in s := hf.inn hS0
          have hM := hF.1.1.1.1
          refine w_aload_n dX10_placeAll_158 h0 ?_
          refine r_getr  dX10_placeAll_159 ft_9_127 R rfl (hS _ _ rfl) rfl (lb rfl) (hM.1 48 (lb rfl) (lb rfl)) ?_
          refine w_iload_n dX10_placeAll_162 h3 ?_
          refine w_lload_n dX10_placeAll_163 h1 ?_
          refine r_last  dX10_placeAll_164 R rfl (hS _ _ rfl) rfl rfl (by omega) (lb rfl) (fun G1 R1 => ?_)
          refine w_iinc dX10_placeAll_165 h3 (nI_1 _) (lb rfl) ?_
          refine w_goto (t := 16) dX10_placeAll_168 rfl ?_
          exact ih (k + 1) _ _ _ (by omega) R1 (by omega) hf.L (NF_L hF (by omega)) hW ht (fun y hy hpy hd => (sL_p (by decide)).trans (hp y hy hpy (by unfold dn at *; omega))) (fun j hj => (sL_p (by decide)).trans (hb j hj)) (fun j hj => by
            rw [sL_at]
            by_cases e : j = k
            · rw [if_pos e, e]
            · rw [if_neg e]; exact he j (by omega)) h0 h1 rfl kx
      ·
        have h28 : 0 ≤ (tT τ 28 k).toInt := by rw [Int32.toInt_toInt64] at h28; simpa using h28
        have hc := clI h28
        have hb9 := (hV.2.2.2.2.2 k (by omega)).2
        have hbv : (tT τ 28 k).toInt64 = lN (cl (tT τ 28 k)) := by
          obtain ⟨z, hz1, hz2⟩ := nI_ofI h28
          rw [hz2, clN hz1, nI_l hz1]
        refine w_aload_n dX10_placeAll_32 h0 ?_
        refine r_getr  dX10_placeAll_33 ft_9_78 R rfl (hS _ _ rfl) rfl (lb rfl) (hM.1 28 (lb rfl) (lb rfl)) ?_
        refine w_iload_n dX10_placeAll_36 h3 ?_
        refine r_lald  dX10_placeAll_37 R rfl (hS _ _ rfl) rfl rfl (by omega) (lb rfl) (hba k (by omega)) ?_
        refine w_goto (t := 42) dX10_placeAll_38 rfl ?_
        refine w_lstore_n dX10_placeAll_42 (lb rfl) rfl ?_
        refine w_aload_n dX10_placeAll_43 h0 ?_
        refine r_getr  dX10_placeAll_44 ft_9_124 R rfl (hS _ _ rfl) rfl (lb rfl) (hM.1 47 (lb rfl) (lb rfl)) ?_
        refine w_iload_n dX10_placeAll_47 h3 ?_
        refine w_lload_n dX10_placeAll_48 rfl ?_
        refine r_last  dX10_placeAll_49 R rfl (hS _ _ rfl) rfl rfl (by omega) (lb rfl) (fun G2 R2 => ?_)
        refine w_iconst (v := 0) dX10_placeAll_50 (by decide) ?_
        refine w_istore dX10_placeAll_51 (lb rfl) ?_
        have eb : bgN τ w S.1 k = cl (tT τ 28 k) := by rw [bgN_eq, if_pos (by omega)]
        refine c10_placeAll_x hS0 hV hvv (k := k) (tm := tm) (by omega) (tN τ 1 + 1) 0 _ _ _ (by omega) R2 (by omega) hf.L (NF_L hF (by omega)) hW ht (fun y hy hpy hd => (sL_p (by decide)).trans (hp y hy hpy hd)) (fun j hj => ?_) (fun j hj => (sL_p (by decide)).trans (he j hj)) h0 (by show _ = some (Value.long (lN (bgN τ w S.1 k))); rw [eb, ← hbv]; rfl) h3 rfl (fun L s G R hf hF hW ht hp hb he h0 h1 h3 => ?_)
        · rw [sL_at]
          by_cases e : j = k
          · rw [if_pos e, e, eb]; exact hbv
          · rw [if_neg e]; exact hb j (by omega)
        · have hS : rx_in s := hf.inn hS0
          have hM := hF.1.1.1.1
          refine w_aload_n dX10_placeAll_158 h0 ?_
          refine r_getr  dX10_placeAll_159 ft_9_127 R rfl (hS _ _ rfl) rfl (lb rfl) (hM.1 48 (lb rfl) (lb rfl)) ?_
          refine w_iload_n dX10_placeAll_162 h3 ?_
          refine w_lload_n dX10_placeAll_163 h1 ?_
          refine r_last  dX10_placeAll_164 R rfl (hS _ _ rfl) rfl rfl (by omega) (lb rfl) (fun G1 R1 => ?_)
          refine w_iinc dX10_placeAll_165 h3 (nI_1 _) (lb rfl) ?_
          refine w_goto (t := 16) dX10_placeAll_168 rfl ?_
          exact ih (k + 1) _ _ _ (by omega) R1 (by omega) hf.L (NF_L hF (by omega)) hW ht (fun y hy hpy hd => (sL_p (by decide)).trans (hp y hy hpy (by unfold dn at *; omega))) (fun j hj => (sL_p (by decide)).trans (hb j hj)) (fun j hj => by
            rw [sL_at]
            by_cases e : j = k
            · rw [if_pos e, e]
            · rw [if_neg e]; exact he j (by omega)) h0 h1 rfl kx
theorem c10_placeAll (R : rx_R b0 O z1 z2 s G) (hS : rx_in s) {τ : tx_T} (hV : TV τ) {w : Bool} (hF : NF s τ w) {S : vS} (hvv : vV τ S) (hW : VS s S) {tm : Nat} (ht : rX s 0 0 49 = .inl (.int (nI tm))) (q : ∀ (s' : rx_S) (G' : mx_H), rx_R b0 O z1 z2 s' G' → mfk s s' → NF s' τ w → VS s' S → rX s' 0 0 49 = .inl (.int (nI (tm + 1))) → PL s' τ w S.1 → Q (.inl none) G') : mx_W (gt_P b0 mi E) mX10_placeAll 0 (mx_en 0 [.ref (rA s 0 0)]) [] G Q := by
  have hM := hF.1.1.1.1
  refine w_aload_n dX10_placeAll_0 rfl ?_
  refine w_dup dX10_placeAll_1 rfl ?_
  refine r_geti  dX10_placeAll_2 ft_9_230 R rfl (hS _ _ rfl) rfl (lb rfl) ht ?_
  refine w_iconst (v := 1) dX10_placeAll_5 (by decide) ?_
  refine w_iadd dX10_placeAll_6 ?_
  rw [nI_1]
  refine r_puti  dX10_placeAll_7 ft_9_230 R rfl (hS _ _ rfl) rfl (lb rfl) (fun h => by cases h) rfl rfl (fun G1 R1 => ?_)
  refine w_ldc2 dX10_placeAll_10 ct_9_233 ?_
  refine w_lstore_n dX10_placeAll_13 (lb rfl) rfl ?_
  refine w_iconst (v := 0) dX10_placeAll_14 (by decide) ?_
  refine w_istore_n dX10_placeAll_15 (lb rfl) ?_
  exact c10_placeAll_k hS hV hvv (tm := tm + 1) 5 0 _ _ _ (by omega) R1 (by omega) (mfk.rf s).X (NF_X hF (by omega) (by omega) rfl) hW sX_s (fun y hy hpy hd => absurd hd (by unfold dn; omega)) (fun j hj => absurd hj (Nat.not_lt_zero _)) (fun j hj => absurd hj (Nat.not_lt_zero _)) rfl rfl rfl q
end
