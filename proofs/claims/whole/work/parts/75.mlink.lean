def Z1 (τ : tx_T) (w : Bool) (s : rx_S) : Prop := NF s τ w ∧ rX s 0 0 29 = .inl (.int 1) ∧ rX s 0 0 30 = .inl (.int 0)
theorem Z1_c {τ : tx_T} {w : Bool} : ∀ (s : rx_S) (k : Nat) (v : Int32), (k = 31 ∨ k = 32) → Z1 τ w s → Z1 τ w (sX s 0 0 k (.inl (.int v))) := by
  intro s k v hk h
  refine ⟨NF_X h.1 (by omega) (by omega) (by rcases hk with rfl | rfl <;> rfl), (sX_p (by omega)).trans h.2.1, (sX_p (by omega)).trans h.2.2⟩
noncomputable def Z2 (τ : tx_T) (w : Bool) (s : rx_S) : Prop := Z1 τ w s ∧ VS s (vR τ w).1 ∧ rX s 0 0 49 = .inl (.int (nI (vR τ w).2)) ∧ PL s τ w (vR τ w).1.1
theorem Z2_c {τ : tx_T} {w : Bool} : ∀ (s : rx_S) (k : Nat) (v : Int32), (k = 31 ∨ k = 32) → Z2 τ w s → Z2 τ w (sX s 0 0 k (.inl (.int v))) := by
  intro s k v hk h
  exact ⟨Z1_c s k v hk h.1, ⟨(sX_p (by omega)).trans h.2.1.1, h.2.1.2⟩, (sX_p (by omega)).trans h.2.2.1, h.2.2.2⟩
def Z0 (τ : tx_T) (s : rx_S) : Prop := MR s τ ∧ rX s 0 0 29 = .inl (.int 1) ∧ rX s 0 0 30 = .inl (.int 0)
theorem Z0_c {τ : tx_T} : ∀ (s : rx_S) (k : Nat) (v : Int32), (k = 31 ∨ k = 32) → Z0 τ s → Z0 τ (sX s 0 0 k (.inl (.int v))) := by
  intro s k v hk h
  refine ⟨MR_X h.1 (by omega) (by rcases hk with rfl | rfl <;> rfl), (sX_p (by omega)).trans h.2.1, (sX_p (by omega)).trans h.2.2⟩
theorem f4_AO {τ : tx_T} (hV : TV τ) (h : ∀ k, k < tN τ 3 → f4B τ k = false) : AO τ := by
  intro k hk h1 h2
  have hr := (hV.2.2.2.1 k hk).1
  obtain ⟨x, hr1, hr2⟩ := nI_ofI hr.1
  have h3 := (kR_cl hV).1 (cl (tT τ 21 k)) h1 k hk (by rw [hr2, clN hr1]) h2
  rcases h3 with h3 | h3
  · exact h3
  · have h4 := h k hk
    unfold f4B at h4
    rw [h1, h2, h3] at h4
    exact absurd h4 (by decide)
theorem W4_0 {τ : tx_T} (h : (W4 τ (tN τ 3)).1 = 0) : ∀ k, k < tN τ 3 → f4B τ k = false := by
  unfold W4 at h
  rw [fo_bd (by decide)] at h
  by_cases e : (W3 τ (tN τ 3)).1 = 0
  · rw [if_pos e] at h
    cases e2 : fst1 (f4B τ) (tN τ 3) with
    | none => exact fst1_none.mp e2
    | some i => rw [e2] at h; exact absurd (show (4 : Int32) = 0 from h) (by decide)
  · rw [if_neg e] at h; exact absurd h e
section
variable {b0 mi z1 z2 : Nat} {E : Nat → Nat} {O : Nat → Option mx_C} {s : rx_S} {G : mx_H} {Q : mx_O → mx_H → Prop}
theorem c10_link_a {s0 : rx_S} (hS0 : rx_in s0) {τ : tx_T} (hV : TV τ) {w : Bool}  : ∀ (d : Nat) (i : Nat) (L : mx_L) (s : rx_S) (G : mx_H), tN τ 4 - i < d → rx_R b0 O z1 z2 s G → i ≤ tN τ 4 → mfr s0 s → Z1 τ w s → rX s 0 0 31 = .inl (.int (W2 τ i).1) → rX s 0 0 32 = .inl (.int (W2 τ i).2) → L 0 = some (.ref (rA s 0 0)) → L 3 = some (.int (nI i)) → (∀ (L : mx_L) (s : rx_S) (G : mx_H), rx_R b0 O z1 z2 s G → mfr s0 s → Z1 τ w s → rX s 0 0 31 = .inl (.int (W2 τ (tN τ 4)).1) → rX s 0 0 32 = .inl (.int (W2 τ (tN τ 4)).2) → L 0 = some (.ref (rA s 0 0)) → mx_W (gt_P b0 mi E) mX10_link 73 L [] G Q) → mx_W (gt_P b0 mi E) mX10_link 38 L [] G Q := by
  intro d
  induction d with
  | zero => intro i L s G hd; exact absurd hd (Nat.not_lt_zero _)
  | succ d ih =>
    intro i L s G hd R hi hf hZ h31 h32 h0 h3 kx
    obtain ⟨hF, h29, h30⟩ := id hZ
    obtain ⟨hK, hI⟩ := id hF
    obtain ⟨hN, hKQ, hKV⟩ := id hK
    obtain ⟨hT, hL, hD, hA⟩ := id hN
    obtain ⟨hM, ⟨c1, c2, c13, c14, c20, c26⟩, hsec, hby, hsy, hre, hro, hba⟩ := id hT
    have hV0 := hV.1
    have hS : rx_in s := hf.inn hS0
    refine w_iload_n dX10_link_38 h3 ?_
    refine w_aload_n dX10_link_39 h0 ?_
    refine r_geti  dX10_link_40 ft_9_198 R rfl (hS _ _ rfl) rfl (lb rfl) c26 ?_
    refine r_icmp_gen (t := 73) dX10_link_43 rfl (by omega) (by omega) (fun h43 => ?_) (fun h43 => ?_)
    ·
      obtain rfl : i = tN τ 4 := by omega
      exact kx _ _ _ R hf hZ h31 h32 h0
    ·
      have hnm := hV.2.2.2.2.1 i (by omega)
      obtain ⟨x, hx, hx2⟩ := nI_ofI hnm.1
      have hx3 : (x : Int) ≤ 63 := by have := hnm.2; rw [hx2, nI_toInt hx] at this; exact this
      refine w_aload_n dX10_link_46 h0 ?_
      refine r_getr  dX10_link_47 ft_9_88 R rfl (hS _ _ rfl) rfl (lb rfl) (hM.1 34 (lb rfl) (lb rfl)) ?_
      refine w_aload_n dX10_link_50 h0 ?_
      refine r_getr  dX10_link_51 ft_9_73 R rfl (hS _ _ rfl) rfl (lb rfl) (hM.1 27 (lb rfl) (lb rfl)) ?_
      refine w_iload_n dX10_link_54 h3 ?_
      refine r_iald  dX10_link_55 R rfl (hS _ _ rfl) rfl rfl (by omega) (lb rfl) ((hro i (by omega)).trans hx2) ?_
      refine r_iald  dX10_link_56 R rfl (hS _ _ rfl) rfl rfl (by omega) (lb rfl) (show rI s 1 34 x = oI (defO τ (tT τ 27 i)) from (hD x (by omega)).trans (by rw [hx2])) ?_
      refine w_iconst (v := (-1)) dX10_link_57 (by decide) ?_
      refine r_icmp_neP (t := 67) dX10_link_58 rfl (fun h58 => ?_) (fun h58 => ?_)
      ·
        refine w_iinc dX10_link_67 h3 (nI_1 _) (lb rfl) ?_
        refine w_goto (t := 38) dX10_link_70 rfl ?_
        have ef : (defO τ (tT τ 27 i)).isNone = false := by
          cases e : defO τ (tT τ 27 i) with
          | none => exact absurd (by rw [e]; rfl) h58
          | some j => rfl
        have ew : W2 τ (i + 1) = W2 τ i := by show (bif (defO τ (tT τ 27 i)).isNone then _ else _) = _; rw [ef]; rfl
        exact ih (i + 1) _ _ _ (by omega) R (by omega) hf hZ (by rw [ew]; exact h31) (by rw [ew]; exact h32) h0 rfl kx
      ·
        refine w_aload_n dX10_link_61 h0 ?_
        refine w_iconst (v := 2) dX10_link_62 (by decide) ?_
        refine w_iload_n dX10_link_63 h3 ?_
        refine r_inv2  dX10_link_64 mt_9_273 R rfl (hS _ _ rfl) rfl (lb rfl) (lb rfl) (lb rfl) (lb rfl) rfl (c10_bad R hS (Z := Z1 τ w) hZ Z1_c h31 h32 (fun s1 G1 R1 hf1 hZ1 h31a h32a => ⟨_, rfl, ?_⟩))
        have h0 : L 0 = some (.ref (rA s1 0 0)) := by rw [hf1.1]; exact h0
        refine w_iinc dX10_link_67 h3 (nI_1 _) (lb rfl) ?_
        refine w_goto (t := 38) dX10_link_70 rfl ?_
        have ef : (defO τ (tT τ 27 i)).isNone = true := by rw [(oI_none (fun j hj => by have := (defO_lt hj).1; omega)).mp h58]; rfl
        have ew : W2 τ (i + 1) = bd (W2 τ i) 2 (nI i) := by show (bif (defO τ (tT τ 27 i)).isNone then _ else _) = _; rw [ef]; rfl
        exact ih (i + 1) _ _ _ (by omega) R1 (by omega) (hf.tr hf1) hZ1 (by rw [ew]; exact h31a) (by rw [ew]; exact h32a) h0 rfl kx
theorem c10_link_b {s0 : rx_S} (hS0 : rx_in s0) {τ : tx_T} (hV : TV τ) {w : Bool}  : ∀ (d : Nat) (k : Nat) (L : mx_L) (s : rx_S) (G : mx_H), tN τ 3 - k < d → rx_R b0 O z1 z2 s G → k ≤ tN τ 3 → mfr s0 s → Z1 τ w s → rX s 0 0 31 = .inl (.int (W3 τ k).1) → rX s 0 0 32 = .inl (.int (W3 τ k).2) → L 0 = some (.ref (rA s 0 0)) → L 3 = some (.int (nI k)) → (∀ (L : mx_L) (s : rx_S) (G : mx_H), rx_R b0 O z1 z2 s G → mfr s0 s → Z1 τ w s → rX s 0 0 31 = .inl (.int (W3 τ (tN τ 3)).1) → rX s 0 0 32 = .inl (.int (W3 τ (tN τ 3)).2) → L 0 = some (.ref (rA s 0 0)) → mx_W (gt_P b0 mi E) mX10_link 138 L [] G Q) → mx_W (gt_P b0 mi E) mX10_link 75 L [] G Q := by
  intro d
  induction d with
  | zero => intro k L s G hd; exact absurd hd (Nat.not_lt_zero _)
  | succ d ih =>
    intro k L s G hd R hk hf hZ h31 h32 h0 h3 kx
    obtain ⟨hF, h29, h30⟩ := id hZ
    obtain ⟨hK, hI⟩ := id hF
    obtain ⟨hN, hKQ, hKV⟩ := id hK
    obtain ⟨hT, hL, hD, hA⟩ := id hN
    obtain ⟨hM, ⟨c1, c2, c13, c14, c20, c26⟩, hsec, hby, hsy, hre, hro, hba⟩ := id hT
    have hV0 := hV.1
    have hS : rx_in s := hf.inn hS0
    refine w_iload_n dX10_link_75 h3 ?_
    refine w_aload_n dX10_link_76 h0 ?_
    refine r_geti  dX10_link_77 ft_9_195 R rfl (hS _ _ rfl) rfl (lb rfl) c20 ?_
    refine r_icmp_gen (t := 138) dX10_link_80 rfl (by omega) (by omega) (fun h80 => ?_) (fun h80 => ?_)
    ·
      obtain rfl : k = tN τ 3 := by omega
      exact kx _ _ _ R hf hZ h31 h32 h0
    ·
      have hy := (hV.2.2.2.1 k (by omega)).2.2.2.1
      obtain ⟨y, hy1, hy2⟩ := nI_ofI hy.1
      have hyl : y < tN τ 2 := by have := hy.2; rw [hy2, nI_toInt hy1] at this; omega
      have cy : cl (tT τ 24 k) = y := by rw [hy2, clN hy1]
      have hr := (hV.2.2.2.1 k (by omega)).1
      obtain ⟨r, hr1, hr2⟩ := nI_ofI hr.1
      have hrl : r < tN τ 1 := by have := hr.2; rw [hr2, nI_toInt hr1] at this; omega
      have cr : cl (tT τ 21 k) = r := by rw [hr2, clN hr1]
      refine w_aload_n dX10_link_83 h0 ?_
      refine r_getr  dX10_link_84 ft_9_103 R rfl (hS _ _ rfl) rfl (lb rfl) (hM.1 40 (lb rfl) (lb rfl)) ?_
      refine w_aload_n dX10_link_87 h0 ?_
      refine r_getr  dX10_link_88 ft_9_58 R rfl (hS _ _ rfl) rfl (lb rfl) (hM.1 21 (lb rfl) (lb rfl)) ?_
      refine w_iload_n dX10_link_91 h3 ?_
      refine r_iald  dX10_link_92 R rfl (hS _ _ rfl) rfl rfl (by omega) (lb rfl) ((hre k (by omega)).1.trans hr2) ?_
      refine r_zald  dX10_link_93 R rfl (hS _ _ rfl) rfl rfl (by omega) (lb rfl) (hKQ.2.2.1 r (by omega)) ?_
      refine w_if_eq (t := 132) dX10_link_94 rfl (fun h94 => ?_) (fun h94 => ?_)
      ·
        refine w_iinc dX10_link_132 h3 (nI_1 _) (lb rfl) ?_
        refine w_goto (t := 75) dX10_link_135 rfl ?_
        have ef : f3B τ k = false := by unfold f3B; rw [cy, cr, b32_eq h94]; rfl
        have ew : W3 τ (k + 1) = W3 τ k := by show (bif f3B τ k then _ else _) = _; rw [ef]; rfl
        exact ih (k + 1) _ _ _ (by omega) R (by omega) hf hZ (by rw [ew]; exact h31) (by rw [ew]; exact h32) h0 rfl kx
      ·
        refine w_aload_n dX10_link_97 h0 ?_
        refine r_getr  dX10_link_98 ft_9_55 R rfl (hS _ _ rfl) rfl (lb rfl) (hM.1 19 (lb rfl) (lb rfl)) ?_
        refine w_aload_n dX10_link_101 h0 ?_
        refine r_getr  dX10_link_102 ft_9_67 R rfl (hS _ _ rfl) rfl (lb rfl) (hM.1 24 (lb rfl) (lb rfl)) ?_
        refine w_iload_n dX10_link_105 h3 ?_
        refine r_iald  dX10_link_106 R rfl (hS _ _ rfl) rfl rfl (by omega) (lb rfl) ((hre k (by omega)).2.2.2.1.trans hy2) ?_
        refine r_iald  dX10_link_107 R rfl (hS _ _ rfl) rfl rfl (by omega) (lb rfl) (hsy y hyl).2.2.2.2 ?_
        refine w_iconst (v := 2) dX10_link_108 (by decide) ?_
        refine w_icmp_eq (t := 132) dX10_link_109 rfl (fun h109 => ?_) (fun h109 => ?_)
        ·
          refine w_iinc dX10_link_132 h3 (nI_1 _) (lb rfl) ?_
          refine w_goto (t := 75) dX10_link_135 rfl ?_
          have ef : f3B τ k = false := by unfold f3B; rw [cy, h109]; simp
          have ew : W3 τ (k + 1) = W3 τ k := by show (bif f3B τ k then _ else _) = _; rw [ef]; rfl
          exact ih (k + 1) _ _ _ (by omega) R (by omega) hf hZ (by rw [ew]; exact h31) (by rw [ew]; exact h32) h0 rfl kx
        ·
          refine w_aload_n dX10_link_112 h0 ?_
          refine r_getr  dX10_link_113 ft_9_91 R rfl (hS _ _ rfl) rfl (lb rfl) (hM.1 35 (lb rfl) (lb rfl)) ?_
          refine w_aload_n dX10_link_116 h0 ?_
          refine r_getr  dX10_link_117 ft_9_67 R rfl (hS _ _ rfl) rfl (lb rfl) (hM.1 24 (lb rfl) (lb rfl)) ?_
          refine w_iload_n dX10_link_120 h3 ?_
          refine r_iald  dX10_link_121 R rfl (hS _ _ rfl) rfl rfl (by omega) (lb rfl) ((hre k (by omega)).2.2.2.1.trans hy2) ?_
          refine r_iald  dX10_link_122 R rfl (hS _ _ rfl) rfl rfl (by omega) (lb rfl) (hA y hyl).1 ?_
          refine r_if_neP (t := 132) dX10_link_123 rfl (fun h123 => ?_) (fun h123 => ?_)
          ·
            refine w_iinc dX10_link_132 h3 (nI_1 _) (lb rfl) ?_
            refine w_goto (t := 75) dX10_link_135 rfl ?_
            have ef : f3B τ k = false := by unfold f3B; rw [cy, beq_eq_false_iff_ne.mpr h123]; simp
            have ew : W3 τ (k + 1) = W3 τ k := by show (bif f3B τ k then _ else _) = _; rw [ef]; rfl
            exact ih (k + 1) _ _ _ (by omega) R (by omega) hf hZ (by rw [ew]; exact h31) (by rw [ew]; exact h32) h0 rfl kx
          ·
            refine w_aload_n dX10_link_126 h0 ?_
            refine w_iconst (v := 3) dX10_link_127 (by decide) ?_
            refine w_iload_n dX10_link_128 h3 ?_
            refine r_inv2  dX10_link_129 mt_9_273 R rfl (hS _ _ rfl) rfl (lb rfl) (lb rfl) (lb rfl) (lb rfl) rfl (c10_bad R hS (Z := Z1 τ w) hZ Z1_c h31 h32 (fun s1 G1 R1 hf1 hZ1 h31a h32a => ⟨_, rfl, ?_⟩))
            have h0 : L 0 = some (.ref (rA s1 0 0)) := by rw [hf1.1]; exact h0
            refine w_iinc dX10_link_132 h3 (nI_1 _) (lb rfl) ?_
            refine w_goto (t := 75) dX10_link_135 rfl ?_
            have ef : f3B τ k = true := by unfold f3B; rw [cy, cr, b32_ne h94, h123, beq_eq_false_iff_ne.mpr h109]; rfl
            have ew : W3 τ (k + 1) = bd (W3 τ k) 3 (nI k) := by show (bif f3B τ k then _ else _) = _; rw [ef]; rfl
            exact ih (k + 1) _ _ _ (by omega) R1 (by omega) (hf.tr hf1) hZ1 (by rw [ew]; exact h31a) (by rw [ew]; exact h32a) h0 rfl kx
theorem c10_link_c {s0 : rx_S} (hS0 : rx_in s0) {τ : tx_T} (hV : TV τ) {w : Bool}  : ∀ (d : Nat) (k : Nat) (L : mx_L) (s : rx_S) (G : mx_H), tN τ 3 - k < d → rx_R b0 O z1 z2 s G → k ≤ tN τ 3 → mfr s0 s → Z1 τ w s → rX s 0 0 31 = .inl (.int (W4 τ k).1) → rX s 0 0 32 = .inl (.int (W4 τ k).2) → L 0 = some (.ref (rA s 0 0)) → L 3 = some (.int (nI k)) → (∀ (L : mx_L) (s : rx_S) (G : mx_H), rx_R b0 O z1 z2 s G → mfr s0 s → Z1 τ w s → rX s 0 0 31 = .inl (.int (W4 τ (tN τ 3)).1) → rX s 0 0 32 = .inl (.int (W4 τ (tN τ 3)).2) → L 0 = some (.ref (rA s 0 0)) → mx_W (gt_P b0 mi E) mX10_link 208 L [] G Q) → mx_W (gt_P b0 mi E) mX10_link 140 L [] G Q := by
  intro d
  induction d with
  | zero => intro k L s G hd; exact absurd hd (Nat.not_lt_zero _)
  | succ d ih =>
    intro k L s G hd R hk hf hZ h31 h32 h0 h3 kx
    obtain ⟨hF, h29, h30⟩ := id hZ
    obtain ⟨hK, hI⟩ := id hF
    obtain ⟨hN, hKQ, hKV⟩ := id hK
    obtain ⟨hT, hL, hD, hA⟩ := id hN
    obtain ⟨hM, ⟨c1, c2, c13, c14, c20, c26⟩, hsec, hby, hsy, hre, hro, hba⟩ := id hT
    have hV0 := hV.1
    have hS : rx_in s := hf.inn hS0
    refine w_iload_n dX10_link_140 h3 ?_
    refine w_aload_n dX10_link_141 h0 ?_
    refine r_geti  dX10_link_142 ft_9_195 R rfl (hS _ _ rfl) rfl (lb rfl) c20 ?_
    refine r_icmp_gen (t := 208) dX10_link_145 rfl (by omega) (by omega) (fun h145 => ?_) (fun h145 => ?_)
    ·
      obtain rfl : k = tN τ 3 := by omega
      exact kx _ _ _ R hf hZ h31 h32 h0
    ·
      have hy := (hV.2.2.2.1 k (by omega)).2.2.2.1
      obtain ⟨y, hy1, hy2⟩ := nI_ofI hy.1
      have hyl : y < tN τ 2 := by have := hy.2; rw [hy2, nI_toInt hy1] at this; omega
      have cy : cl (tT τ 24 k) = y := by rw [hy2, clN hy1]
      have hr := (hV.2.2.2.1 k (by omega)).1
      obtain ⟨r, hr1, hr2⟩ := nI_ofI hr.1
      have hrl : r < tN τ 1 := by have := hr.2; rw [hr2, nI_toInt hr1] at this; omega
      have cr : cl (tT τ 21 k) = r := by rw [hr2, clN hr1]
      refine w_aload_n dX10_link_148 h0 ?_
      refine r_getr  dX10_link_149 ft_9_103 R rfl (hS _ _ rfl) rfl (lb rfl) (hM.1 40 (lb rfl) (lb rfl)) ?_
      refine w_aload_n dX10_link_152 h0 ?_
      refine r_getr  dX10_link_153 ft_9_58 R rfl (hS _ _ rfl) rfl (lb rfl) (hM.1 21 (lb rfl) (lb rfl)) ?_
      refine w_iload_n dX10_link_156 h3 ?_
      refine r_iald  dX10_link_157 R rfl (hS _ _ rfl) rfl rfl (by omega) (lb rfl) ((hre k (by omega)).1.trans hr2) ?_
      refine r_zald  dX10_link_158 R rfl (hS _ _ rfl) rfl rfl (by omega) (lb rfl) (hKQ.2.2.1 r (by omega)) ?_
      refine w_if_eq (t := 202) dX10_link_159 rfl (fun h159 => ?_) (fun h159 => ?_)
      ·
        refine w_iinc dX10_link_202 h3 (nI_1 _) (lb rfl) ?_
        refine w_goto (t := 140) dX10_link_205 rfl ?_
        have ef : f4B τ k = false := by unfold f4B; rw [cy, cr, b32_eq h159]; rfl
        have ew : W4 τ (k + 1) = W4 τ k := by show (bif f4B τ k then _ else _) = _; rw [ef]; rfl
        exact ih (k + 1) _ _ _ (by omega) R (by omega) hf hZ (by rw [ew]; exact h31) (by rw [ew]; exact h32) h0 rfl kx
      ·
        refine w_aload_n dX10_link_162 h0 ?_
        refine r_getr  dX10_link_163 ft_9_91 R rfl (hS _ _ rfl) rfl (lb rfl) (hM.1 35 (lb rfl) (lb rfl)) ?_
        refine w_aload_n dX10_link_166 h0 ?_
        refine r_getr  dX10_link_167 ft_9_67 R rfl (hS _ _ rfl) rfl (lb rfl) (hM.1 24 (lb rfl) (lb rfl)) ?_
        refine w_iload_n dX10_link_170 h3 ?_
        refine r_iald  dX10_link_171 R rfl (hS _ _ rfl) rfl rfl (by omega) (lb rfl) ((hre k (by omega)).2.2.2.1.trans hy2) ?_
        refine r_iald  dX10_link_172 R rfl (hS _ _ rfl) rfl rfl (by omega) (lb rfl) (hA y hyl).1 ?_
        refine w_iconst (v := 1) dX10_link_173 (by decide) ?_
        refine r_icmp_neP (t := 202) dX10_link_174 rfl (fun h174 => ?_) (fun h174 => ?_)
        ·
          refine w_iinc dX10_link_202 h3 (nI_1 _) (lb rfl) ?_
          refine w_goto (t := 140) dX10_link_205 rfl ?_
          have ef : f4B τ k = false := by unfold f4B; rw [cy, beq_eq_false_iff_ne.mpr h174]; simp
          have ew : W4 τ (k + 1) = W4 τ k := by show (bif f4B τ k then _ else _) = _; rw [ef]; rfl
          exact ih (k + 1) _ _ _ (by omega) R (by omega) hf hZ (by rw [ew]; exact h31) (by rw [ew]; exact h32) h0 rfl kx
        ·
          obtain ⟨d1, _, _, e3, e4, e5⟩ := at_place hV hyl h174
          obtain ⟨z, z1', z2'⟩ := nI_ofI (by rw [← e3] at e4; exact e4)
          have zl : z < tN τ 1 := by rw [← e3, z2', clN z1'] at e5; exact e5
          refine w_aload_n dX10_link_177 h0 ?_
          refine r_getr  dX10_link_178 ft_9_85 R rfl (hS _ _ rfl) rfl (lb rfl) (hM.1 33 (lb rfl) (lb rfl)) ?_
          refine w_aload_n dX10_link_181 h0 ?_
          refine r_getr  dX10_link_182 ft_9_94 R rfl (hS _ _ rfl) rfl (lb rfl) (hM.1 36 (lb rfl) (lb rfl)) ?_
          refine w_aload_n dX10_link_185 h0 ?_
          refine r_getr  dX10_link_186 ft_9_67 R rfl (hS _ _ rfl) rfl (lb rfl) (hM.1 24 (lb rfl) (lb rfl)) ?_
          refine w_iload_n dX10_link_189 h3 ?_
          refine r_iald  dX10_link_190 R rfl (hS _ _ rfl) rfl rfl (by omega) (lb rfl) ((hre k (by omega)).2.2.2.1.trans hy2) ?_
          refine r_iald  dX10_link_191 R rfl (hS _ _ rfl) rfl rfl (by omega) (lb rfl) ((hA y hyl).2.1.trans z2') ?_
          refine r_zald  dX10_link_192 R rfl (hS _ _ rfl) rfl rfl (by omega) (lb rfl) (hL z zl) ?_
          refine w_if_eq (t := 202) dX10_link_193 rfl (fun h193 => ?_) (fun h193 => ?_)
          ·
            refine w_iinc dX10_link_202 h3 (nI_1 _) (lb rfl) ?_
            refine w_goto (t := 140) dX10_link_205 rfl ?_
            have ef : f4B τ k = false := by unfold f4B; rw [cy, z2', clN z1', b32_eq h193]; simp
            have ew : W4 τ (k + 1) = W4 τ k := by show (bif f4B τ k then _ else _) = _; rw [ef]; rfl
            exact ih (k + 1) _ _ _ (by omega) R (by omega) hf hZ (by rw [ew]; exact h31) (by rw [ew]; exact h32) h0 rfl kx
          ·
            refine w_aload_n dX10_link_196 h0 ?_
            refine w_iconst (v := 4) dX10_link_197 (by decide) ?_
            refine w_iload_n dX10_link_198 h3 ?_
            refine r_inv2  dX10_link_199 mt_9_273 R rfl (hS _ _ rfl) rfl (lb rfl) (lb rfl) (lb rfl) (lb rfl) rfl (c10_bad R hS (Z := Z1 τ w) hZ Z1_c h31 h32 (fun s1 G1 R1 hf1 hZ1 h31a h32a => ⟨_, rfl, ?_⟩))
            have h0 : L 0 = some (.ref (rA s1 0 0)) := by rw [hf1.1]; exact h0
            refine w_iinc dX10_link_202 h3 (nI_1 _) (lb rfl) ?_
            refine w_goto (t := 140) dX10_link_205 rfl ?_
            have ef : f4B τ k = true := by unfold f4B; rw [cy, cr, z2', clN z1', b32_ne h159, b32_ne h193, h174]; rfl
            have ew : W4 τ (k + 1) = bd (W4 τ k) 4 (nI k) := by show (bif f4B τ k then _ else _) = _; rw [ef]; rfl
            exact ih (k + 1) _ _ _ (by omega) R1 (by omega) (hf.tr hf1) hZ1 (by rw [ew]; exact h31a) (by rw [ew]; exact h32a) h0 rfl kx
theorem c10_link_e {s0 : rx_S} (hS0 : rx_in s0) {τ : tx_T} (hV : TV τ) {w : Bool} (hvv : vV τ (vR τ w).1) {k : Nat} (hk : k < 4) {p : Int32 × Int32}  : ∀ (d : Nat) (j : Nat) (L : mx_L) (s : rx_S) (G : mx_H), k - j < d → rx_R b0 O z1 z2 s G → j ≤ k → mfr s0 s → Z2 τ w s → rX s 0 0 31 = .inl (.int (W5j τ w (vR τ w).1.1 k p (j)).1) → rX s 0 0 32 = .inl (.int (W5j τ w (vR τ w).1.1 k p (j)).2) → L 0 = some (.ref (rA s 0 0)) → L 3 = some (.int (nI k)) → L 4 = some (.int (nI j)) → (∀ (L : mx_L) (s : rx_S) (G : mx_H), rx_R b0 O z1 z2 s G → mfr s0 s → Z2 τ w s → rX s 0 0 31 = .inl (.int (W5j τ w (vR τ w).1.1 k p (k)).1) → rX s 0 0 32 = .inl (.int (W5j τ w (vR τ w).1.1 k p (k)).2) → L 0 = some (.ref (rA s 0 0)) → L 3 = some (.int (nI k)) → mx_W (gt_P b0 mi E) mX10_link 303 L [] G Q) → mx_W (gt_P b0 mi E) mX10_link 234 L [] G Q := by
  intro d
  induction d with
  | zero => intro j L s G hd; exact absurd hd (Nat.not_lt_zero _)
  | succ d ih =>
    intro j L s G hd R hj hf hZ h31 h32 h0 h3 h4 kx
    obtain ⟨hZ1', hW, ht, hP⟩ := id hZ
    obtain ⟨hF, h29, h30⟩ := id hZ1'
    obtain ⟨hK, hI⟩ := id hF
    obtain ⟨hN, hKQ, hKV⟩ := id hK
    obtain ⟨hT, hL, hD, hA⟩ := id hN
    obtain ⟨hM, ⟨c1, c2, c13, c14, c20, c26⟩, hsec, hby, hsy, hre, hro, hba⟩ := id hT
    have hV0 := hV.1
    have hS : rx_in s := hf.inn hS0
    have hvn := vV_n hV hvv
    refine w_iload dX10_link_234 h4 ?_
    refine w_iload_n dX10_link_236 h3 ?_
    refine r_icmp_gen (t := 303) dX10_link_237 rfl (by omega) (by omega) (fun h237 => ?_) (fun h237 => ?_)
    ·
      obtain rfl : j = k := by omega
      exact kx _ _ _ R hf hZ h31 h32 h0 h3
    ·
      refine w_aload_n dX10_link_240 h0 ?_
      refine w_iload_n dX10_link_241 h3 ?_
      refine r_inv1  dX10_link_242 mt_9_286 R rfl (hS _ _ rfl) rfl (lb rfl) (lb rfl) (lb rfl) (lb rfl) rfl (c10_hasPlaced R hS hV hF (k := k) (by omega) (fun hp1 => ⟨_, rfl, ?_⟩) (fun hp1 => ⟨_, rfl, ?_⟩))
      ·
        refine w_if_eq (t := 297) dX10_link_245 rfl (fun h => absurd h (by decide)) (fun _ => ?_)
        refine w_aload_n dX10_link_248 h0 ?_
        refine w_iload dX10_link_249 h4 ?_
        refine r_inv1  dX10_link_251 mt_9_286 R rfl (hS _ _ rfl) rfl (lb rfl) (lb rfl) (lb rfl) (lb rfl) rfl (c10_hasPlaced R hS hV hF (k := j) (by omega) (fun hp2 => ⟨_, rfl, ?_⟩) (fun hp2 => ⟨_, rfl, ?_⟩))
        ·
          refine w_if_eq (t := 297) dX10_link_254 rfl (fun h => absurd h (by decide)) (fun _ => ?_)
          have l1 := bgN_le hV (w := w) hvn (k := k) (by omega)
          have l2 := enN_le hV (w := w) hvn (k := k) (by omega)
          have l3 := bgN_le hV (w := w) hvn (k := j) (by omega)
          have l4 := enN_le hV (w := w) hvn (k := j) (by omega)
          have t1 := lN_toInt (n := bgN τ w (vR τ w).1.1 k) (by omega)
          have t2 := lN_toInt (n := enN τ w (vR τ w).1.1 k) (by omega)
          have t3 := lN_toInt (n := bgN τ w (vR τ w).1.1 j) (by omega)
          have t4 := lN_toInt (n := enN τ w (vR τ w).1.1 j) (by omega)
          refine w_aload_n dX10_link_257 h0 ?_
          refine r_getr  dX10_link_258 ft_9_124 R rfl (hS _ _ rfl) rfl (lb rfl) (hM.1 47 (lb rfl) (lb rfl)) ?_
          refine w_iload_n dX10_link_261 h3 ?_
          refine r_lald  dX10_link_262 R rfl (hS _ _ rfl) rfl rfl (by omega) (lb rfl) (hP.2 k (by omega)).1 ?_
          refine w_aload_n dX10_link_263 h0 ?_
          refine r_getr  dX10_link_264 ft_9_127 R rfl (hS _ _ rfl) rfl (lb rfl) (hM.1 48 (lb rfl) (lb rfl)) ?_
          refine w_iload dX10_link_267 h4 ?_
          refine r_lald  dX10_link_269 R rfl (hS _ _ rfl) rfl rfl (by omega) (lb rfl) (hP.2 j (by omega)).2 ?_
          refine r_lc_ge (t := 297) dX10_link_270 dX10_link_271 rfl (fun h270 => ?_) (fun h270 => ?_)
          ·
            refine w_iinc dX10_link_297 h4 (nI_1 _) (lb rfl) ?_
            refine w_goto (t := 234) dX10_link_300 rfl ?_
            have ef : ovB τ w (vR τ w).1.1 k j = false := by unfold ovB; rw [decide_eq_false (show ¬ bgN τ w (vR τ w).1.1 k < enN τ w (vR τ w).1.1 j by omega)]; simp
            have ew : W5j τ w (vR τ w).1.1 k p (j + 1) = W5j τ w (vR τ w).1.1 k p (j) := by show (bif ovB τ w (vR τ w).1.1 k j then _ else _) = _; rw [ef]; rfl
            exact ih (j + 1) _ _ _ (by omega) R (by omega) hf hZ (by rw [ew]; exact h31) (by rw [ew]; exact h32) h0 h3 rfl kx
          ·
            refine w_aload_n dX10_link_274 h0 ?_
            refine r_getr  dX10_link_275 ft_9_124 R rfl (hS _ _ rfl) rfl (lb rfl) (hM.1 47 (lb rfl) (lb rfl)) ?_
            refine w_iload dX10_link_278 h4 ?_
            refine r_lald  dX10_link_280 R rfl (hS _ _ rfl) rfl rfl (by omega) (lb rfl) (hP.2 j (by omega)).1 ?_
            refine w_aload_n dX10_link_281 h0 ?_
            refine r_getr  dX10_link_282 ft_9_127 R rfl (hS _ _ rfl) rfl (lb rfl) (hM.1 48 (lb rfl) (lb rfl)) ?_
            refine w_iload_n dX10_link_285 h3 ?_
            refine r_lald  dX10_link_286 R rfl (hS _ _ rfl) rfl rfl (by omega) (lb rfl) (hP.2 k (by omega)).2 ?_
            refine r_lc_ge (t := 297) dX10_link_287 dX10_link_288 rfl (fun h287 => ?_) (fun h287 => ?_)
            ·
              refine w_iinc dX10_link_297 h4 (nI_1 _) (lb rfl) ?_
              refine w_goto (t := 234) dX10_link_300 rfl ?_
              have ef : ovB τ w (vR τ w).1.1 k j = false := by unfold ovB; rw [decide_eq_false (show ¬ bgN τ w (vR τ w).1.1 j < enN τ w (vR τ w).1.1 k by omega)]; simp
              have ew : W5j τ w (vR τ w).1.1 k p (j + 1) = W5j τ w (vR τ w).1.1 k p (j) := by show (bif ovB τ w (vR τ w).1.1 k j then _ else _) = _; rw [ef]; rfl
              exact ih (j + 1) _ _ _ (by omega) R (by omega) hf hZ (by rw [ew]; exact h31) (by rw [ew]; exact h32) h0 h3 rfl kx
            ·
              refine w_aload_n dX10_link_291 h0 ?_
              refine w_iconst (v := 5) dX10_link_292 (by decide) ?_
              refine w_iload_n dX10_link_293 h3 ?_
              refine r_inv2  dX10_link_294 mt_9_273 R rfl (hS _ _ rfl) rfl (lb rfl) (lb rfl) (lb rfl) (lb rfl) rfl (c10_bad R hS (Z := Z2 τ w) hZ Z2_c h31 h32 (fun s1 G1 R1 hf1 hZ1 h31a h32a => ⟨_, rfl, ?_⟩))
              have h0 : L 0 = some (.ref (rA s1 0 0)) := by rw [hf1.1]; exact h0
              refine w_iinc dX10_link_297 h4 (nI_1 _) (lb rfl) ?_
              refine w_goto (t := 234) dX10_link_300 rfl ?_
              have ef : ovB τ w (vR τ w).1.1 k j = true := by unfold ovB; rw [hp1, hp2, decide_eq_true (show bgN τ w (vR τ w).1.1 k < enN τ w (vR τ w).1.1 j by omega), decide_eq_true (show bgN τ w (vR τ w).1.1 j < enN τ w (vR τ w).1.1 k by omega)]; rfl
              have ew : W5j τ w (vR τ w).1.1 k p (j + 1) = bd (W5j τ w (vR τ w).1.1 k p (j)) 5 (nI k) := by show (bif ovB τ w (vR τ w).1.1 k j then _ else _) = _; rw [ef]; rfl
              exact ih (j + 1) _ _ _ (by omega) R1 (by omega) (hf.tr hf1) hZ1 (by rw [ew]; exact h31a) (by rw [ew]; exact h32a) h0 h3 rfl kx
        ·
          refine w_if_eq (t := 297) dX10_link_254 rfl (fun _ => ?_) (fun h => absurd (by decide) h)
          refine w_iinc dX10_link_297 h4 (nI_1 _) (lb rfl) ?_
          refine w_goto (t := 234) dX10_link_300 rfl ?_
          have ef : ovB τ w (vR τ w).1.1 k j = false := by unfold ovB; rw [hp2]; simp
          have ew : W5j τ w (vR τ w).1.1 k p (j + 1) = W5j τ w (vR τ w).1.1 k p (j) := by show (bif ovB τ w (vR τ w).1.1 k j then _ else _) = _; rw [ef]; rfl
          exact ih (j + 1) _ _ _ (by omega) R (by omega) hf hZ (by rw [ew]; exact h31) (by rw [ew]; exact h32) h0 h3 rfl kx
      ·
        refine w_if_eq (t := 297) dX10_link_245 rfl (fun _ => ?_) (fun h => absurd (by decide) h)
        refine w_iinc dX10_link_297 h4 (nI_1 _) (lb rfl) ?_
        refine w_goto (t := 234) dX10_link_300 rfl ?_
        have ef : ovB τ w (vR τ w).1.1 k j = false := by unfold ovB; rw [hp1]; rfl
        have ew : W5j τ w (vR τ w).1.1 k p (j + 1) = W5j τ w (vR τ w).1.1 k p (j) := by show (bif ovB τ w (vR τ w).1.1 k j then _ else _) = _; rw [ef]; rfl
        exact ih (j + 1) _ _ _ (by omega) R (by omega) hf hZ (by rw [ew]; exact h31) (by rw [ew]; exact h32) h0 h3 rfl kx
theorem c10_link_d {s0 : rx_S} (hS0 : rx_in s0) {τ : tx_T} (hV : TV τ) {w : Bool} (hvv : vV τ (vR τ w).1)  : ∀ (d : Nat) (k : Nat) (L : mx_L) (s : rx_S) (G : mx_H), 4 - k < d → rx_R b0 O z1 z2 s G → k ≤ 4 → mfr s0 s → Z2 τ w s → rX s 0 0 31 = .inl (.int (W5 τ w (vR τ w).1.1 k).1) → rX s 0 0 32 = .inl (.int (W5 τ w (vR τ w).1.1 k).2) → L 0 = some (.ref (rA s 0 0)) → L 3 = some (.int (nI k)) → (∀ (L : mx_L) (s : rx_S) (G : mx_H), rx_R b0 O z1 z2 s G → mfr s0 s → Z2 τ w s → rX s 0 0 31 = .inl (.int (W5 τ w (vR τ w).1.1 4).1) → rX s 0 0 32 = .inl (.int (W5 τ w (vR τ w).1.1 4).2) → L 0 = some (.ref (rA s 0 0)) → mx_W (gt_P b0 mi E) mX10_link 309 L [] G Q) → mx_W (gt_P b0 mi E) mX10_link 226 L [] G Q := by
  intro d
  induction d with
  | zero => intro k L s G hd; exact absurd hd (Nat.not_lt_zero _)
  | succ d ih =>
    intro k L s G hd R hk hf hZ h31 h32 h0 h3 kx
    obtain ⟨hZ1', hW, ht, hP⟩ := id hZ
    obtain ⟨hF, h29, h30⟩ := id hZ1'
    obtain ⟨hK, hI⟩ := id hF
    obtain ⟨hN, hKQ, hKV⟩ := id hK
    obtain ⟨hT, hL, hD, hA⟩ := id hN
    obtain ⟨hM, ⟨c1, c2, c13, c14, c20, c26⟩, hsec, hby, hsy, hre, hro, hba⟩ := id hT
    have hV0 := hV.1
    have hS : rx_in s := hf.inn hS0
    have hvn := vV_n hV hvv
    refine w_iload_n dX10_link_226 h3 ?_
    refine w_iconst (v := nI 4) dX10_link_227 (by decide) ?_
    refine r_icmp_gen (t := 309) dX10_link_228 rfl (by omega) (by omega) (fun h228 => ?_) (fun h228 => ?_)
    ·
      obtain rfl : k = 4 := by omega
      exact kx _ _ _ R hf hZ h31 h32 h0
    ·
      refine w_iconst (v := 0) dX10_link_231 (by decide) ?_
      refine w_istore dX10_link_232 (lb rfl) ?_
      refine c10_link_e hS0 hV hvv (k := k) (by omega) (p := W5 τ w (vR τ w).1.1 k) (k + 1) 0 _ _ _ (by omega) R (by omega) hf hZ h31 h32 h0 h3 rfl (fun L s G R hf hZ h31 h32 h0 h3 => ?_)
      refine w_iinc dX10_link_303 h3 (nI_1 _) (lb rfl) ?_
      refine w_goto (t := 226) dX10_link_306 rfl ?_
      exact ih (k + 1) _ _ _ (by omega) R (by omega) hf hZ h31 h32 h0 rfl kx
theorem c10_link_f {s0 : rx_S} (hS0 : rx_in s0) {τ : tx_T} (hV : TV τ) {w : Bool} (hvv : vV τ (vR τ w).1) (hO : AO τ) (hvp : vPl τ w (vR τ w).1)  : ∀ (d : Nat) (k : Nat) (L : mx_L) (s : rx_S) (G : mx_H), tN τ 3 - k < d → rx_R b0 O z1 z2 s G → k ≤ tN τ 3 → mfr s0 s → Z2 τ w s → rX s 0 0 31 = .inl (.int (W6 τ w (vR τ w).1 k).1) → rX s 0 0 32 = .inl (.int (W6 τ w (vR τ w).1 k).2) → L 0 = some (.ref (rA s 0 0)) → L 3 = some (.int (nI k)) → (∀ (L : mx_L) (s : rx_S) (G : mx_H), rx_R b0 O z1 z2 s G → mfr s0 s → Z2 τ w s → rX s 0 0 31 = .inl (.int (W6 τ w (vR τ w).1 (tN τ 3)).1) → rX s 0 0 32 = .inl (.int (W6 τ w (vR τ w).1 (tN τ 3)).2) → L 0 = some (.ref (rA s 0 0)) → mx_W (gt_P b0 mi E) mX10_link 353 L [] G Q) → mx_W (gt_P b0 mi E) mX10_link 311 L [] G Q := by
  intro d
  induction d with
  | zero => intro k L s G hd; exact absurd hd (Nat.not_lt_zero _)
  | succ d ih =>
    intro k L s G hd R hk hf hZ h31 h32 h0 h3 kx
    obtain ⟨hZ1', hW, ht, hP⟩ := id hZ
    obtain ⟨hF, h29, h30⟩ := id hZ1'
    obtain ⟨hK, hI⟩ := id hF
    obtain ⟨hN, hKQ, hKV⟩ := id hK
    obtain ⟨hT, hL, hD, hA⟩ := id hN
    obtain ⟨hM, ⟨c1, c2, c13, c14, c20, c26⟩, hsec, hby, hsy, hre, hro, hba⟩ := id hT
    have hV0 := hV.1
    have hS : rx_in s := hf.inn hS0
    have hvn := vV_n hV hvv
    refine w_iload_n dX10_link_311 h3 ?_
    refine w_aload_n dX10_link_312 h0 ?_
    refine r_geti  dX10_link_313 ft_9_195 R rfl (hS _ _ rfl) rfl (lb rfl) c20 ?_
    refine r_icmp_gen (t := 353) dX10_link_316 rfl (by omega) (by omega) (fun h316 => ?_) (fun h316 => ?_)
    ·
      obtain rfl : k = tN τ 3 := by omega
      exact kx _ _ _ R hf hZ h31 h32 h0
    ·
      have hy := (hV.2.2.2.1 k (by omega)).2.2.2.1
      obtain ⟨y, hy1, hy2⟩ := nI_ofI hy.1
      have hyl : y < tN τ 2 := by have := hy.2; rw [hy2, nI_toInt hy1] at this; omega
      have cy : cl (tT τ 24 k) = y := by rw [hy2, clN hy1]
      have hr := (hV.2.2.2.1 k (by omega)).1
      obtain ⟨r, hr1, hr2⟩ := nI_ofI hr.1
      have hrl : r < tN τ 1 := by have := hr.2; rw [hr2, nI_toInt hr1] at this; omega
      have cr : cl (tT τ 21 k) = r := by rw [hr2, clN hr1]
      refine w_aload_n dX10_link_319 h0 ?_
      refine w_aload_n dX10_link_320 h0 ?_
      refine r_getr  dX10_link_321 ft_9_58 R rfl (hS _ _ rfl) rfl (lb rfl) (hM.1 21 (lb rfl) (lb rfl)) ?_
      refine w_iload_n dX10_link_324 h3 ?_
      refine r_iald  dX10_link_325 R rfl (hS _ _ rfl) rfl rfl (by omega) (lb rfl) ((hre k (by omega)).1.trans hr2) ?_
      refine r_inv1  dX10_link_326 mt_9_235 R rfl (hS _ _ rfl) rfl (lb rfl) (lb rfl) (lb rfl) (lb rfl) rfl (c10_isPlaced R hS hV hF (x := r) hrl (fun hpl => ⟨_, rfl, ?_⟩) (fun hpl => ⟨_, rfl, ?_⟩))
      ·
        refine w_if_eq (t := 347) dX10_link_329 rfl (fun h => absurd h (by decide)) (fun _ => ?_)
        refine w_aload_n dX10_link_332 h0 ?_
        refine w_iload_n dX10_link_333 h3 ?_
        refine r_inv1  dX10_link_334 mt_9_289 R rfl (hS _ _ rfl) rfl (lb rfl) (lb rfl) (lb rfl) (lb rfl) rfl (c10_fits R hS hV hF hO hvv hvp (vQ_R τ w) hW hP (k := k) (by omega) (by rw [cr]; exact hpl) (fun hft => ⟨_, rfl, ?_⟩) (fun hft => ⟨_, rfl, ?_⟩))
        ·
          refine w_if_ne (t := 347) dX10_link_337 rfl (fun _ => ?_) (fun h => absurd (by decide) h)
          refine w_iinc dX10_link_347 h3 (nI_1 _) (lb rfl) ?_
          refine w_goto (t := 311) dX10_link_350 rfl ?_
          have ef : f6B τ w (vR τ w).1 k = false := by unfold f6B; rw [hft]; simp
          have ew : W6 τ w (vR τ w).1 (k + 1) = W6 τ w (vR τ w).1 k := by show (bif f6B τ w (vR τ w).1 k then _ else _) = _; rw [ef]; rfl
          exact ih (k + 1) _ _ _ (by omega) R (by omega) hf hZ (by rw [ew]; exact h31) (by rw [ew]; exact h32) h0 rfl kx
        ·
          refine w_if_ne (t := 347) dX10_link_337 rfl (fun h => absurd h (by decide)) (fun _ => ?_)
          refine w_aload_n dX10_link_340 h0 ?_
          refine w_bipush (v := 6) dX10_link_341 (by decide) ?_
          refine w_iload_n dX10_link_343 h3 ?_
          refine r_inv2  dX10_link_344 mt_9_273 R rfl (hS _ _ rfl) rfl (lb rfl) (lb rfl) (lb rfl) (lb rfl) rfl (c10_bad R hS (Z := Z2 τ w) hZ Z2_c h31 h32 (fun s1 G1 R1 hf1 hZ1 h31a h32a => ⟨_, rfl, ?_⟩))
          have h0 : L 0 = some (.ref (rA s1 0 0)) := by rw [hf1.1]; exact h0
          refine w_iinc dX10_link_347 h3 (nI_1 _) (lb rfl) ?_
          refine w_goto (t := 311) dX10_link_350 rfl ?_
          have ef : f6B τ w (vR τ w).1 k = true := by unfold f6B; rw [cr, hpl, hft]; rfl
          have ew : W6 τ w (vR τ w).1 (k + 1) = bd (W6 τ w (vR τ w).1 k) 6 (nI k) := by show (bif f6B τ w (vR τ w).1 k then _ else _) = _; rw [ef]; rfl
          exact ih (k + 1) _ _ _ (by omega) R1 (by omega) (hf.tr hf1) hZ1 (by rw [ew]; exact h31a) (by rw [ew]; exact h32a) h0 rfl kx
      ·
        refine w_if_eq (t := 347) dX10_link_329 rfl (fun _ => ?_) (fun h => absurd (by decide) h)
        refine w_iinc dX10_link_347 h3 (nI_1 _) (lb rfl) ?_
        refine w_goto (t := 311) dX10_link_350 rfl ?_
        have ef : f6B τ w (vR τ w).1 k = false := by unfold f6B; rw [cr, hpl]; rfl
        have ew : W6 τ w (vR τ w).1 (k + 1) = W6 τ w (vR τ w).1 k := by show (bif f6B τ w (vR τ w).1 k then _ else _) = _; rw [ef]; rfl
        exact ih (k + 1) _ _ _ (by omega) R (by omega) hf hZ (by rw [ew]; exact h31) (by rw [ew]; exact h32) h0 rfl kx
theorem c10_link_t {s0 : rx_S} (hS0 : rx_in s0) {τ : tx_T} (hV : TV τ) {w : Bool} (hO : AO τ) (hvv : vV τ (vR τ w).1) (hvp : vPl τ w (vR τ w).1) {L : mx_L} (R : rx_R b0 O z1 z2 s G) (hf : mfr s0 s) (hZ : Z2 τ w s) (h31 : rX s 0 0 31 = .inl (.int (lkR τ w).1)) (h32 : rX s 0 0 32 = .inl (.int (lkR τ w).2)) (h0 : L 0 = some (.ref (rA s 0 0))) (hs : secO τ = none) (q2 : secO τ = none → ∀ (s' : rx_S) (G' : mx_H), rx_R b0 O z1 z2 s' G' → mfr s0 s' → NF s' τ w → rX s' 0 0 29 = .inl (.int 1) → rX s' 0 0 30 = .inl (.int (if (lkR τ w).1 = 0 then 1 else 0)) → rX s' 0 0 31 = .inl (.int (lkR τ w).1) → rX s' 0 0 32 = .inl (.int (lkR τ w).2) → ((lkR τ w).1 = 0 → AO τ ∧ VS s' (vR τ w).1 ∧ rX s' 0 0 49 = .inl (.int (nI (vR τ w).2)) ∧ PL s' τ w (vR τ w).1.1 ∧ vV τ (vR τ w).1 ∧ vPl τ w (vR τ w).1) → Q (.inl (some (.int (lkR τ w).1))) G') : mx_W (gt_P b0 mi E) mX10_link 353 L [] G Q := by
  obtain ⟨⟨hF, h29, h30⟩, hW, ht, hP⟩ := id hZ
  have hS : rx_in s := hf.inn hS0
  refine w_aload_n dX10_link_353 h0 ?_
  refine w_aload_n dX10_link_354 h0 ?_
  refine r_geti  dX10_link_355 ft_9_146 R rfl (hS _ _ rfl) rfl (lb rfl) h31 ?_
  refine r_if_neP (t := 365) dX10_link_358 rfl (fun h358 => ?_) (fun h358 => ?_)
  ·
    refine w_iconst (v := 0) dX10_link_365 (by decide) ?_
    refine r_puti  dX10_link_366 ft_9_143 R rfl (hS _ _ rfl) rfl (lb rfl) (fun h => by cases h) rfl rfl (fun G1 R1 => ?_)
    refine w_aload_n dX10_link_369 h0 ?_
    refine r_geti  dX10_link_370 ft_9_146 R1 rfl (hS _ _ rfl) rfl (lb rfl) ((sX_p (by decide)).trans h31) ?_
    exact w_iret dX10_link_373 rfl rfl (q2 hs _ _ R1 hf.X (NF_X hF (by omega) (by omega) rfl) ((sX_p (by decide)).trans h29) (by rw [sX_s, if_neg h358]) ((sX_p (by decide)).trans h31) ((sX_p (by decide)).trans h32) (fun _ => ⟨hO, ⟨(sX_p (by decide)).trans hW.1, hW.2⟩, (sX_p (by decide)).trans ht, hP, hvv, hvp⟩))
  ·
    refine w_iconst (v := 1) dX10_link_361 (by decide) ?_
    refine w_goto (t := 366) dX10_link_362 rfl ?_
    refine r_puti  dX10_link_366 ft_9_143 R rfl (hS _ _ rfl) rfl (lb rfl) (fun h => by cases h) rfl rfl (fun G2 R2 => ?_)
    refine w_aload_n dX10_link_369 h0 ?_
    refine r_geti  dX10_link_370 ft_9_146 R2 rfl (hS _ _ rfl) rfl (lb rfl) ((sX_p (by decide)).trans h31) ?_
    exact w_iret dX10_link_373 rfl rfl (q2 hs _ _ R2 hf.X (NF_X hF (by omega) (by omega) rfl) ((sX_p (by decide)).trans h29) (by rw [sX_s, if_pos h358]) ((sX_p (by decide)).trans h31) ((sX_p (by decide)).trans h32) (fun _ => ⟨hO, ⟨(sX_p (by decide)).trans hW.1, hW.2⟩, (sX_p (by decide)).trans ht, hP, hvv, hvp⟩))
end
