def oL : Option Nat → Int64
  | none => -1
  | some n => lN n
theorem lo_le {τ : tx_T} (hV : TV τ) {w : Bool} {V : List (Nat × Nat)} (hv : ∀ x, nvN V x ≤ 200) {t : Int32} {n : Nat} (hn : n ≤ tN τ 1) : ∀ l, loN τ w V t n = some l → l ≤ 2006000255 := by
  unfold loN
  induction n with
  | zero => intro l h; cases h
  | succ n ih =>
    intro l h
    rw [fo] at h
    have ih' := ih (by omega)
    have hp := poN_le hV (w := w) hv (x := n) (by omega)
    generalize fo _ none n = o at *
    cases e : kin (kR τ) n && (tT τ 9 n == t)
    · rw [e] at h; exact ih' l h
    · rw [e] at h
      cases o with
      | none => simp only [cond_true, Option.some.injEq] at h; omega
      | some m =>
        have := ih' m rfl
        simp only [cond_true, Option.some.injEq] at h
        split at h <;> omega
theorem hi_le {τ : tx_T} (hV : TV τ) {w : Bool} {V : List (Nat × Nat)} (hv : ∀ x, nvN V x ≤ 200) {t : Int32} {n : Nat} (hn : n ≤ tN τ 1) : hiN τ w V t n ≤ 2006020255 := by
  unfold hiN
  induction n with
  | zero => exact Nat.zero_le _
  | succ n ih =>
    rw [fo]
    have ih' := ih (by omega)
    have hp := poN_le hV (w := w) hv (x := n) (by omega)
    have hz := (hV.2.1 n (by omega)).2.2.1
    have hz2 := clI hz.1
    generalize fo _ 0 n = o at *
    cases kin (kR τ) n && (tT τ 9 n == t)
    · exact ih'
    · simp only [cond_true]; split <;> omega
theorem lo_f {τ : tx_T} {w : Bool} {V : List (Nat × Nat)} {t : Int32} {n : Nat} (h : kin (kR τ) n = false ∨ ¬ tT τ 9 n = t) : loN τ w V t (n + 1) = loN τ w V t n ∧ hiN τ w V t (n + 1) = hiN τ w V t n := by
  have e : (kin (kR τ) n && (tT τ 9 n == t)) = false := by rcases h with h | h <;> simp [h]
  unfold loN hiN
  rw [fo, fo, e]; exact ⟨rfl, rfl⟩
theorem lo_t {τ : tx_T} {w : Bool} {V : List (Nat × Nat)} {t : Int32} {n : Nat} (h : kin (kR τ) n = true) (h2 : tT τ 9 n = t) : loN τ w V t (n + 1) = (match loN τ w V t n with
    | none => some (poN τ w V n)
    | some l => some (if poN τ w V n < l then poN τ w V n else l)) ∧ hiN τ w V t (n + 1) = if hiN τ w V t n < poN τ w V n + cl (tT τ 5 n) then poN τ w V n + cl (tT τ 5 n) else hiN τ w V t n := by
  have e : (kin (kR τ) n && (tT τ 9 n == t)) = true := by simp [h, h2]
  unfold loN hiN
  rw [fo, fo, e]; exact ⟨rfl, rfl⟩
theorem va_le {τ : tx_T} (hV : TV τ) {w : Bool} {V : List (Nat × Nat)} (hv : ∀ x, nvN V x ≤ 200) {y : Nat} (hy : y < tN τ 2) : vaN τ w V y ≤ 2006020255 := by
  unfold vaN
  split
  · omega
  · split
    · rename_i h1 h2
      obtain ⟨d, g1, g2, g3, g4, g5⟩ := at_place hV hy h2
      have hp := poN_le hV (w := w) hv (x := cl (atI τ y)) (by rw [g3]; exact g5)
      have ho : offI τ y = tT τ 18 d := by unfold offI; rw [g1]
      have hz := (hV.2.2.1 d g2).2.2.2.1
      have hz2 := clI hz.1
      rw [ho]; omega
    · split
      · exact hi_le hV hv (Nat.le_refl _)
      · cases e : loN τ w V (atI τ y) (tN τ 1) with
        | none => simp
        | some l => have := lo_le hV hv (Nat.le_refl _) l e; simp only [Option.getD_some]; omega
theorem addL {n : Nat} (hn : n < 2 ^ 31) (a : Int32) : (lN n + a.toInt64).toInt = (n : Int) + a.toInt := by
  rw [Int64.toInt_add, lN_toInt hn, Int32.toInt_toInt64, Int.bmod_def]
  have := Int32.toInt_lt a
  have := Int32.le_toInt a
  omega
theorem oL_some {n : Nat} (hn : n < 2 ^ 31) : (oL (some n)).toInt = (n : Int) := lN_toInt hn
theorem oL_none : (oL none).toInt = -1 := by decide
section
variable {b0 mi z1 z2 : Nat} {E : Nat → Nat} {O : Nat → Option mx_C} {s : rx_S} {G : mx_H} {Q : mx_O → mx_H → Prop}
theorem c10_placeOf (R : rx_R b0 O z1 z2 s G) (hS : rx_in s) {τ : tx_T} (hV : TV τ) {w : Bool} (hF : NF s τ w) {V : List (Nat × Nat)} (hP : PL s τ w V) {x : Nat} (hx : x < tN τ 1) (hk : kin (kR τ) x = true) (q : Q (.inl (some (.long (lN (poN τ w V x))))) G) : mx_W (gt_P b0 mi E) mX10_placeOf 0 (mx_en 0 [.ref (rA s 0 0), .int (nI x)]) [] G Q := by
  obtain ⟨hK, hI⟩ := id hF
  obtain ⟨hN, hKQ, hKV⟩ := id hK
  obtain ⟨hT, hL, hD, hA⟩ := id hN
  obtain ⟨hM, ⟨c1, c2, c13, c14, c20, c26⟩, hsec, hby, hsy, hre, hro, hba⟩ := id hT
  have hV0 := hV.1
  have hpl := inO_pl hV (w := w) hk
  have hpx := inO_lt (w := w) hx
  refine w_aload_n dX10_placeOf_0 rfl ?_
  refine r_getr  dX10_placeOf_1 ft_9_121 R rfl (hS _ _ rfl) rfl (lb rfl) (hM.1 46 (lb rfl) (lb rfl)) ?_
  refine w_aload_n dX10_placeOf_4 rfl ?_
  refine r_getr  dX10_placeOf_5 ft_9_112 R rfl (hS _ _ rfl) rfl (lb rfl) (hM.1 43 (lb rfl) (lb rfl)) ?_
  refine w_iload_n dX10_placeOf_8 rfl ?_
  refine r_iald  dX10_placeOf_9 R rfl (hS _ _ rfl) rfl rfl (by omega) (lb rfl) (hI x hx) ?_
  refine w_iconst (v := (-1)) dX10_placeOf_10 (by decide) ?_
  refine r_icmp_neP (t := 18) dX10_placeOf_11 rfl (fun h11 => ?_) (fun h11 => ?_)
  ·
    obtain ⟨a, ha⟩ : ∃ a, inO τ w x = some a := by
      cases e : inO τ w x with
      | none => exact absurd (by rw [e]; rfl) h11
      | some j => exact ⟨j, rfl⟩
    rw [ha] at hpl hpx
    have hal : a < tN τ 1 := hpx
    refine w_aload_n dX10_placeOf_18 rfl ?_
    refine r_getr  dX10_placeOf_19 ft_9_112 R rfl (hS _ _ rfl) rfl (lb rfl) (hM.1 43 (lb rfl) (lb rfl)) ?_
    refine w_iload_n dX10_placeOf_22 rfl ?_
    refine r_iald  dX10_placeOf_23 R rfl (hS _ _ rfl) rfl rfl (by omega) (lb rfl) ((hI x hx).trans (show oI (inO τ w x) = nI a by rw [ha]; rfl)) ?_
    refine r_lald  dX10_placeOf_24 R rfl (hS _ _ rfl) rfl rfl (by omega) (lb rfl) (hP.1 a hal hpl) ?_
    refine w_lret dX10_placeOf_25 rfl ?_
    have e : poN τ w V x = plN τ w V a := by unfold poN; rw [ha]; rfl
    rw [e] at q; exact q
  ·
    have hn : inO τ w x = none := (oI_none (fun j hj => by have := fst_lt hj; omega)).mp h11
    rw [hn] at hpl hpx
    refine w_iload_n dX10_placeOf_14 rfl ?_
    refine w_goto (t := 24) dX10_placeOf_15 rfl ?_
    refine r_lald  dX10_placeOf_24 R rfl (hS _ _ rfl) rfl rfl (by omega) (lb rfl) (hP.1 x hx hpl) ?_
    refine w_lret dX10_placeOf_25 rfl ?_
    have e : poN τ w V x = plN τ w V x := by unfold poN; rw [hn]; rfl
    rw [e] at q; exact q
theorem c10_valueOf_l (R : rx_R b0 O z1 z2 s G) (hS : rx_in s) {τ : tx_T} (hV : TV τ) {w : Bool} (hF : NF s τ w) {V : List (Nat × Nat)} (hP : PL s τ w V) (hv : ∀ x, nvN V x ≤ 200) {y : Nat} (hy : y < tN τ 2) {t : Int32} (ht : t = atI τ y) (ha0 : ¬ aimI τ y = 0) (ha1 : ¬ aimI τ y = 1)  : ∀ (d : Nat) (n : Nat) (L : mx_L), tN τ 1 - n < d → n ≤ tN τ 1 → L 0 = some (.ref (rA s 0 0)) → L 1 = some (.int (nI y)) → L 2 = some (.int t) → L 3 = some (.long (oL (loN τ w V t n))) → L 5 = some (.long (lN (hiN τ w V t n))) → L 7 = some (.int (nI n)) → (Q (.inl (some (.long (lN (vaN τ w V y))))) G) → mx_W (gt_P b0 mi E) mX10_valueOf 52 L [] G Q := by
  obtain ⟨hK, hI⟩ := id hF
  obtain ⟨hN, hKQ, hKV⟩ := id hK
  obtain ⟨hT, hL, hD, hA⟩ := id hN
  obtain ⟨hM, ⟨c1, c2, c13, c14, c20, c26⟩, hsec, hby, hsy, hre, hro, hba⟩ := id hT
  have hV0 := hV.1
  intro d
  induction d with
  | zero => intro n L hd; exact absurd hd (Nat.not_lt_zero _)
  | succ d ih =>
    intro n L hd hn h0 h1 h2 h3 h5 h7 q
    refine w_iload dX10_valueOf_52 h7 ?_
    refine w_aload_n dX10_valueOf_54 h0 ?_
    refine r_geti  dX10_valueOf_55 ft_9_165 R rfl (hS _ _ rfl) rfl (lb rfl) c2 ?_
    refine r_icmp_gen (t := 151) dX10_valueOf_58 rfl (by omega) (by omega) (fun h58 => ?_) (fun h58 => ?_)
    ·
      refine w_aload_n dX10_valueOf_151 h0 ?_
      refine r_getr  dX10_valueOf_152 ft_9_91 R rfl (hS _ _ rfl) rfl (lb rfl) (hM.1 35 (lb rfl) (lb rfl)) ?_
      refine w_iload_n dX10_valueOf_155 h1 ?_
      refine r_iald  dX10_valueOf_156 R rfl (hS _ _ rfl) rfl rfl (by omega) (lb rfl) (hA y hy).1 ?_
      refine w_iconst (v := 3) dX10_valueOf_157 (by decide) ?_
      refine r_icmp_neP (t := 166) dX10_valueOf_158 rfl (fun h158 => ?_) (fun h158 => ?_)
      ·
        refine w_lload_n dX10_valueOf_166 h3 ?_
        refine w_lconst (v := 0) dX10_valueOf_167 (by decide) ?_
        refine r_lc_ge (t := 176) dX10_valueOf_168 dX10_valueOf_169 rfl (fun h168 => ?_) (fun h168 => ?_)
        ·
          refine w_lload_n dX10_valueOf_176 h3 ?_
          refine w_lret dX10_valueOf_177 rfl ?_
          obtain rfl : n = tN τ 1 := by omega
          obtain ⟨l, e3⟩ : ∃ l, loN τ w V t (tN τ 1) = some l := by
            cases e : loN τ w V t (tN τ 1) with
            | none => rw [e, oL_none] at h168; exact absurd h168 (by decide)
            | some l => exact ⟨l, rfl⟩
          have e : vaN τ w V y = l := by unfold vaN; rw [if_neg ha0, if_neg ha1, if_neg h158, ← ht, e3]; rfl
          rw [e] at q; rw [e3]; exact q
        ·
          refine w_lconst (v := 0) dX10_valueOf_172 (by decide) ?_
          refine w_goto (t := 177) dX10_valueOf_173 rfl ?_
          refine w_lret dX10_valueOf_177 rfl ?_
          obtain rfl : n = tN τ 1 := by omega
          have e3 : loN τ w V t (tN τ 1) = none := by
            cases e : loN τ w V t (tN τ 1) with
            | none => rfl
            | some l => rw [e, oL_some (by have := lo_le hV hv (by omega) l e; omega)] at h168; exact absurd h168 (by have : Int64.toInt 0 = 0 := rfl; omega)
          have e : vaN τ w V y = 0 := by unfold vaN; rw [if_neg ha0, if_neg ha1, if_neg h158, ← ht, e3]; rfl
          rw [e] at q; exact q
      ·
        refine w_lload dX10_valueOf_161 h5 ?_
        refine w_goto (t := 177) dX10_valueOf_163 rfl ?_
        refine w_lret dX10_valueOf_177 rfl ?_
        obtain rfl : n = tN τ 1 := by omega
        have e : vaN τ w V y = hiN τ w V t (tN τ 1) := by unfold vaN; rw [if_neg ha0, if_neg ha1, if_pos h158, ht]
        rw [e] at q; exact q
    ·
      refine w_aload_n dX10_valueOf_61 h0 ?_
      refine r_getr  dX10_valueOf_62 ft_9_103 R rfl (hS _ _ rfl) rfl (lb rfl) (hM.1 40 (lb rfl) (lb rfl)) ?_
      refine w_iload dX10_valueOf_65 h7 ?_
      refine r_zald  dX10_valueOf_67 R rfl (hS _ _ rfl) rfl rfl (by omega) (lb rfl) (hKQ.2.2.1 n (by omega)) ?_
      refine w_if_eq (t := 145) dX10_valueOf_68 rfl (fun h68 => ?_) (fun h68 => ?_)
      ·
        refine w_iinc dX10_valueOf_145 h7 (nI_1 _) (lb rfl) ?_
        refine w_goto (t := 52) dX10_valueOf_148 rfl ?_
        exact ih (n + 1) _ (by omega) (by omega) h0 h1 h2 (by rw [(lo_f (Or.inl (b32_eq h68))).1]; exact h3) (by rw [(lo_f (Or.inl (b32_eq h68))).2]; exact h5) rfl q
      ·
        refine w_aload_n dX10_valueOf_71 h0 ?_
        refine r_getr  dX10_valueOf_72 ft_9_33 R rfl (hS _ _ rfl) rfl (lb rfl) (hM.1 9 (lb rfl) (lb rfl)) ?_
        refine w_iload dX10_valueOf_75 h7 ?_
        refine r_iald  dX10_valueOf_77 R rfl (hS _ _ rfl) rfl rfl (by omega) (lb rfl) (hsec n (by omega)).2.2.2.2.2.1 ?_
        refine w_iload_n dX10_valueOf_78 h2 ?_
        refine r_icmp_neP (t := 145) dX10_valueOf_79 rfl (fun h79 => ?_) (fun h79 => ?_)
        ·
          refine w_iinc dX10_valueOf_145 h7 (nI_1 _) (lb rfl) ?_
          refine w_goto (t := 52) dX10_valueOf_148 rfl ?_
          exact ih (n + 1) _ (by omega) (by omega) h0 h1 h2 (by rw [(lo_f (Or.inr h79)).1]; exact h3) (by rw [(lo_f (Or.inr h79)).2]; exact h5) rfl q
        ·
          have hpo := poN_le hV (w := w) hv (x := n) (by omega)
          have hz := (hV.2.1 n (by omega)).2.2.1
          obtain ⟨z, hz1, hz2⟩ := nI_ofI hz.1
          have hz9 : z ≤ 20000 := by have := hz.2; rw [hz2, nI_toInt hz1] at this; omega
          have hhi := hi_le hV (w := w) hv (t := t) (n := n) (by omega)
          refine w_aload_n dX10_valueOf_82 h0 ?_
          refine w_iload dX10_valueOf_83 h7 ?_
          refine r_inv1  dX10_valueOf_85 mt_9_245 R rfl (hS _ _ rfl) rfl (lb rfl) (lb rfl) (lb rfl) (lb rfl) rfl (c10_placeOf R hS hV hF hP (x := n) (by omega) (b32_ne h68) ⟨_, rfl, ?_⟩)
          refine w_lstore dX10_valueOf_88 (lb rfl) rfl ?_
          refine w_lload_n dX10_valueOf_90 h3 ?_
          refine w_lconst (v := 0) dX10_valueOf_91 (by decide) ?_
          refine r_lc_lt (t := 103) dX10_valueOf_92 dX10_valueOf_93 rfl (fun h92 => ?_) (fun h92 => ?_)
          ·
            refine w_lload dX10_valueOf_103 rfl ?_
            refine w_goto (t := 109) dX10_valueOf_105 rfl ?_
            refine w_lstore_n dX10_valueOf_109 (lb rfl) rfl ?_
            refine w_lload dX10_valueOf_110 rfl ?_
            refine w_aload_n dX10_valueOf_112 h0 ?_
            refine r_getr  dX10_valueOf_113 ft_9_20 R rfl (hS _ _ rfl) rfl (lb rfl) (hM.1 5 (lb rfl) (lb rfl)) ?_
            refine w_iload dX10_valueOf_116 h7 ?_
            refine r_iald  dX10_valueOf_118 R rfl (hS _ _ rfl) rfl rfl (by omega) (lb rfl) ((hsec n (by omega)).2.2.1.trans hz2) ?_
            refine w_i2l dX10_valueOf_119 ?_
            rw [nI_l (by omega)]
            refine w_ladd dX10_valueOf_120 ?_
            rw [lN_add]
            refine w_lload dX10_valueOf_121 h5 ?_
            refine r_lc_le (t := 141) dX10_valueOf_123 dX10_valueOf_124 rfl (fun h123 => ?_) (fun h123 => ?_)
            ·
              refine w_lload dX10_valueOf_141 h5 ?_
              refine w_lstore dX10_valueOf_143 (lb rfl) rfl ?_
              refine w_iinc dX10_valueOf_145 h7 (nI_1 _) (lb rfl) ?_
              refine w_goto (t := 52) dX10_valueOf_148 rfl ?_
              have st := lo_t (V := V) (w := w) (b32_ne h68) h79
              rw [hz2, clN hz1] at st
              have e3 : loN τ w V t n = none := by
                cases e : loN τ w V t n with
                | none => rfl
                | some l => rw [e, oL_some (by have := lo_le hV hv (by omega) l e; omega)] at h92; exact absurd h92 (by have : Int64.toInt 0 = 0 := rfl; omega)
              rw [e3] at st
              rw [lN_toInt (by omega), lN_toInt (by omega)] at h123
              rw [if_neg (by omega)] at st
              exact ih (n + 1) _ (by omega) (by omega) h0 h1 h2 (by rw [st.1]; rfl) (by rw [st.2]; rfl) rfl q
            ·
              refine w_lload dX10_valueOf_127 rfl ?_
              refine w_aload_n dX10_valueOf_129 h0 ?_
              refine r_getr  dX10_valueOf_130 ft_9_20 R rfl (hS _ _ rfl) rfl (lb rfl) (hM.1 5 (lb rfl) (lb rfl)) ?_
              refine w_iload dX10_valueOf_133 h7 ?_
              refine r_iald  dX10_valueOf_135 R rfl (hS _ _ rfl) rfl rfl (by omega) (lb rfl) ((hsec n (by omega)).2.2.1.trans hz2) ?_
              refine w_i2l dX10_valueOf_136 ?_
              rw [nI_l (by omega)]
              refine w_ladd dX10_valueOf_137 ?_
              rw [lN_add]
              refine w_goto (t := 143) dX10_valueOf_138 rfl ?_
              refine w_lstore dX10_valueOf_143 (lb rfl) rfl ?_
              refine w_iinc dX10_valueOf_145 h7 (nI_1 _) (lb rfl) ?_
              refine w_goto (t := 52) dX10_valueOf_148 rfl ?_
              have st := lo_t (V := V) (w := w) (b32_ne h68) h79
              rw [hz2, clN hz1] at st
              have e3 : loN τ w V t n = none := by
                cases e : loN τ w V t n with
                | none => rfl
                | some l => rw [e, oL_some (by have := lo_le hV hv (by omega) l e; omega)] at h92; exact absurd h92 (by have : Int64.toInt 0 = 0 := rfl; omega)
              rw [e3] at st
              rw [lN_toInt (by omega), lN_toInt (by omega)] at h123
              rw [if_pos (by omega)] at st
              exact ih (n + 1) _ (by omega) (by omega) h0 h1 h2 (by rw [st.1]; rfl) (by rw [st.2]; rfl) rfl q
          ·
            refine w_lload dX10_valueOf_96 rfl ?_
            refine w_lload_n dX10_valueOf_98 h3 ?_
            refine r_lc_ge (t := 108) dX10_valueOf_99 dX10_valueOf_100 rfl (fun h99 => ?_) (fun h99 => ?_)
            ·
              refine w_lload_n dX10_valueOf_108 h3 ?_
              refine w_lstore_n dX10_valueOf_109 (lb rfl) rfl ?_
              refine w_lload dX10_valueOf_110 rfl ?_
              refine w_aload_n dX10_valueOf_112 h0 ?_
              refine r_getr  dX10_valueOf_113 ft_9_20 R rfl (hS _ _ rfl) rfl (lb rfl) (hM.1 5 (lb rfl) (lb rfl)) ?_
              refine w_iload dX10_valueOf_116 h7 ?_
              refine r_iald  dX10_valueOf_118 R rfl (hS _ _ rfl) rfl rfl (by omega) (lb rfl) ((hsec n (by omega)).2.2.1.trans hz2) ?_
              refine w_i2l dX10_valueOf_119 ?_
              rw [nI_l (by omega)]
              refine w_ladd dX10_valueOf_120 ?_
              rw [lN_add]
              refine w_lload dX10_valueOf_121 h5 ?_
              refine r_lc_le (t := 141) dX10_valueOf_123 dX10_valueOf_124 rfl (fun h123 => ?_) (fun h123 => ?_)
              ·
                refine w_lload dX10_valueOf_141 h5 ?_
                refine w_lstore dX10_valueOf_143 (lb rfl) rfl ?_
                refine w_iinc dX10_valueOf_145 h7 (nI_1 _) (lb rfl) ?_
                refine w_goto (t := 52) dX10_valueOf_148 rfl ?_
                have st := lo_t (V := V) (w := w) (b32_ne h68) h79
                rw [hz2, clN hz1] at st
                obtain ⟨l, e3⟩ : ∃ l, loN τ w V t n = some l := by
                  cases e : loN τ w V t n with
                  | none => rw [e, oL_none] at h92; exact absurd h92 (by decide)
                  | some l => exact ⟨l, rfl⟩
                have hl := lo_le hV hv (by omega) l e3
                rw [e3] at st h99
                rw [oL_some (by omega), lN_toInt (by omega)] at h99
                rw [show (match (some l : Option Nat) with | none => some (poN τ w V n) | some l => some (if poN τ w V n < l then poN τ w V n else l)) = some l from congrArg some (if_neg (by omega))] at st
                rw [lN_toInt (by omega), lN_toInt (by omega)] at h123
                rw [if_neg (by omega)] at st
                exact ih (n + 1) _ (by omega) (by omega) h0 h1 h2 (by rw [st.1]; rw [← e3]; rfl) (by rw [st.2]; rfl) rfl q
              ·
                refine w_lload dX10_valueOf_127 rfl ?_
                refine w_aload_n dX10_valueOf_129 h0 ?_
                refine r_getr  dX10_valueOf_130 ft_9_20 R rfl (hS _ _ rfl) rfl (lb rfl) (hM.1 5 (lb rfl) (lb rfl)) ?_
                refine w_iload dX10_valueOf_133 h7 ?_
                refine r_iald  dX10_valueOf_135 R rfl (hS _ _ rfl) rfl rfl (by omega) (lb rfl) ((hsec n (by omega)).2.2.1.trans hz2) ?_
                refine w_i2l dX10_valueOf_136 ?_
                rw [nI_l (by omega)]
                refine w_ladd dX10_valueOf_137 ?_
                rw [lN_add]
                refine w_goto (t := 143) dX10_valueOf_138 rfl ?_
                refine w_lstore dX10_valueOf_143 (lb rfl) rfl ?_
                refine w_iinc dX10_valueOf_145 h7 (nI_1 _) (lb rfl) ?_
                refine w_goto (t := 52) dX10_valueOf_148 rfl ?_
                have st := lo_t (V := V) (w := w) (b32_ne h68) h79
                rw [hz2, clN hz1] at st
                obtain ⟨l, e3⟩ : ∃ l, loN τ w V t n = some l := by
                  cases e : loN τ w V t n with
                  | none => rw [e, oL_none] at h92; exact absurd h92 (by decide)
                  | some l => exact ⟨l, rfl⟩
                have hl := lo_le hV hv (by omega) l e3
                rw [e3] at st h99
                rw [oL_some (by omega), lN_toInt (by omega)] at h99
                rw [show (match (some l : Option Nat) with | none => some (poN τ w V n) | some l => some (if poN τ w V n < l then poN τ w V n else l)) = some l from congrArg some (if_neg (by omega))] at st
                rw [lN_toInt (by omega), lN_toInt (by omega)] at h123
                rw [if_pos (by omega)] at st
                exact ih (n + 1) _ (by omega) (by omega) h0 h1 h2 (by rw [st.1]; rw [← e3]; rfl) (by rw [st.2]; rfl) rfl q
            ·
              refine w_lload dX10_valueOf_103 rfl ?_
              refine w_goto (t := 109) dX10_valueOf_105 rfl ?_
              refine w_lstore_n dX10_valueOf_109 (lb rfl) rfl ?_
              refine w_lload dX10_valueOf_110 rfl ?_
              refine w_aload_n dX10_valueOf_112 h0 ?_
              refine r_getr  dX10_valueOf_113 ft_9_20 R rfl (hS _ _ rfl) rfl (lb rfl) (hM.1 5 (lb rfl) (lb rfl)) ?_
              refine w_iload dX10_valueOf_116 h7 ?_
              refine r_iald  dX10_valueOf_118 R rfl (hS _ _ rfl) rfl rfl (by omega) (lb rfl) ((hsec n (by omega)).2.2.1.trans hz2) ?_
              refine w_i2l dX10_valueOf_119 ?_
              rw [nI_l (by omega)]
              refine w_ladd dX10_valueOf_120 ?_
              rw [lN_add]
              refine w_lload dX10_valueOf_121 h5 ?_
              refine r_lc_le (t := 141) dX10_valueOf_123 dX10_valueOf_124 rfl (fun h123 => ?_) (fun h123 => ?_)
              ·
                refine w_lload dX10_valueOf_141 h5 ?_
                refine w_lstore dX10_valueOf_143 (lb rfl) rfl ?_
                refine w_iinc dX10_valueOf_145 h7 (nI_1 _) (lb rfl) ?_
                refine w_goto (t := 52) dX10_valueOf_148 rfl ?_
                have st := lo_t (V := V) (w := w) (b32_ne h68) h79
                rw [hz2, clN hz1] at st
                obtain ⟨l, e3⟩ : ∃ l, loN τ w V t n = some l := by
                  cases e : loN τ w V t n with
                  | none => rw [e, oL_none] at h92; exact absurd h92 (by decide)
                  | some l => exact ⟨l, rfl⟩
                have hl := lo_le hV hv (by omega) l e3
                rw [e3] at st h99
                rw [oL_some (by omega), lN_toInt (by omega)] at h99
                rw [show (match (some l : Option Nat) with | none => some (poN τ w V n) | some l => some (if poN τ w V n < l then poN τ w V n else l)) = some (poN τ w V n) from congrArg some (if_pos (by omega))] at st
                rw [lN_toInt (by omega), lN_toInt (by omega)] at h123
                rw [if_neg (by omega)] at st
                exact ih (n + 1) _ (by omega) (by omega) h0 h1 h2 (by rw [st.1]; rfl) (by rw [st.2]; rfl) rfl q
              ·
                refine w_lload dX10_valueOf_127 rfl ?_
                refine w_aload_n dX10_valueOf_129 h0 ?_
                refine r_getr  dX10_valueOf_130 ft_9_20 R rfl (hS _ _ rfl) rfl (lb rfl) (hM.1 5 (lb rfl) (lb rfl)) ?_
                refine w_iload dX10_valueOf_133 h7 ?_
                refine r_iald  dX10_valueOf_135 R rfl (hS _ _ rfl) rfl rfl (by omega) (lb rfl) ((hsec n (by omega)).2.2.1.trans hz2) ?_
                refine w_i2l dX10_valueOf_136 ?_
                rw [nI_l (by omega)]
                refine w_ladd dX10_valueOf_137 ?_
                rw [lN_add]
                refine w_goto (t := 143) dX10_valueOf_138 rfl ?_
                refine w_lstore dX10_valueOf_143 (lb rfl) rfl ?_
                refine w_iinc dX10_valueOf_145 h7 (nI_1 _) (lb rfl) ?_
                refine w_goto (t := 52) dX10_valueOf_148 rfl ?_
                have st := lo_t (V := V) (w := w) (b32_ne h68) h79
                rw [hz2, clN hz1] at st
                obtain ⟨l, e3⟩ : ∃ l, loN τ w V t n = some l := by
                  cases e : loN τ w V t n with
                  | none => rw [e, oL_none] at h92; exact absurd h92 (by decide)
                  | some l => exact ⟨l, rfl⟩
                have hl := lo_le hV hv (by omega) l e3
                rw [e3] at st h99
                rw [oL_some (by omega), lN_toInt (by omega)] at h99
                rw [show (match (some l : Option Nat) with | none => some (poN τ w V n) | some l => some (if poN τ w V n < l then poN τ w V n else l)) = some (poN τ w V n) from congrArg some (if_pos (by omega))] at st
                rw [lN_toInt (by omega), lN_toInt (by omega)] at h123
                rw [if_pos (by omega)] at st
                exact ih (n + 1) _ (by omega) (by omega) h0 h1 h2 (by rw [st.1]; rfl) (by rw [st.2]; rfl) rfl q
theorem c10_valueOf (R : rx_R b0 O z1 z2 s G) (hS : rx_in s) {τ : tx_T} (hV : TV τ) {w : Bool} (hF : NF s τ w) {V : List (Nat × Nat)} (hP : PL s τ w V) (hv : ∀ x, nvN V x ≤ 200) {y : Nat} (hy : y < tN τ 2) (hk : aimI τ y = 1 → kin (kR τ) (cl (atI τ y)) = true) (q : Q (.inl (some (.long (lN (vaN τ w V y))))) G) : mx_W (gt_P b0 mi E) mX10_valueOf 0 (mx_en 0 [.ref (rA s 0 0), .int (nI y)]) [] G Q := by
  obtain ⟨hK, hI⟩ := id hF
  obtain ⟨hN, hKQ, hKV⟩ := id hK
  obtain ⟨hT, hL, hD, hA⟩ := id hN
  obtain ⟨hM, ⟨c1, c2, c13, c14, c20, c26⟩, hsec, hby, hsy, hre, hro, hba⟩ := id hT
  have hV0 := hV.1
  refine w_aload_n dX10_valueOf_0 rfl ?_
  refine r_getr  dX10_valueOf_1 ft_9_94 R rfl (hS _ _ rfl) rfl (lb rfl) (hM.1 36 (lb rfl) (lb rfl)) ?_
  refine w_iload_n dX10_valueOf_4 rfl ?_
  refine r_iald  dX10_valueOf_5 R rfl (hS _ _ rfl) rfl rfl (by omega) (lb rfl) (hA y hy).2.1 ?_
  refine w_istore_n dX10_valueOf_6 (lb rfl) ?_
  refine w_aload_n dX10_valueOf_7 rfl ?_
  refine r_getr  dX10_valueOf_8 ft_9_91 R rfl (hS _ _ rfl) rfl (lb rfl) (hM.1 35 (lb rfl) (lb rfl)) ?_
  refine w_iload_n dX10_valueOf_11 rfl ?_
  refine r_iald  dX10_valueOf_12 R rfl (hS _ _ rfl) rfl rfl (by omega) (lb rfl) (hA y hy).1 ?_
  refine r_if_neP (t := 18) dX10_valueOf_13 rfl (fun h13 => ?_) (fun h13 => ?_)
  ·
    refine w_aload_n dX10_valueOf_18 rfl ?_
    refine r_getr  dX10_valueOf_19 ft_9_91 R rfl (hS _ _ rfl) rfl (lb rfl) (hM.1 35 (lb rfl) (lb rfl)) ?_
    refine w_iload_n dX10_valueOf_22 rfl ?_
    refine r_iald  dX10_valueOf_23 R rfl (hS _ _ rfl) rfl rfl (by omega) (lb rfl) (hA y hy).1 ?_
    refine w_iconst (v := 1) dX10_valueOf_24 (by decide) ?_
    refine r_icmp_neP (t := 42) dX10_valueOf_25 rfl (fun h25 => ?_) (fun h25 => ?_)
    ·
      refine w_ldc2 dX10_valueOf_42 ct_9_76 ?_
      refine w_lstore_n dX10_valueOf_45 (lb rfl) rfl ?_
      refine w_lconst (v := 0) dX10_valueOf_46 (by decide) ?_
      refine w_lstore dX10_valueOf_47 (lb rfl) rfl ?_
      refine w_iconst (v := 0) dX10_valueOf_49 (by decide) ?_
      refine w_istore dX10_valueOf_50 (lb rfl) ?_
      exact c10_valueOf_l R hS hV hF hP hv hy rfl h13 h25 (tN τ 1 + 1) 0 _ (by omega) (by omega) rfl rfl rfl rfl rfl rfl q
    ·
      obtain ⟨d, g1, g2, g3, g4, g5⟩ := at_place hV hy h25
      obtain ⟨z, z1', z2'⟩ := nI_ofI (by rw [← g3] at g4; exact g4)
      have zl : z < tN τ 1 := by rw [← g3, z2', clN z1'] at g5; exact g5
      have ho : offI τ y = tT τ 18 d := by unfold offI; rw [g1]
      obtain ⟨f, f1, f2⟩ := nI_ofI (hV.2.2.1 d g2).2.2.2.1.1
      refine w_aload_n dX10_valueOf_28 rfl ?_
      refine w_iload_n dX10_valueOf_29 (show some (Value.int (atI τ y)) = some (Value.int (nI z)) by rw [z2']) ?_
      refine r_inv1  dX10_valueOf_30 mt_9_245 R rfl (hS _ _ rfl) rfl (lb rfl) (lb rfl) (lb rfl) (lb rfl) rfl (c10_placeOf R hS hV hF hP (x := z) zl (by have := hk h25; rw [z2', clN z1'] at this; exact this) ⟨_, rfl, ?_⟩)
      refine w_aload_n dX10_valueOf_33 rfl ?_
      refine r_getr  dX10_valueOf_34 ft_9_97 R rfl (hS _ _ rfl) rfl (lb rfl) (hM.1 37 (lb rfl) (lb rfl)) ?_
      refine w_iload_n dX10_valueOf_37 rfl ?_
      refine r_iald  dX10_valueOf_38 R rfl (hS _ _ rfl) rfl rfl (by omega) (lb rfl) ((hA y hy).2.2.trans (ho.trans f2)) ?_
      refine w_i2l dX10_valueOf_39 ?_
      rw [nI_l f1]
      refine w_ladd dX10_valueOf_40 ?_
      rw [lN_add]
      refine w_lret dX10_valueOf_41 rfl ?_
      have e : vaN τ w V y = poN τ w V z + f := by unfold vaN; rw [if_neg h13, if_pos h25, z2', clN z1', ho, f2, clN f1]
      rw [e] at q; exact q
  ·
    refine w_lconst (v := 0) dX10_valueOf_16 (by decide) ?_
    refine w_lret dX10_valueOf_17 rfl ?_
    have e : vaN τ w V y = 0 := by unfold vaN; rw [if_pos h13]
    rw [e] at q; exact q
theorem c10_v (R : rx_R b0 O z1 z2 s G) (hS : rx_in s) {τ : tx_T} (hV : TV τ) {w : Bool} (hF : NF s τ w) {V : List (Nat × Nat)} (hP : PL s τ w V) (hv : ∀ x, nvN V x ≤ 200) {k : Nat} (hk : k < tN τ 3) (ho : aimI τ (cl (tT τ 24 k)) = 1 → kin (kR τ) (cl (atI τ (cl (tT τ 24 k)))) = true) (q : ∀ u : Int64, u.toInt = vvI τ w V k → u = lN (vaN τ w V (cl (tT τ 24 k))) + (tT τ 25 k).toInt64 → Q (.inl (some (.long u))) G) : mx_W (gt_P b0 mi E) mX10_v 0 (mx_en 0 [.ref (rA s 0 0), .int (nI k)]) [] G Q := by
  obtain ⟨hK, hI⟩ := id hF
  obtain ⟨hN, hKQ, hKV⟩ := id hK
  obtain ⟨hT, hL, hD, hA⟩ := id hN
  obtain ⟨hM, ⟨c1, c2, c13, c14, c20, c26⟩, hsec, hby, hsy, hre, hro, hba⟩ := id hT
  have hV0 := hV.1
  have hy := (hV.2.2.2.1 k hk).2.2.2.1
  obtain ⟨y, hy1, hy2⟩ := nI_ofI hy.1
  have hyl : y < tN τ 2 := by have := hy.2; rw [hy2, nI_toInt hy1] at this; omega
  have cy : cl (tT τ 24 k) = y := by rw [hy2, clN hy1]
  have hva := va_le hV (w := w) hv hyl
  refine w_aload_n dX10_v_0 rfl ?_
  refine w_aload_n dX10_v_1 rfl ?_
  refine r_getr  dX10_v_2 ft_9_67 R rfl (hS _ _ rfl) rfl (lb rfl) (hM.1 24 (lb rfl) (lb rfl)) ?_
  refine w_iload_n dX10_v_5 rfl ?_
  refine r_iald  dX10_v_6 R rfl (hS _ _ rfl) rfl rfl (by omega) (lb rfl) ((hre k hk).2.2.2.1.trans hy2) ?_
  refine r_inv1  dX10_v_7 mt_9_249 R rfl (hS _ _ rfl) rfl (lb rfl) (lb rfl) (lb rfl) (lb rfl) rfl (c10_valueOf R hS hV hF hP hv hyl (by rw [cy] at ho; exact ho) ⟨_, rfl, ?_⟩)
  refine w_aload_n dX10_v_10 rfl ?_
  refine r_getr  dX10_v_11 ft_9_70 R rfl (hS _ _ rfl) rfl (lb rfl) (hM.1 25 (lb rfl) (lb rfl)) ?_
  refine w_iload_n dX10_v_14 rfl ?_
  refine r_iald  dX10_v_15 R rfl (hS _ _ rfl) rfl rfl (by omega) (lb rfl) (hre k hk).2.2.2.2 ?_
  refine w_i2l dX10_v_16 ?_
  refine w_ladd dX10_v_17 ?_
  exact w_lret dX10_v_18 rfl (q _ (by rw [addL (by omega)]; unfold vvI; rw [cy]) (by rw [cy]))
theorem c10_isBranchNear {a : Nat} {u : Int64} (qt : -32768 ≤ u.toInt ∧ u.toInt ≤ 32767 → Q (.inl (some (.int 1))) G) (qf : ¬ (-32768 ≤ u.toInt ∧ u.toInt ≤ 32767) → Q (.inl (some (.int 0))) G) : mx_W (gt_P b0 mi E) mX10_isBranchNear 0 (mx_en 0 [.ref a, .long u]) [] G Q := by
  refine w_lload_n dX10_isBranchNear_0 rfl ?_
  refine w_ldc2 dX10_isBranchNear_1 ct_9_252 ?_
  refine w_ldc2 dX10_isBranchNear_4 ct_9_254 ?_
  refine r_stat3 dX10_isBranchNear_7 mt_9_155 (lb rfl) (lb rfl) (lb rfl) (lb rfl) rfl (c10_inI rfl (b := -32768) (by decide) (c := 32767) (by decide) (fun i7a i7b => ⟨_, rfl, ?_⟩) (fun i7 => ⟨_, rfl, ?_⟩))
  ·
    exact w_iret dX10_isBranchNear_10 rfl rfl (qt ⟨i7a, i7b⟩)
  ·
    exact w_iret dX10_isBranchNear_10 rfl rfl (qf (fun e => i7 e.1 e.2))
theorem c10_sameAim (R : rx_R b0 O z1 z2 s G) (hS : rx_in s) {τ : tx_T} (hV : TV τ) {w : Bool} (hF : NF s τ w) {p q : Nat} (hp : p < tN τ 2) (hq : q < tN τ 2) (qt : saB τ p q = true → Q (.inl (some (.int 1))) G) (qf : saB τ p q = false → Q (.inl (some (.int 0))) G) : mx_W (gt_P b0 mi E) mX10_sameAim 0 (mx_en 0 [.ref (rA s 0 0), .int (nI p), .int (nI q)]) [] G Q := by
  obtain ⟨hK, hI⟩ := id hF
  obtain ⟨hN, hKQ, hKV⟩ := id hK
  obtain ⟨hT, hL, hD, hA⟩ := id hN
  obtain ⟨hM, ⟨c1, c2, c13, c14, c20, c26⟩, hsec, hby, hsy, hre, hro, hba⟩ := id hT
  have hV0 := hV.1
  refine w_aload_n dX10_sameAim_0 rfl ?_
  refine r_getr  dX10_sameAim_1 ft_9_91 R rfl (hS _ _ rfl) rfl (lb rfl) (hM.1 35 (lb rfl) (lb rfl)) ?_
  refine w_iload_n dX10_sameAim_4 rfl ?_
  refine r_iald  dX10_sameAim_5 R rfl (hS _ _ rfl) rfl rfl (by omega) (lb rfl) (hA p hp).1 ?_
  refine w_aload_n dX10_sameAim_6 rfl ?_
  refine r_getr  dX10_sameAim_7 ft_9_91 R rfl (hS _ _ rfl) rfl (lb rfl) (hM.1 35 (lb rfl) (lb rfl)) ?_
  refine w_iload_n dX10_sameAim_10 rfl ?_
  refine r_iald  dX10_sameAim_11 R rfl (hS _ _ rfl) rfl rfl (by omega) (lb rfl) (hA q hq).1 ?_
  refine r_icmp_neP (t := 49) dX10_sameAim_12 rfl (fun h12 => ?_) (fun h12 => ?_)
  ·
    refine w_iconst (v := 0) dX10_sameAim_49 (by decide) ?_
    exact w_iret dX10_sameAim_50 rfl rfl (qf (by unfold saB; simp [h12]))
  ·
    refine w_aload_n dX10_sameAim_15 rfl ?_
    refine r_getr  dX10_sameAim_16 ft_9_94 R rfl (hS _ _ rfl) rfl (lb rfl) (hM.1 36 (lb rfl) (lb rfl)) ?_
    refine w_iload_n dX10_sameAim_19 rfl ?_
    refine r_iald  dX10_sameAim_20 R rfl (hS _ _ rfl) rfl rfl (by omega) (lb rfl) (hA p hp).2.1 ?_
    refine w_aload_n dX10_sameAim_21 rfl ?_
    refine r_getr  dX10_sameAim_22 ft_9_94 R rfl (hS _ _ rfl) rfl (lb rfl) (hM.1 36 (lb rfl) (lb rfl)) ?_
    refine w_iload_n dX10_sameAim_25 rfl ?_
    refine r_iald  dX10_sameAim_26 R rfl (hS _ _ rfl) rfl rfl (by omega) (lb rfl) (hA q hq).2.1 ?_
    refine r_icmp_neP (t := 49) dX10_sameAim_27 rfl (fun h27 => ?_) (fun h27 => ?_)
    ·
      refine w_iconst (v := 0) dX10_sameAim_49 (by decide) ?_
      exact w_iret dX10_sameAim_50 rfl rfl (qf (by unfold saB; simp [h27]))
    ·
      refine w_aload_n dX10_sameAim_30 rfl ?_
      refine r_getr  dX10_sameAim_31 ft_9_97 R rfl (hS _ _ rfl) rfl (lb rfl) (hM.1 37 (lb rfl) (lb rfl)) ?_
      refine w_iload_n dX10_sameAim_34 rfl ?_
      refine r_iald  dX10_sameAim_35 R rfl (hS _ _ rfl) rfl rfl (by omega) (lb rfl) (hA p hp).2.2 ?_
      refine w_aload_n dX10_sameAim_36 rfl ?_
      refine r_getr  dX10_sameAim_37 ft_9_97 R rfl (hS _ _ rfl) rfl (lb rfl) (hM.1 37 (lb rfl) (lb rfl)) ?_
      refine w_iload_n dX10_sameAim_40 rfl ?_
      refine r_iald  dX10_sameAim_41 R rfl (hS _ _ rfl) rfl rfl (by omega) (lb rfl) (hA q hq).2.2 ?_
      refine r_icmp_neP (t := 49) dX10_sameAim_42 rfl (fun h42 => ?_) (fun h42 => ?_)
      ·
        refine w_iconst (v := 0) dX10_sameAim_49 (by decide) ?_
        exact w_iret dX10_sameAim_50 rfl rfl (qf (by unfold saB; simp [h42]))
      ·
        refine w_iconst (v := 1) dX10_sameAim_45 (by decide) ?_
        refine w_goto (t := 50) dX10_sameAim_46 rfl ?_
        exact w_iret dX10_sameAim_50 rfl rfl (qt (by unfold saB; simp [h12, h27, h42]))
/-- the place of a veneer -/
noncomputable def vpN (τ : tx_T) (w : Bool) (V : List (Nat × Nat)) (x n : Nat) : Nat := upN (plN τ w V x + cl (tT τ 5 x)) 2 + 8 * (V.take n).countP (fun e => Nat.beq e.1 x)
theorem c10_veneerPlace_l (R : rx_R b0 O z1 z2 s G) (hS : rx_in s) {τ : tx_T} (hV : TV τ) {w : Bool} (hF : NF s τ w) {S : vS} (hvv : vV τ S) (hW : VS s S) (hP : PL s τ w S.1) {i x : Nat} (hi : i < S.1.length) (hx : x < tN τ 1) (hpl : plB τ w x = true)  : ∀ (d : Nat) (n : Nat) (L : mx_L), i - n < d → n ≤ i → L 0 = some (.ref (rA s 0 0)) → L 1 = some (.int (nI i)) → L 2 = some (.int (nI x)) → L 3 = some (.int (nI ((S.1.take (n)).countP (fun e => Nat.beq e.1 x)))) → L 4 = some (.int (nI n)) → (Q (.inl (some (.long (lN (vpN τ w S.1 x i))))) G) → mx_W (gt_P b0 mi E) mX10_veneerPlace 12 L [] G Q := by
  obtain ⟨hK, hI⟩ := id hF
  obtain ⟨hN, hKQ, hKV⟩ := id hK
  obtain ⟨hT, hL, hD, hA⟩ := id hN
  obtain ⟨hM, ⟨c1, c2, c13, c14, c20, c26⟩, hsec, hby, hsy, hre, hro, hba⟩ := id hT
  have hV0 := hV.1
  intro d
  induction d with
  | zero => intro n L hd; exact absurd hd (Nat.not_lt_zero _)
  | succ d ih =>
    intro n L hd hn h0 h1 h2 h3 h4 q
    have hsl := vV_len hvv
    refine w_iload dX10_veneerPlace_12 h4 ?_
    refine w_iload_n dX10_veneerPlace_14 h1 ?_
    refine r_icmp_gen (t := 43) dX10_veneerPlace_15 rfl (by omega) (by omega) (fun h15 => ?_) (fun h15 => ?_)
    ·
      have hz := (hV.2.1 x hx).2.2.1
      obtain ⟨z, hz1, hz2⟩ := nI_ofI hz.1
      have hz9 : z ≤ 20000 := by have := hz.2; rw [hz2, nI_toInt hz1] at this; omega
      have hpo := plN_le hV (w := w) (vV_n hV hvv) hx
      have hcp : (S.1.take n).countP (fun e => Nat.beq e.1 x) ≤ 200 := Nat.le_trans List.countP_le_length (by rw [List.length_take]; omega)
      refine w_aload_n dX10_veneerPlace_43 h0 ?_
      refine r_getr  dX10_veneerPlace_44 ft_9_121 R rfl (hS _ _ rfl) rfl (lb rfl) (hM.1 46 (lb rfl) (lb rfl)) ?_
      refine w_iload_n dX10_veneerPlace_47 h2 ?_
      refine r_lald  dX10_veneerPlace_48 R rfl (hS _ _ rfl) rfl rfl (by omega) (lb rfl) (hP.1 x hx hpl) ?_
      refine w_aload_n dX10_veneerPlace_49 h0 ?_
      refine r_getr  dX10_veneerPlace_50 ft_9_20 R rfl (hS _ _ rfl) rfl (lb rfl) (hM.1 5 (lb rfl) (lb rfl)) ?_
      refine w_iload_n dX10_veneerPlace_53 h2 ?_
      refine r_iald  dX10_veneerPlace_54 R rfl (hS _ _ rfl) rfl rfl (by omega) (lb rfl) ((hsec x hx).2.2.1.trans hz2) ?_
      refine w_i2l dX10_veneerPlace_55 ?_
      rw [nI_l (by omega)]
      refine w_ladd dX10_veneerPlace_56 ?_
      rw [lN_add]
      refine w_ldc2 dX10_veneerPlace_57 ct_9_189 ?_
      refine r_stat2 dX10_veneerPlace_60 mt_9_238 (lb rfl) (lb rfl) (lb rfl) (lb rfl) rfl (c10_up rfl (by decide) (a := 2) (by omega) (by omega) ⟨_, rfl, ?_⟩)
      refine w_ldc2 dX10_veneerPlace_63 ct_9_163 ?_
      refine w_iload_n dX10_veneerPlace_66 h3 ?_
      refine w_i2l dX10_veneerPlace_67 ?_
      refine w_lmul dX10_veneerPlace_68 ?_
      rw [nI_l (by omega), show (8 : Int64) = lN 8 from rfl, lN_mul]
      refine w_ladd dX10_veneerPlace_69 ?_
      rw [lN_add]
      refine w_lret dX10_veneerPlace_70 rfl ?_
      obtain rfl : n = i := by omega
      unfold vpN at q; rw [hz2, clN hz1] at q; exact q
    ·
      refine w_iload_n dX10_veneerPlace_18 h3 ?_
      refine w_aload_n dX10_veneerPlace_19 h0 ?_
      refine r_getr  dX10_veneerPlace_20 ft_9_130 R rfl (hS _ _ rfl) rfl (lb rfl) (hM.1 51 (lb rfl) (lb rfl)) ?_
      refine w_iload dX10_veneerPlace_23 h4 ?_
      refine r_iald  dX10_veneerPlace_25 R rfl (hS _ _ rfl) rfl rfl (by omega) (lb rfl) (hW.2.1 n (by omega)).1 ?_
      refine w_iload_n dX10_veneerPlace_26 h2 ?_
      refine r_icmp_neP (t := 34) dX10_veneerPlace_27 rfl (fun h27 => ?_) (fun h27 => ?_)
      ·
        refine w_iconst (v := nI 0) dX10_veneerPlace_34 (by decide) ?_
        refine w_iadd dX10_veneerPlace_35 ?_
        rw [nI_add]
        refine w_istore_n dX10_veneerPlace_36 (lb rfl) ?_
        refine w_iinc dX10_veneerPlace_37 h4 (nI_1 _) (lb rfl) ?_
        refine w_goto (t := 12) dX10_veneerPlace_40 rfl ?_
        have hb : Nat.beq (S.1[n]).1 x = false := by
          cases e : Nat.beq (S.1[n]).1 x
          · rfl
          · exact absurd (by rw [Nat.eq_of_beq_eq_true e]) h27
        exact ih (n + 1) _ (by omega) (by omega) h0 h1 h2 (by rw [cp_cnt n (by omega), hb]; rfl) rfl q
      ·
        refine w_iconst (v := nI 1) dX10_veneerPlace_30 (by decide) ?_
        refine w_goto (t := 35) dX10_veneerPlace_31 rfl ?_
        refine w_iadd dX10_veneerPlace_35 ?_
        rw [nI_add]
        refine w_istore_n dX10_veneerPlace_36 (lb rfl) ?_
        refine w_iinc dX10_veneerPlace_37 h4 (nI_1 _) (lb rfl) ?_
        refine w_goto (t := 12) dX10_veneerPlace_40 rfl ?_
        have hb : Nat.beq (S.1[n]).1 x = true := by
          have := (hvv.1 n (by omega)).1
          rw [(nI_eq (by omega) (by omega)).mp h27]; simp
        exact ih (n + 1) _ (by omega) (by omega) h0 h1 h2 (by rw [cp_cnt n (by omega), hb]; rfl) rfl q
theorem c10_veneerPlace (R : rx_R b0 O z1 z2 s G) (hS : rx_in s) {τ : tx_T} (hV : TV τ) {w : Bool} (hF : NF s τ w) {S : vS} (hvv : vV τ S) (hW : VS s S) (hP : PL s τ w S.1) {i : Nat} (hi : i < S.1.length) (hpl : plB τ w (S.1[i]).1 = true) (q : Q (.inl (some (.long (lN (vpN τ w S.1 (S.1[i]).1 i))))) G) : mx_W (gt_P b0 mi E) mX10_veneerPlace 0 (mx_en 0 [.ref (rA s 0 0), .int (nI i)]) [] G Q := by
  obtain ⟨hK, hI⟩ := id hF
  obtain ⟨hN, hKQ, hKV⟩ := id hK
  obtain ⟨hT, hL, hD, hA⟩ := id hN
  obtain ⟨hM, ⟨c1, c2, c13, c14, c20, c26⟩, hsec, hby, hsy, hre, hro, hba⟩ := id hT
  have hV0 := hV.1
  have hsl := vV_len hvv
  refine w_aload_n dX10_veneerPlace_0 rfl ?_
  refine r_getr  dX10_veneerPlace_1 ft_9_130 R rfl (hS _ _ rfl) rfl (lb rfl) (hM.1 51 (lb rfl) (lb rfl)) ?_
  refine w_iload_n dX10_veneerPlace_4 rfl ?_
  refine r_iald  dX10_veneerPlace_5 R rfl (hS _ _ rfl) rfl rfl (by omega) (lb rfl) (hW.2.1 i hi).1 ?_
  refine w_istore_n dX10_veneerPlace_6 (lb rfl) ?_
  refine w_iconst (v := 0) dX10_veneerPlace_7 (by decide) ?_
  refine w_istore_n dX10_veneerPlace_8 (lb rfl) ?_
  refine w_iconst (v := 0) dX10_veneerPlace_9 (by decide) ?_
  refine w_istore dX10_veneerPlace_10 (lb rfl) ?_
  exact c10_veneerPlace_l R hS hV hF hvv hW hP hi (hvv.1 i hi).1 hpl (i + 1) 0 _ (by omega) (by omega) rfl rfl rfl rfl rfl q
end
