/-! ===== The class places ===== -/
def wP (r f : Nat) : Bool := (Nat.beq r 20 && (Nat.beq f 18 || Nat.beq f 19)) || ((Nat.beq r 25 && Nat.beq f 5) || ((Nat.beq r 7 && (Nat.beq f 5 || Nat.beq f 6)) || (Nat.beq r 100 && (Nat.beq f 4 || (Nat.beq f 5 || (Nat.beq f 6 || (Nat.beq f 7 || Nat.beq f 8)))))))
def FD (E : Nat → Nat) (s : rx_S) (τ : tx_T) (w : Bool) : Prop := KD E s τ ∧ ∀ x, x < tN τ 1 → rX s 20 x 17 = oV (inO τ w x)
theorem FD_cf {E : Nat → Nat} {s s' : rx_S} {τ : tx_T} {w : Bool} (h : FD E s τ w) (hf : cf wP s s') : FD E s' τ w := ⟨KD_cf h.1 hf, fun x hx => (hf.2.2.1 20 17 x rfl).trans (h.2 x hx)⟩
def VC (s : rx_S) (τ : tx_T) (S : vS) : Prop := (∀ x, x < tN τ 1 → rX s 20 x 19 = .inl (.int (nI (nvN S.1 x)))) ∧ (∀ k, k < tN τ 3 → rX s 25 k 5 = .inl (.int (vnI τ S k))) ∧ rX s 7 0 6 = .inl (.int (nI S.1.length))
def VI (τ : tx_T) (w : Bool) (S : vS) : Prop := vV τ S ∧ vQ τ S ∧ vU τ S ∧ vT τ w S
theorem VI_nv {τ : tx_T} {w : Bool} {S : vS} (h : VI τ w S) (hV : TV τ) (x : Nat) : nvN S.1 x ≤ 200 := Nat.le_trans (nv_le h.1 x) hV.1.2.2.2.1
def PC (s : rx_S) (τ : tx_T) (w : Bool) (V : List (Nat × Nat)) : Prop := ∀ x, x < tN τ 1 → plB τ w x = true → rX s 20 x 18 = .inl (.long (lN (plN τ w V x)))
/-- the edges of kinds below k -/
def EK (s : rx_S) (τ : tx_T) (w : Bool) (V : List (Nat × Nat)) (k : Nat) : Prop := ∀ j, j < k → rL s 10 4 j = lN (bgN τ w V j) ∧ rL s 10 5 j = lN (enN τ w V j) ∧ rI s 10 6 j = b32 (hpB τ w j)
/-- the edges of sets -/
def ES (s : rx_S) (τ : tx_T) (w : Bool) (V : List (Nat × Nat)) : Prop := ∀ g, g < 8 → rL s 10 7 g = lN ((loN τ w V (nI g) (tN τ 1)).getD 0) ∧ rL s 10 8 g = lN (hiN τ w V (nI g) (tN τ 1))
theorem rwN_lt {τ : tx_T} (hV : TV τ) {w : Bool} {V : List (Nat × Nat)} (hv : ∀ x, nvN V x ≤ 200) {k t : Nat} (hk : k < 4) (ht : t ≤ tN τ 1) : rwN τ w V k (bgN τ w V k) t ≤ 2005300000 := by
  have h1 := bgN_le hV (w := w) hv hk
  have h2 := (rwN_le hV (w := w) hv k (bgN τ w V k) ht).1
  have h3 := hV.1.2.1
  have h4 : 21858 * t ≤ 21858 * 60 := Nat.mul_le_mul_left _ (by omega)
  have h5 : 1311480 * k ≤ 1311480 * 3 := Nat.mul_le_mul_left _ (by omega)
  omega
theorem nIcl {x : Int32} (h : 0 ≤ x.toInt) : nI (cl x) = x := by
  obtain ⟨j, hj, e⟩ := nI_ofI h
  rw [e, show cl (nI j) = j from nI_clamp hj]
section
variable {b0 mi z1 z2 : Nat} {E : Nat → Nat} {O : Nat → Option mx_C} {s : rx_S} {G : mx_H} {Q : mx_O → mx_H → Prop}
theorem c5_kept (R : rx_R b0 O z1 z2 s G) (hS : rx_in s) {τ : tx_T} (hT : CT E s τ) (hV : TV τ) {w : Bool} (hF : FD E s τ w) {x : Nat} (hx : x < tN τ 1) (q1 : kin (kR τ) x = true → Q (.inl (some (.int 1))) G) (q0 : kin (kR τ) x = false → Q (.inl (some (.int 0))) G) : mx_W (gt_P b0 mi E) mX5_isKept 0 (mx_en 0 [.ref (rA s 20 x)]) [] G Q := by
  have hvR := (kR_cl hV).2
  have hlen := kV_len hvR
  have hV0 := hV.1
  exact c5_isKept R (cT_Su hT hx) (hF.1.2.2.1 x hx) (fun e => q1 (by cases ek : kin (kR τ) x with | true => rfl | false => exact absurd ((krk_kin (by omega) _).mpr ek) e)) (fun e => q0 ((krk_kin (by omega) _).mp (Classical.not_not.mp e)))
theorem c5_plc (R : rx_R b0 O z1 z2 s G) (hS : rx_in s) {τ : tx_T} (hT : CT E s τ) (hV : TV τ) {w : Bool} (hF : FD E s τ w) {x : Nat} (hx : x < tN τ 1) (q1 : plB τ w x = true → Q (.inl (some (.int 1))) G) (q0 : plB τ w x = false → Q (.inl (some (.int 0))) G) : mx_W (gt_P b0 mi E) mX5_isPlaced 0 (mx_en 0 [.ref (rA s 20 x)]) [] G Q := by
  have hvR := (kR_cl hV).2
  have hlen := kV_len hvR
  have hV0 := hV.1
  refine c5_isPlaced R (cT_Su hT hx) (hF.1.2.2.1 x hx) (hF.2 x hx) (fun e => q1 ?_) (fun e => q0 ?_)
  · have hk : kin (kR τ) x = true := by cases ek : kin (kR τ) x with | true => rfl | false => exact absurd ((krk_kin (by omega) _).mpr ek) e.1
    unfold plB; rw [hk, e.2]; rfl
  · unfold plB
    cases ek : kin (kR τ) x with
    | false => rfl
    | true =>
      cases ei : inO τ w x with
      | some j => rfl
      | none => exact absurd ⟨(fun q => (by rw [(krk_kin (by omega) _).mp q] at ek; cases ek)), ei⟩ e
theorem c5_upN {p a : Nat} (ha : a ≤ 8) (hp : p < 2 ^ 31) (q : Q (.inl (some (.long (lN (upN p a))))) G) : mx_W (gt_P b0 mi E) mX5_alignedUp 0 (mx_en 0 [.long (lN p), .int (nI a)]) [] G Q := by
  refine c5_up ?_
  rw [sh1 ha, upC ha hp]; exact q
theorem c5_pvN (R : rx_R b0 O z1 z2 s G) {i : Nat} (hu : rU s 20 i = true) {p z m : Nat} (hp : rX s 20 i 18 = .inl (.long (lN p))) (hz : rX s 20 i 3 = .inl (.int (nI z))) (hb : p + z < 2 ^ 31) (hz2 : z < 2 ^ 31) (hm : m < 2 ^ 31) (q : Q (.inl (some (.long (lN (upN (p + z) 2 + 8 * m))))) G) : mx_W (gt_P b0 mi E) mX5_placeOfVeneer 0 (mx_en 0 [.ref (rA s 20 i), .int (nI m)]) [] G Q := by
  refine c5_pv R hu hp hz ?_
  rw [show (2 : Int32) = nI 2 from rfl, sh1 (by omega), nI_l hz2, lN_add, upC (by omega) hb, nI_l hm, show (8 : Int64) = lN 8 from rfl, lN_mul, lN_add, Nat.mul_comm m 8]; exact q
theorem c5_endN {τ : tx_T} (R : rx_R b0 O z1 z2 s G) (hV : TV τ) (hT : CT E s τ) {i : Nat} (hi : i < tN τ 1) {p : Nat} {V : List (Nat × Nat)} (hp : rX s 20 i 18 = .inl (.long (lN p))) (hv : rX s 20 i 19 = .inl (.int (nI (nvN V i)))) (hn : nvN V i ≤ 200) (hb : p < 2010000000) (q : Q (.inl (some (.long (lN (endN τ V i p))))) G) : mx_W (gt_P b0 mi E) mX5_endWithVeneers 0 (mx_en 0 [.ref (rA s 20 i)]) [] G Q := by
  have hzr := (hV.2.1 i hi).2.2.1
  have hzc := clI hzr.1
  have hz : rX s 20 i 3 = .inl (.int (nI (cl (tT τ 5 i)))) := (cT_S hT hi 3 rfl).trans (congrArg (fun q => Sum.inl (Value.int q)) (nIcl hzr.1).symm)
  refine c5_endV R (cT_Su hT hi) hp hz hv (fun e => ?_) (fun e => ?_)
  · have e0 : nvN V i = 0 := by have := congrArg cl e; rw [show cl (nI (nvN V i)) = _ from nI_clamp (by omega)] at this; exact this
    unfold endN at q
    rw [if_neg (by omega)] at q
    rw [nI_l (by omega), lN_add]; exact q
  · have e0 : 0 < nvN V i := Nat.pos_of_ne_zero (fun q => e (by rw [q]; rfl))
    unfold endN at q
    rw [if_pos e0] at q
    rw [show (2 : Int32) = nI 2 from rfl, sh1 (by omega), nI_l (by omega), lN_add, upC (by omega) (by omega), nI_l (by omega), show (8 : Int64) = lN 8 from rfl, lN_mul, lN_add, Nat.mul_comm (nvN V i) 8]; exact q
theorem c5_poN (R : rx_R b0 O z1 z2 s G) (hS : rx_in s) {τ : tx_T} (hT : CT E s τ) (hV : TV τ) {w : Bool} (hF : FD E s τ w) {V : List (Nat × Nat)} (hP : PC s τ w V) {x : Nat} (hx : x < tN τ 1) (hk : kin (kR τ) x = true) (q : Q (.inl (some (.long (lN (poN τ w V x))))) G) : mx_W (gt_P b0 mi E) mX5_finalPlace 0 (mx_en 0 [.ref (rA s 20 x)]) [] G Q :=
  c5_finalPlace R (cT_Su hT hx) (hF.2 x hx) (hP _ (inO_lt hx) (inO_pl hV hk)) (cT_Su hT (inO_lt hx)) q
theorem c3_lk_l {s0 : rx_S} {τ : tx_T} (hT0 : CT E s0 τ) (hS0 : rx_in s0) (hV : TV τ) (hE : WE b0 O E) {w : Bool} (hF0 : FD E s0 τ w) {S : vS} (hvi : VI τ w S) {k : Nat} (hk4 : k < 4) {s1 : rx_S}  : ∀ (d : Nat) (t : Nat) (L : mx_L) (s : rx_S) (G : mx_H), tN τ 1 - t < d → rx_R b0 O z1 z2 s G → t ≤ tN τ 1 → cf wP s0 s → VC s τ S → ((∀ j, rL s 10 j = rL s1 10 j) ∧ (∀ j, j ≠ k → rI s 10 6 j = rI s1 10 6 j) ∧ rX s 7 0 5 = rX s1 7 0 5 ∧ ∀ x, tT τ 4 x ≠ nI k → rX s 20 x 18 = rX s1 20 x 18) → (∀ x, x < t → tT τ 4 x = nI k → plB τ w x = true → rX s 20 x 18 = .inl (.long (lN (plN τ w S.1 x)))) → rI s 10 6 k = b32 (an (fun x => (tT τ 4 x == nI k) && plB τ w x) t) → L 0 = some (.ref (rA s 7 0)) → L 1 = some (.int (nI k)) → L 4 = some (.ref (rA s 8 0)) → L 5 = some (.long (lN (rwN τ w S.1 k (bgN τ w S.1 k) t))) → L 7 = some (.int (nI t)) → (∀ (s' : rx_S) (G' : mx_H), rx_R b0 O z1 z2 s' G' → cf wP s0 s' → VC s' τ S → ((∀ j, rL s' 10 j = rL s1 10 j) ∧ (∀ j, j ≠ k → rI s' 10 6 j = rI s1 10 6 j) ∧ rX s' 7 0 5 = rX s1 7 0 5 ∧ ∀ x, tT τ 4 x ≠ nI k → rX s' 20 x 18 = rX s1 20 x 18) → (∀ x, x < tN τ 1 → tT τ 4 x = nI k → plB τ w x = true → rX s' 20 x 18 = .inl (.long (lN (plN τ w S.1 x)))) → rI s' 10 6 k = b32 (hpB τ w k) → Q (.inl (some (.long (lN (enN τ w S.1 k))))) G') → mx_W (gt_P b0 mi E) mX3_layOutKind 6 L [] G Q := by
  intro d
  induction d with
  | zero => intro t L s G hd; exact absurd hd (Nat.not_lt_zero _)
  | succ d ih =>
    intro t L s G hd R ht hf hv hq hp hh h0 h1 h4 h5 h7 kx
    have hV0 := hV.1
    have hT := CT_cf hT0 hS0 hf
    have hS := hf.inn hS0
    have hF := FD_cf hF0 hf
    refine w_iload dX3_layOutKind_6 h7 ?_
    refine w_aload dX3_layOutKind_8 h4 ?_
    refine r_inv0  dX3_layOutKind_10 mt_3_52 R rfl (hS _ _ rfl) rfl (lb rfl) (lb rfl) (lb rfl) (lb rfl) rfl (c_lsize R rfl (hS _ _ rfl) (cT_l0 hT).2.1 ⟨_, rfl, ?_⟩)
    refine r_icmp_gen (t := 80) dX3_layOutKind_13 rfl (by omega) (by omega) (fun h13 => ?_) (fun h13 => ?_)
    ·
      refine w_lload dX3_layOutKind_80 h5 ?_
      refine w_lret dX3_layOutKind_82 rfl ?_
      obtain rfl : t = tN τ 1 := by omega
      exact kx _ _ R hf hv hq hp hh
    ·
      have htn : t < tN τ 1 := by omega
      have hus := cT_Su hT htn
      have ra := (hV.2.1 t htn).2.2.2.1
      have ca := clI ra.1
      have hx4 : rX s 20 t 4 = .inl (.int (nI (cl (tT τ 6 t)))) := (cT_S hT htn 4 rfl).trans (congrArg (fun q => Sum.inl (Value.int q)) (nIcl ra.1).symm)
      have hrb := rwN_lt hV (w := w) (VI_nv hvi hV) hk4 (t := t) (by omega)
      have hub := upN_le (rwN τ w S.1 k (bgN τ w S.1 k) t) (a := cl (tT τ 6 t)) (by omega)
      refine w_aload dX3_layOutKind_16 h4 ?_
      refine w_iload dX3_layOutKind_18 h7 ?_
      refine r_inv1  dX3_layOutKind_20 mt_3_58 R rfl (hS _ _ rfl) rfl (lb rfl) (lb rfl) (lb rfl) (lb rfl) rfl (c_lget R rfl (hS _ _ rfl) (cT_l0 hT) htn ⟨_, rfl, ?_⟩)
      refine r_cast dX3_layOutKind_23 qt_3_69 R rfl hus rfl (by decide) ?_
      refine w_astore dX3_layOutKind_26 (lb rfl) ?_
      refine w_aload dX3_layOutKind_28 rfl ?_
      refine r_geti  dX3_layOutKind_30 ft_3_150 R rfl (cT_Su hT htn) rfl (lb rfl) (cT_S hT htn 2 rfl) ?_
      refine w_iload_n dX3_layOutKind_33 h1 ?_
      refine r_icmp_neP (t := 74) dX3_layOutKind_34 rfl (fun h34 => ?_) (fun h34 => ?_)
      ·
        refine w_iinc dX3_layOutKind_74 h7 (nI_1 _) (lb rfl) ?_
        refine w_goto (t := 6) dX3_layOutKind_77 rfl ?_
        have eb : ((tT τ 4 t == nI k) && plB τ w t) = false := by rw [show (tT τ 4 t == nI k) = false from by simpa using h34]; rfl
        have e9 : rwN τ w S.1 k (bgN τ w S.1 k) (t + 1) = rwN τ w S.1 k (bgN τ w S.1 k) t := by show (bif (tT τ 4 t == nI k) && plB τ w t then _ else _) = _; rw [eb]; rfl
        exact ih (t + 1) _ _ _ (by omega) R (by omega) hf hv hq (fun x hx => by
          by_cases e : x = t
          · subst e; exact fun e _ => absurd e h34
          · exact hp x (by omega)) (by rw [hh, an, eb]; simp) h0 h1 h4 (by rw [e9]; exact h5) rfl kx
      ·
        refine w_aload dX3_layOutKind_37 rfl ?_
        refine r_inv0  dX3_layOutKind_39 mt_3_68 R rfl hus rfl (lb rfl) (lb rfl) (lb rfl) (lb rfl) rfl (c5_plc R hS hT hV hF htn (fun e39 => ⟨_, rfl, ?_⟩) (fun e39 => ⟨_, rfl, ?_⟩))
        ·
          refine w_if_eq (t := 74) dX3_layOutKind_42 rfl (fun h => absurd h (by decide)) (fun _ => ?_)
          have epl : plN τ w S.1 t = upN (rwN τ w S.1 k (bgN τ w S.1 k) t) (cl (tT τ 6 t)) := by unfold plN; rw [show cl (tT τ 4 t) = k by rw [h34]; exact nI_clamp (by omega)]
          refine w_aload dX3_layOutKind_45 rfl ?_
          refine w_lload dX3_layOutKind_47 h5 ?_
          refine w_aload dX3_layOutKind_49 rfl ?_
          refine r_geti  dX3_layOutKind_51 ft_3_153 R rfl hus rfl (lb rfl) hx4 ?_
          refine r_stat2 dX3_layOutKind_54 mt_3_156 (lb rfl) (lb rfl) (lb rfl) (lb rfl) rfl (c5_upN (by omega) (by omega) ⟨_, rfl, ?_⟩)
          refine r_puti  dX3_layOutKind_57 ft_3_109 R rfl hus rfl (lb rfl) (fun h => by cases h) rfl rfl (fun G1 R1 => ?_)
          refine w_aload dX3_layOutKind_60 rfl ?_
          refine r_inv0  dX3_layOutKind_62 mt_3_160 R1 rfl hus rfl (lb rfl) (lb rfl) (lb rfl) (lb rfl) rfl (c5_endN (s := (sX s 20 t 18 (.inl (.long (lN (upN (rwN τ w S.1 k (bgN τ w S.1 k) t) (cl (tT τ 6 t)))))))) (V := S.1) R1 hV (CT_cf hT hS ((cf.rf wP s).X)) htn sX_s ((sX_p (by omega)).trans (hv.1 t htn)) (VI_nv hvi hV t) (by omega) ⟨_, rfl, ?_⟩)
          refine w_lstore dX3_layOutKind_65 (lb rfl) rfl ?_
          refine w_aload_n dX3_layOutKind_67 h0 ?_
          refine r_getr  dX3_layOutKind_68 ft_3_18 R1 rfl (hS _ _ rfl) rfl (lb rfl) (cT_s hT 7 2 rfl) ?_
          refine w_iload_n dX3_layOutKind_71 h1 ?_
          refine w_iconst (v := 1) dX3_layOutKind_72 (by decide) ?_
          refine r_zast  dX3_layOutKind_73 R1 rfl (hS _ _ rfl) rfl rfl hk4 (lb rfl) (show vp_nar .boolean 1 = 1 from rfl) (fun G2 R2 => ?_)
          refine w_iinc dX3_layOutKind_74 h7 (nI_1 _) (lb rfl) ?_
          refine w_goto (t := 6) dX3_layOutKind_77 rfl ?_
          have eb : ((tT τ 4 t == nI k) && plB τ w t) = true := by rw [e39, h34]; simp
          have e9 : rwN τ w S.1 k (bgN τ w S.1 k) (t + 1) = endN τ S.1 t (upN (rwN τ w S.1 k (bgN τ w S.1 k) t) (cl (tT τ 6 t))) := by show (bif (tT τ 4 t == nI k) && plB τ w t then _ else _) = _; rw [eb]; rfl
          exact ih (t + 1) _ _ _ (by omega) R2 (by omega) hf.X.I ⟨fun x hx => (sX_p (s := s) (r := 20) (i := t) (f := 18) (v := .inl (.long (lN (upN (rwN τ w S.1 k (bgN τ w S.1 k) t) (cl (tT τ 6 t)))))) (by omega)).trans (hv.1 x hx), fun j hj => (sX_p (s := s) (r := 20) (i := t) (f := 18) (v := .inl (.long (lN (upN (rwN τ w S.1 k (bgN τ w S.1 k) t) (cl (tT τ 6 t)))))) (by omega)).trans (hv.2.1 j hj), (sX_p (s := s) (r := 20) (i := t) (f := 18) (v := .inl (.long (lN (upN (rwN τ w S.1 k (bgN τ w S.1 k) t) (cl (tT τ 6 t)))))) (by omega)).trans hv.2.2⟩ ⟨hq.1, fun j hj => (sI_at.trans (if_neg hj)).trans (hq.2.1 j hj), (sX_p (s := s) (r := 20) (i := t) (f := 18) (v := .inl (.long (lN (upN (rwN τ w S.1 k (bgN τ w S.1 k) t) (cl (tT τ 6 t)))))) (by omega)).trans hq.2.2.1, fun x hx => (sX_p (s := s) (r := 20) (i := t) (f := 18) (v := .inl (.long (lN (upN (rwN τ w S.1 k (bgN τ w S.1 k) t) (cl (tT τ 6 t)))))) (fun e => hx (by rw [e.2.1]; exact h34))).trans (hq.2.2.2 x hx)⟩ (fun x hx => by
            by_cases e : x = t
            · subst e; intro _ _; exact (sX_s (s := s) (r := 20) (i := x) (f := 18) (v := .inl (.long (lN (upN (rwN τ w S.1 k (bgN τ w S.1 k) x) (cl (tT τ 6 x))))))).trans (by rw [epl])
            · intro a b; exact (sX_p (s := s) (r := 20) (i := t) (f := 18) (v := .inl (.long (lN (upN (rwN τ w S.1 k (bgN τ w S.1 k) t) (cl (tT τ 6 t)))))) (by omega)).trans (hp x (by omega) a b)) (sI_at.trans (by rw [if_pos rfl, an, eb]; simp [b32])) h0 h1 h4 (by rw [e9]; rfl) rfl kx
        ·
          refine w_if_eq (t := 74) dX3_layOutKind_42 rfl (fun _ => ?_) (fun h => absurd (by decide) h)
          refine w_iinc dX3_layOutKind_74 h7 (nI_1 _) (lb rfl) ?_
          refine w_goto (t := 6) dX3_layOutKind_77 rfl ?_
          have eb : ((tT τ 4 t == nI k) && plB τ w t) = false := by rw [e39]; simp
          have e9 : rwN τ w S.1 k (bgN τ w S.1 k) (t + 1) = rwN τ w S.1 k (bgN τ w S.1 k) t := by show (bif (tT τ 4 t == nI k) && plB τ w t then _ else _) = _; rw [eb]; rfl
          exact ih (t + 1) _ _ _ (by omega) R (by omega) hf hv hq (fun x hx => by
            by_cases e : x = t
            · subst e; exact fun _ e => by rw [e39] at e; cases e
            · exact hp x (by omega)) (by rw [hh, an, eb]; simp) h0 h1 h4 (by rw [e9]; exact h5) rfl kx
theorem c3_layKind {s0 : rx_S} {τ : tx_T} (hT0 : CT E s0 τ) (hS0 : rx_in s0) (hV : TV τ) (hE : WE b0 O E) {w : Bool} (hF0 : FD E s0 τ w) {S : vS} (hvi : VI τ w S) {k : Nat} (hk4 : k < 4) (R : rx_R b0 O z1 z2 s G) (hf : cf wP s0 s) (hv : VC s τ S) (hh : rI s 10 6 k = 0) (q : ∀ (s' : rx_S) (G' : mx_H), rx_R b0 O z1 z2 s' G' → cf wP s0 s' → VC s' τ S → ((∀ j, rL s' 10 j = rL s 10 j) ∧ (∀ j, j ≠ k → rI s' 10 6 j = rI s 10 6 j) ∧ rX s' 7 0 5 = rX s 7 0 5 ∧ ∀ x, tT τ 4 x ≠ nI k → rX s' 20 x 18 = rX s 20 x 18) → (∀ x, x < tN τ 1 → tT τ 4 x = nI k → plB τ w x = true → rX s' 20 x 18 = .inl (.long (lN (plN τ w S.1 x)))) → rI s' 10 6 k = b32 (hpB τ w k) → Q (.inl (some (.long (lN (enN τ w S.1 k))))) G') : mx_W (gt_P b0 mi E) mX3_layOutKind 0 (mx_en 0 [.ref (rA s 7 0), .int (nI k), .long (lN (bgN τ w S.1 k)), .ref (rA s 8 0)]) [] G Q := by
  refine w_lload_n dX3_layOutKind_0 rfl ?_
  refine w_lstore dX3_layOutKind_1 (lb rfl) rfl ?_
  refine w_iconst (v := nI 0) dX3_layOutKind_3 (by decide) ?_
  refine w_istore dX3_layOutKind_4 (lb rfl) ?_
  exact c3_lk_l hT0 hS0 hV hE hF0 hvi hk4 (s1 := s) _ 0 _ s _ (Nat.lt_succ_self _) R (Nat.zero_le _) hf hv ⟨fun _ => rfl, fun _ _ => rfl, rfl, fun _ _ => rfl⟩ (fun x hx => absurd hx (Nat.not_lt_zero _)) hh rfl rfl rfl rfl rfl q
end
