/-! ===== The class folds ===== -/
def wF (r f : Nat) : Bool := (Nat.beq r 20 && (Nat.beq f 14 || (Nat.beq f 15 || (Nat.beq f 16 || Nat.beq f 17)))) || (Nat.beq r 6 && Nat.beq f 0)
def wG (r f : Nat) : Bool := Nat.beq r 20 && (Nat.beq f 14 || (Nat.beq f 15 || Nat.beq f 16))
theorem wG_F (r f : Nat) (h : wF r f = false) : wG r f = false := by
  unfold wF at h
  unfold wG
  cases h1 : Nat.beq r 20 <;> cases h2 : Nat.beq f 14 <;> cases h3 : Nat.beq f 15 <;> cases h4 : Nat.beq f 16 <;> first | rfl | (rw [h1, h2, h3, h4] at h; simp at h)
/-- what is known of names and rows -/
def KD (E : Nat → Nat) (s : rx_S) (τ : tx_T) : Prop := NC s τ ∧ KC E s τ (kR τ)
theorem KD_cf {E : Nat → Nat} {w : Nat → Nat → Bool} {s s' : rx_S} {τ : tx_T} (h : KD E s τ) (hf : cf w s s') (h0 : w 8 0 = false := by rfl) (h1 : w 8 1 = false := by rfl) (h2 : w 8 2 = false := by rfl) (h3 : w 20 11 = false := by rfl) (h4 : w 20 12 = false := by rfl) (h5 : w 20 13 = false := by rfl) (h6 : w 24 7 = false := by rfl) (h7 : w 24 8 = false := by rfl) (h8 : w 100 3 = false := by rfl) : KD E s' τ := by
  obtain ⟨⟨a1, a2, a3⟩, b1, b2, b3⟩ := h
  exact ⟨⟨fun a ha => (hf.2.2.1 20 11 a h3).trans (a1 a ha), fun m hm => by rw [(hf.2.2.2.1 3 h8).2.2]; exact a2 m hm, fun j hj => ⟨(hf.2.2.1 24 7 j h6).trans (a3 j hj).1, (hf.2.2.1 24 8 j h7).trans (a3 j hj).2⟩⟩, rLS_cf b1 hf h0 h1 h2, fun x hx => (hf.2.2.1 20 12 x h4).trans (b2 x hx), fun x hx => (hf.2.2.1 20 13 x h5).trans (b3 x hx)⟩
section
variable {b0 mi z1 z2 : Nat} {E : Nat → Nat} {O : Nat → Option mx_C} {s : rx_S} {M : mx_M} {pc : Nat} {L : mx_L} {st : List Value} {G : mx_H} {Q : mx_O → mx_H → Prop}
theorem r_vnull {o : Option Nat} {off : Int} {t : Nat} (hd : decode (mx_mb M) pc = .ok (.ifnull off, 3)) (ht : (pc : Int) + off = (t : Int)) (kt : o = none → mx_W (gt_P b0 mi E) M t L st G Q) (kf : ¬ o = none → mx_W (gt_P b0 mi E) M (pc + 3) L st G Q) : mx_W (gt_P b0 mi E) M pc L (rx_v (rA s) (oV o) :: st) G Q := by
  cases o with
  | none => exact r_nullT hd ht (kt rfl)
  | some j => exact r_nullF hd ht (kf (fun e => by cases e))
theorem r_vnn {o : Option Nat} {off : Int} {t : Nat} (hd : decode (mx_mb M) pc = .ok (.ifnonnull off, 3)) (ht : (pc : Int) + off = (t : Int)) (kt : ¬ o = none → mx_W (gt_P b0 mi E) M t L st G Q) (kf : o = none → mx_W (gt_P b0 mi E) M (pc + 3) L st G Q) : mx_W (gt_P b0 mi E) M pc L (rx_v (rA s) (oV o) :: st) G Q := by
  cases o with
  | none => exact r_nnF hd ht (kf rfl)
  | some j => exact r_nnT hd ht (kt (fun e => by cases e))
end
section
variable {b0 mi z1 z2 : Nat} {E : Nat → Nat} {O : Nat → Option mx_C} {s : rx_S} {G : mx_H} {Q : mx_O → mx_H → Prop}
theorem c5_sb_l {s : rx_S} {G : mx_H} (R : rx_R b0 O z1 z2 s G) (hS : rx_in s) {τ : tx_T} (hT : CT E s τ) (hV : TV τ) {a b : Nat} (ha : a < tN τ 1) (hb2 : b < tN τ 1) (hz : tT τ 5 a = tT τ 5 b) (q1 : (∀ i, i < cl (tT τ 5 a) → tY τ a i = tY τ b i) → Q (.inl (some (.int 1))) G) (q0 : ¬ (∀ i, i < cl (tT τ 5 a) → tY τ a i = tY τ b i) → Q (.inl (some (.int 0))) G) : ∀ (d : Nat) (t : Nat) (L : mx_L), cl (tT τ 5 a) - t < d → t ≤ cl (tT τ 5 a) → (∀ i, i < t → tY τ a i = tY τ b i) → L 0 = some (.ref (rA s 20 a)) → L 1 = some (.ref (rA s 20 b)) → L 2 = some (.int (nI t)) → mx_W (gt_P b0 mi E) mX5_hasBytesOf 40 L [] G Q := by
  intro d
  induction d with
  | zero => intro t L hd; exact absurd hd (Nat.not_lt_zero _)
  | succ d ih =>
    intro t L hd ht hb h0 h1 h2
    have hV0 := hV.1
    have hzr := (hV.2.1 a ha).2.2.1
    have hzc := clI hzr.1
    have hx3 : rX s 20 a 3 = .inl (.int (nI (cl (tT τ 5 a)))) := (cT_S hT ha 3 rfl).trans (congrArg (fun q => Sum.inl (Value.int q)) (by obtain ⟨j, hj, e⟩ := nI_ofI hzr.1; rw [e, show cl (nI j) = j from nI_clamp hj]))
    refine w_iload_n dX5_hasBytesOf_40 h2 ?_
    refine w_aload_n dX5_hasBytesOf_41 h0 ?_
    refine r_geti  dX5_hasBytesOf_42 ft_5_40 R rfl (cT_Su hT ha) rfl (lb rfl) hx3 ?_
    refine r_icmp_gen (t := 69) dX5_hasBytesOf_45 rfl (by omega) (by omega) (fun h45 => ?_) (fun h45 => ?_)
    ·
      refine w_iconst (v := 1) dX5_hasBytesOf_69 (by decide) ?_
      exact w_iret dX5_hasBytesOf_70 rfl rfl (q1 (fun i hi => hb i (by omega)))
    ·
      have htn : t < cl (tT τ 5 a) := by omega
      refine w_aload_n dX5_hasBytesOf_48 h0 ?_
      refine w_iload_n dX5_hasBytesOf_49 h2 ?_
      refine r_inv1  dX5_hasBytesOf_50 mt_5_75 R rfl (cT_Su hT ha) rfl (lb rfl) (lb rfl) (lb rfl) (lb rfl) rfl (c5_byteAt R hS hT hV ha htn ⟨_, rfl, ?_⟩)
      refine w_aload_n dX5_hasBytesOf_53 h1 ?_
      refine w_iload_n dX5_hasBytesOf_54 h2 ?_
      refine r_inv1  dX5_hasBytesOf_55 mt_5_75 R rfl (cT_Su hT hb2) rfl (lb rfl) (lb rfl) (lb rfl) (lb rfl) rfl (c5_byteAt R hS hT hV hb2 (by rw [← hz]; exact htn) ⟨_, rfl, ?_⟩)
      refine w_icmp_eq (t := 63) dX5_hasBytesOf_58 rfl (fun h58 => ?_) (fun h58 => ?_)
      ·
        refine w_iinc dX5_hasBytesOf_63 h2 (nI_1 _) (lb rfl) ?_
        refine w_goto (t := 40) dX5_hasBytesOf_66 rfl ?_
        exact ih (t + 1) _ (by omega) (by omega) (fun i hi => by
          by_cases e : i = t
          · subst e
            exact h58
          · exact hb i (by omega)) h0 h1 rfl
      ·
        refine w_iconst (v := 0) dX5_hasBytesOf_61 (by decide) ?_
        exact w_iret dX5_hasBytesOf_62 rfl rfl (q0 (fun h => h58 (h t htn)))
theorem c5_agree_l {s : rx_S} {G : mx_H} (R : rx_R b0 O z1 z2 s G) (hS : rx_in s) {τ : tx_T} (hT : CT E s τ) (hV : TV τ) {a b n : Nat} {u : Nat → Nat} {sd : Int32} (ha : a < tN τ 1) (hp : BP E s τ a sd n u) (hb2 : b < tN τ 1) (hz : tT τ 5 a = tT τ 5 b) (q1 : (∀ p, p < n → tY τ a (u p) = tY τ b (u p)) → Q (.inl (some (.int 1))) G) (q0 : ¬ (∀ p, p < n → tY τ a (u p) = tY τ b (u p)) → Q (.inl (some (.int 0))) G) : ∀ (d : Nat) (t : Nat) (L : mx_L), n - t < d → t ≤ n → (∀ p, p < t → tY τ a (u p) = tY τ b (u p)) → L 0 = some (.ref (rA s 20 a)) → L 1 = some (.ref (rA s 20 b)) → L 2 = some (.int (nI t)) → mx_W (gt_P b0 mi E) mX5_agreesWherePatched 2 L [] G Q := by
  intro d
  induction d with
  | zero => intro t L hd; exact absurd hd (Nat.not_lt_zero _)
  | succ d ih =>
    intro t L hd ht hb h0 h1 h2
    have hua := cT_Su hT ha
    obtain ⟨b1, b2, b3, b4, b5, b6, b7, b8⟩ := hp
    have hn := rLS_n b4
    refine w_iload_n dX5_agreesWherePatched_2 h2 ?_
    refine w_aload_n dX5_agreesWherePatched_3 h0 ?_
    refine r_getr  dX5_agreesWherePatched_4 ft_5_18 R rfl hua rfl (lb rfl) b2 ?_
    refine r_inv0  dX5_agreesWherePatched_7 mt_5_49 R rfl b3 rfl (lb rfl) (lb rfl) (lb rfl) (lb rfl) rfl (c_lsize R rfl b3 (b4).2.1 ⟨_, rfl, ?_⟩)
    refine r_icmp_gen (t := 48) dX5_agreesWherePatched_10 rfl (by omega) (by omega) (fun h10 => ?_) (fun h10 => ?_)
    ·
      refine w_iconst (v := 1) dX5_agreesWherePatched_48 (by decide) ?_
      exact w_iret dX5_agreesWherePatched_49 rfl rfl (q1 (fun p hp => hb p (by omega)))
    ·
      have htn : t < n := by omega
      obtain ⟨c1, c2, c3, c4⟩ := b5 t htn
      refine w_aload_n dX5_agreesWherePatched_13 h0 ?_
      refine r_getr  dX5_agreesWherePatched_14 ft_5_18 R rfl hua rfl (lb rfl) b2 ?_
      refine w_iload_n dX5_agreesWherePatched_17 h2 ?_
      refine r_inv1  dX5_agreesWherePatched_18 mt_5_52 R rfl b3 rfl (lb rfl) (lb rfl) (lb rfl) (lb rfl) rfl (c_lget R rfl b3 (b4) htn ⟨_, rfl, ?_⟩)
      show mx_W _ _ _ _ (.ref (rA s 23 (64 * t + a)) :: _) _ _
      refine r_cast dX5_agreesWherePatched_21 qt_5_56 R rfl c1 rfl (by decide) ?_
      refine w_astore_n dX5_agreesWherePatched_24 (lb rfl) ?_
      refine w_aload_n dX5_agreesWherePatched_25 rfl ?_
      refine r_geti  dX5_agreesWherePatched_26 ft_5_61 R rfl c1 rfl (lb rfl) c4 ?_
      refine w_aload_n dX5_agreesWherePatched_29 h1 ?_
      refine w_aload_n dX5_agreesWherePatched_30 rfl ?_
      refine r_geti  dX5_agreesWherePatched_31 ft_5_58 R rfl c1 rfl (lb rfl) c3 ?_
      refine r_inv1  dX5_agreesWherePatched_34 mt_5_75 R rfl (cT_Su hT hb2) rfl (lb rfl) (lb rfl) (lb rfl) (lb rfl) rfl (c5_byteAt R hS hT hV hb2 (m := u t) (by rw [← hz]; exact c2) ⟨_, rfl, ?_⟩)
      refine w_icmp_eq (t := 42) dX5_agreesWherePatched_37 rfl (fun h37 => ?_) (fun h37 => ?_)
      ·
        refine w_iinc dX5_agreesWherePatched_42 h2 (nI_1 _) (lb rfl) ?_
        refine w_goto (t := 2) dX5_agreesWherePatched_45 rfl ?_
        exact ih (t + 1) _ (by omega) (by omega) (fun i hi => by
          by_cases e : i = t
          · subst e
            exact h37
          · exact hb i (by omega)) h0 h1 rfl
      ·
        refine w_iconst (v := 0) dX5_agreesWherePatched_40 (by decide) ?_
        exact w_iret dX5_agreesWherePatched_41 rfl rfl (q0 (fun h => h37 (h t htn)))
theorem c5_agree (R : rx_R b0 O z1 z2 s G) (hS : rx_in s) {τ : tx_T} (hT : CT E s τ) (hV : TV τ) {a b n : Nat} {u : Nat → Nat} {sd : Int32} (ha : a < tN τ 1) (hp : BP E s τ a sd n u) (hb2 : b < tN τ 1) (hz : tT τ 5 a = tT τ 5 b) (q1 : (∀ p, p < n → tY τ a (u p) = tY τ b (u p)) → Q (.inl (some (.int 1))) G) (q0 : ¬ (∀ p, p < n → tY τ a (u p) = tY τ b (u p)) → Q (.inl (some (.int 0))) G) : mx_W (gt_P b0 mi E) mX5_agreesWherePatched 0 (mx_en 0 [.ref (rA s 20 a), .ref (rA s 20 b)]) [] G Q := by
  refine w_iconst (v := nI 0) dX5_agreesWherePatched_0 (by decide) ?_
  refine w_istore_n dX5_agreesWherePatched_1 (lb rfl) ?_
  exact c5_agree_l R hS hT hV ha hp hb2 hz q1 q0 _ 0 _ (Nat.lt_succ_self _) (Nat.zero_le _) (fun i hi => absurd hi (Nat.not_lt_zero _)) rfl rfl rfl
theorem by_all {τ : tx_T} {a b na nb : Nat} {ua ub : Nat → Nat} {sa sb : Int32} (pa : BP E s τ a sa na ua) (pb : BP E s τ b sb nb ub) (hz : tT τ 5 a = tT τ 5 b) (hx : (sa ^^^ sb) &&& 255 = 0) (e1 : ∀ p, p < na → tY τ a (ua p) = tY τ b (ua p)) (e2 : ∀ p, p < nb → tY τ b (ub p) = tY τ a (ub p)) : ∀ i, i < cl (tT τ 5 a) → tY τ a i = tY τ b i := by
  intro i hi
  by_cases h1 : ∃ p, p < na ∧ ua p = i
  · obtain ⟨p, hp, e⟩ := h1
    rw [← e]; exact e1 p hp
  · by_cases h2 : ∃ p, p < nb ∧ ub p = i
    · obtain ⟨p, hp, e⟩ := h2
      rw [← e]; exact (e2 p hp).symm
    · obtain ⟨-, -, -, -, -, -, -, b8⟩ := pa
      obtain ⟨-, -, -, -, -, -, -, d8⟩ := pb
      rw [b8 i hi (fun p hp e => h1 ⟨p, hp, e⟩), d8 i (by rw [← hz]; exact hi) (fun p hp e => h2 ⟨p, hp, e⟩)]
      exact (seed_alike sa sb i).mpr ((xor255 sa sb).mp hx)
theorem c5_sameBytes (R : rx_R b0 O z1 z2 s G) (hS : rx_in s) {τ : tx_T} (hT : CT E s τ) (hV : TV τ) {a b : Nat} (ha : a < tN τ 1) (hb2 : b < tN τ 1) (hz : tT τ 5 a = tT τ 5 b) (q1 : (∀ i, i < cl (tT τ 5 a) → tY τ a i = tY τ b i) → Q (.inl (some (.int 1))) G) (q0 : ¬ (∀ i, i < cl (tT τ 5 a) → tY τ a i = tY τ b i) → Q (.inl (some (.int 0))) G) : mx_W (gt_P b0 mi E) mX5_hasBytesOf 0 (mx_en 0 [.ref (rA s 20 a), .ref (rA s 20 b)]) [] G Q := by
  have hV0 := hV.1
  obtain ⟨sa, na, ua, pa⟩ := cT_B hT ha
  obtain ⟨sb, nb, ub, pb⟩ := cT_B hT hb2
  have hua := cT_Su hT ha
  have hub := cT_Su hT hb2
  refine w_aload_n dX5_hasBytesOf_0 rfl ?_
  refine r_geti  dX5_hasBytesOf_1 ft_5_46 R rfl hua rfl (lb rfl) pa.1 ?_
  refine w_aload_n dX5_hasBytesOf_4 rfl ?_
  refine r_geti  dX5_hasBytesOf_5 ft_5_46 R rfl hub rfl (lb rfl) pb.1 ?_
  refine w_ixor dX5_hasBytesOf_8 ?_
  refine w_sipush (v := 255) dX5_hasBytesOf_9 (by decide) ?_
  refine w_iand dX5_hasBytesOf_12 ?_
  refine r_if_neP (t := 38) dX5_hasBytesOf_13 rfl (fun h13 => ?_) (fun h13 => ?_)
  ·
    refine w_iconst (v := nI 0) dX5_hasBytesOf_38 (by decide) ?_
    refine w_istore_n dX5_hasBytesOf_39 (lb rfl) ?_
    exact c5_sb_l R hS hT hV ha hb2 hz q1 q0 _ 0 _ (Nat.lt_succ_self _) (Nat.zero_le _) (fun i hi => absurd hi (Nat.not_lt_zero _)) rfl rfl rfl
  ·
    refine w_aload_n dX5_hasBytesOf_16 rfl ?_
    refine w_aload_n dX5_hasBytesOf_17 rfl ?_
    refine r_inv1  dX5_hasBytesOf_18 mt_5_71 R rfl hua rfl (lb rfl) (lb rfl) (lb rfl) (lb rfl) rfl (c5_agree R hS hT hV ha pa hb2 hz (fun e18 => ⟨_, rfl, ?_⟩) (fun e18 => ⟨_, rfl, ?_⟩))
    ·
      refine w_if_eq (t := 36) dX5_hasBytesOf_21 rfl (fun h => absurd h (by decide)) (fun _ => ?_)
      refine w_aload_n dX5_hasBytesOf_24 rfl ?_
      refine w_aload_n dX5_hasBytesOf_25 rfl ?_
      refine r_inv1  dX5_hasBytesOf_26 mt_5_71 R rfl hub rfl (lb rfl) (lb rfl) (lb rfl) (lb rfl) rfl (c5_agree R hS hT hV hb2 pb ha hz.symm (fun e26 => ⟨_, rfl, ?_⟩) (fun e26 => ⟨_, rfl, ?_⟩))
      ·
        refine w_if_eq (t := 36) dX5_hasBytesOf_29 rfl (fun h => absurd h (by decide)) (fun _ => ?_)
        refine w_iconst (v := 1) dX5_hasBytesOf_32 (by decide) ?_
        refine w_goto (t := 37) dX5_hasBytesOf_33 rfl ?_
        exact w_iret dX5_hasBytesOf_37 rfl rfl (q1 (by_all pa pb hz h13 e18 e26))
      ·
        refine w_if_eq (t := 36) dX5_hasBytesOf_29 rfl (fun _ => ?_) (fun h => absurd (by decide) h)
        refine w_iconst (v := 0) dX5_hasBytesOf_36 (by decide) ?_
        exact w_iret dX5_hasBytesOf_37 rfl rfl (q0 (fun h => e26 (fun p hp => (h _ (by rw [hz]; exact (pb.2.2.2.2.1 p hp).2.1)).symm)))
    ·
      refine w_if_eq (t := 36) dX5_hasBytesOf_21 rfl (fun _ => ?_) (fun h => absurd (by decide) h)
      refine w_iconst (v := 0) dX5_hasBytesOf_36 (by decide) ?_
      exact w_iret dX5_hasBytesOf_37 rfl rfl (q0 (fun h => e18 (fun p hp => h _ (pa.2.2.2.2.1 p hp).2.1)))
theorem c0_rll_l {s : rx_S} {G : mx_H} (R : rx_R b0 O z1 z2 s G) (hS : rx_in s) {τ : tx_T} (hT : CT E s τ) (hV : TV τ) (hE : WE b0 O E) (hN : NC s τ) {a b : Nat} (ha : a < tN τ 1) (hb2 : b < tN τ 1) (hab : rlN τ a = rlN τ b) (q1 : (rlN τ a = rlN τ b ∧ ∀ i, i < rlN τ a → rLL τ (rlG τ a i) (rlG τ b i)) → Q (.inl (some (.int 1))) G) (q0 : ¬ (rlN τ a = rlN τ b ∧ ∀ i, i < rlN τ a → rLL τ (rlG τ a i) (rlG τ b i)) → Q (.inl (some (.int 0))) G) : ∀ (d : Nat) (t : Nat) (L : mx_L), rlN τ a - t < d → t ≤ rlN τ a → (∀ i, i < t → rLL τ (rlG τ a i) (rlG τ b i)) → L 1 = some (.ref (rA s 21 a)) → L 2 = some (.ref (rA s 21 b)) → L 3 = some (.int (nI t)) → mx_W (gt_P b0 mi E) mX0_relocationsLookLike 15 L [] G Q := by
  intro d
  induction d with
  | zero => intro t L hd; exact absurd hd (Nat.not_lt_zero _)
  | succ d ih =>
    intro t L hd ht hb h1 h2 h3
    have hV0 := hV.1
    have hra : rlN τ a ≤ 200 := Nat.le_trans (cnt_le _ _) hV0.2.2.2.1
    have hrb : rlN τ b ≤ 200 := Nat.le_trans (cnt_le _ _) hV0.2.2.2.1
    refine w_iload_n dX0_relocationsLookLike_15 h3 ?_
    refine w_aload_n dX0_relocationsLookLike_16 h1 ?_
    refine r_inv0  dX0_relocationsLookLike_17 mt_0_15 R rfl (cT_Lu hT ha) rfl (lb rfl) (lb rfl) (lb rfl) (lb rfl) rfl (c_lsize R rfl (cT_Lu hT ha) (cT_l hT ha).2.1 ⟨_, rfl, ?_⟩)
    refine r_icmp_gen (t := 132) dX0_relocationsLookLike_20 rfl (by omega) (by omega) (fun h20 => ?_) (fun h20 => ?_)
    ·
      refine w_iconst (v := 1) dX0_relocationsLookLike_132 (by decide) ?_
      exact w_iret dX0_relocationsLookLike_133 rfl rfl (q1 ⟨hab, fun i hi => hb i (by omega)⟩)
    ·
      refine w_iload_n dX0_relocationsLookLike_23 h3 ?_
      refine w_aload_n dX0_relocationsLookLike_24 h2 ?_
      refine r_inv0  dX0_relocationsLookLike_25 mt_0_15 R rfl (cT_Lu hT hb2) rfl (lb rfl) (lb rfl) (lb rfl) (lb rfl) rfl (c_lsize R rfl (cT_Lu hT hb2) (cT_l hT hb2).2.1 ⟨_, rfl, ?_⟩)
      refine r_icmp_gen (t := 132) dX0_relocationsLookLike_28 rfl (by omega) (by omega) (fun h => by omega) (fun h28 => ?_)
      have htn : t < rlN τ a := by omega
      have htb : t < rlN τ b := by omega
      obtain ⟨k, ek⟩ : ∃ k, rlG τ a t = k := ⟨_, rfl⟩
      obtain ⟨l, el⟩ : ∃ l, rlG τ b t = l := ⟨_, rfl⟩
      have hk : k < tN τ 3 := by rw [← ek]; exact (rlG_lt htn).2.1
      have hl : l < tN τ 3 := by rw [← el]; exact (rlG_lt htb).2.1
      have rk := hV.2.2.2.1 k hk
      have rl := hV.2.2.2.1 l hl
      have cyk := clI rk.2.2.2.1.1
      have cyl := clI rl.2.2.2.1.1
      have ctk := clI rk.2.2.1.1
      have ctl := clI rl.2.2.1.1
      have hyk : cl (tT τ 24 k) < tN τ 2 := by omega
      have hyl : cl (tT τ 24 l) < tN τ 2 := by omega
      have nk := hN.2.2 _ hyk
      have nl := hN.2.2 _ hyl
      refine w_aload_n dX0_relocationsLookLike_31 h1 ?_
      refine w_iload_n dX0_relocationsLookLike_32 h3 ?_
      refine r_inv1  dX0_relocationsLookLike_33 mt_0_21 R rfl (cT_Lu hT ha) rfl (lb rfl) (lb rfl) (lb rfl) (lb rfl) rfl (c_lget R rfl (cT_Lu hT ha) (cT_l hT ha) htn ⟨_, rfl, ?_⟩)
      show mx_W _ _ _ _ (.ref (rA s 25 (rlG τ a t)) :: _) _ _
      rw [ek]
      refine r_cast dX0_relocationsLookLike_36 qt_0_70 R rfl (cT_Ru hT hk) rfl (by decide) ?_
      refine w_astore dX0_relocationsLookLike_39 (lb rfl) ?_
      refine w_aload_n dX0_relocationsLookLike_41 h2 ?_
      refine w_iload_n dX0_relocationsLookLike_42 h3 ?_
      refine r_inv1  dX0_relocationsLookLike_43 mt_0_21 R rfl (cT_Lu hT hb2) rfl (lb rfl) (lb rfl) (lb rfl) (lb rfl) rfl (c_lget R rfl (cT_Lu hT hb2) (cT_l hT hb2) htb ⟨_, rfl, ?_⟩)
      show mx_W _ _ _ _ (.ref (rA s 25 (rlG τ b t)) :: _) _ _
      rw [el]
      refine r_cast dX0_relocationsLookLike_46 qt_0_70 R rfl (cT_Ru hT hl) rfl (by decide) ?_
      refine w_astore dX0_relocationsLookLike_49 (lb rfl) ?_
      refine w_aload dX0_relocationsLookLike_51 rfl ?_
      refine r_getr  dX0_relocationsLookLike_53 ft_0_81 R rfl (cT_Ru hT hk) rfl (lb rfl) (cT_R hT hk 3 (lb rfl)) ?_
      refine r_getv  dX0_relocationsLookLike_56 ft_0_85 R rfl (cT_Yu hT hyk) rfl (lb rfl) nk.1 ?_
      refine r_vnn (t := 66) dX0_relocationsLookLike_59 rfl (fun h59 => ?_) (fun h59 => ?_)
      ·
        refine w_iconst (v := 0) dX0_relocationsLookLike_66 (by decide) ?_
        refine w_aload dX0_relocationsLookLike_67 rfl ?_
        refine r_getr  dX0_relocationsLookLike_69 ft_0_81 R rfl (cT_Ru hT hl) rfl (lb rfl) (cT_R hT hl 3 (lb rfl)) ?_
        refine r_getv  dX0_relocationsLookLike_72 ft_0_85 R rfl (cT_Yu hT hyl) rfl (lb rfl) nl.1 ?_
        refine r_vnn (t := 82) dX0_relocationsLookLike_75 rfl (fun h75 => ?_) (fun h75 => ?_)
        ·
          refine w_iconst (v := 0) dX0_relocationsLookLike_82 (by decide) ?_
          refine w_icmp_ne (t := 90) dX0_relocationsLookLike_83 rfl (fun h => absurd h (by decide)) (fun _ => ?_)
          refine w_iconst (v := 1) dX0_relocationsLookLike_86 (by decide) ?_
          refine w_goto (t := 91) dX0_relocationsLookLike_87 rfl ?_
          refine w_istore dX0_relocationsLookLike_91 (lb rfl) ?_
          refine w_iload dX0_relocationsLookLike_93 rfl ?_
          refine w_if_eq (t := 124) dX0_relocationsLookLike_95 rfl (fun h => absurd h (by decide)) (fun _ => ?_)
          refine w_aload dX0_relocationsLookLike_98 rfl ?_
          refine w_aload dX0_relocationsLookLike_100 rfl ?_
          refine r_inv1  dX0_relocationsLookLike_102 mt_0_110 R rfl (cT_Ru hT hk) rfl (lb rfl) (lb rfl) (lb rfl) (lb rfl) rfl (c4_like R hE.2.2 (t := cl (tT τ 23 k)) (t2 := cl (tT τ 23 l)) (by omega) (by omega) (cT_Ru hT hk) (cT_Ru hT hl) (cT_R hT hk 1 (lb rfl)) (cT_R hT hk 2 (lb rfl)) (cT_R hT hk 4 (lb rfl)) (cT_R hT hl 1 (lb rfl)) (cT_R hT hl 2 (lb rfl)) (cT_R hT hl 4 (lb rfl)) (fun e102 => ⟨_, rfl, ?_⟩) (fun e102 => ⟨_, rfl, ?_⟩))
          ·
            refine w_if_eq (t := 124) dX0_relocationsLookLike_105 rfl (fun h => absurd h (by decide)) (fun _ => ?_)
            refine w_aload dX0_relocationsLookLike_108 rfl ?_
            refine r_getr  dX0_relocationsLookLike_110 ft_0_81 R rfl (cT_Ru hT hk) rfl (lb rfl) (cT_R hT hk 3 (lb rfl)) ?_
            refine w_aload dX0_relocationsLookLike_113 rfl ?_
            refine r_getr  dX0_relocationsLookLike_115 ft_0_81 R rfl (cT_Ru hT hl) rfl (lb rfl) (cT_R hT hl 3 (lb rfl)) ?_
            refine r_inv1  dX0_relocationsLookLike_118 mt_0_114 R rfl (cT_Yu hT hyk) rfl (lb rfl) (lb rfl) (lb rfl) (lb rfl) rfl (c6_sao R (cT_Yu hT hyk) (cT_Yu hT hyl) (cT_Y hT hyk 5 (lb rfl)) (cT_Y hT hyk 6 (lb rfl)) nk.2 (cT_Y hT hyl 5 (lb rfl)) (cT_Y hT hyl 6 (lb rfl)) nl.2 (fun e118 => ⟨_, rfl, ?_⟩) (fun e118 => ⟨_, rfl, ?_⟩))
            ·
              refine w_if_ne (t := 126) dX0_relocationsLookLike_121 rfl (fun _ => ?_) (fun h => absurd (by decide) h)
              refine w_iinc dX0_relocationsLookLike_126 h3 (nI_1 _) (lb rfl) ?_
              refine w_goto (t := 15) dX0_relocationsLookLike_129 rfl ?_
              exact ih (t + 1) _ (by omega) (by omega) (fun i hi => by
                by_cases e : i = t
                · subst e
                  rw [ek, el]
                  exact ⟨e102.1, cl_inj rk.2.2.1.1 rl.2.2.1.1 e102.2.1, e102.2.2, ⟨fun e => absurd e h59, fun e => absurd e h75⟩, e118.1, e118.2.1, e118.2.2⟩
                · exact hb i (by omega)) h1 h2 rfl
            ·
              refine w_if_ne (t := 126) dX0_relocationsLookLike_121 rfl (fun h => absurd h (by decide)) (fun _ => ?_)
              refine w_iconst (v := 0) dX0_relocationsLookLike_124 (by decide) ?_
              refine w_iret dX0_relocationsLookLike_125 rfl rfl ?_
              refine q0 (fun h => ?_)
              have h := h.2 t htn
              rw [ek, el] at h
              exact e118 ⟨h.2.2.2.2.1, h.2.2.2.2.2.1, h.2.2.2.2.2.2⟩
          ·
            refine w_if_eq (t := 124) dX0_relocationsLookLike_105 rfl (fun _ => ?_) (fun h => absurd (by decide) h)
            refine w_iconst (v := 0) dX0_relocationsLookLike_124 (by decide) ?_
            refine w_iret dX0_relocationsLookLike_125 rfl rfl ?_
            refine q0 (fun h => ?_)
            have h := h.2 t htn
            rw [ek, el] at h
            exact e102 ⟨h.1, by rw [h.2.1], h.2.2.1⟩
        ·
          refine w_iconst (v := 1) dX0_relocationsLookLike_78 (by decide) ?_
          refine w_goto (t := 83) dX0_relocationsLookLike_79 rfl ?_
          refine w_icmp_ne (t := 90) dX0_relocationsLookLike_83 rfl (fun _ => ?_) (fun h => absurd (by decide) h)
          refine w_iconst (v := 0) dX0_relocationsLookLike_90 (by decide) ?_
          refine w_istore dX0_relocationsLookLike_91 (lb rfl) ?_
          refine w_iload dX0_relocationsLookLike_93 rfl ?_
          refine w_if_eq (t := 124) dX0_relocationsLookLike_95 rfl (fun _ => ?_) (fun h => absurd (by decide) h)
          refine w_iconst (v := 0) dX0_relocationsLookLike_124 (by decide) ?_
          refine w_iret dX0_relocationsLookLike_125 rfl rfl ?_
          refine q0 (fun h => ?_)
          have h := h.2 t htn
          rw [ek, el] at h
          exact h59 (h.2.2.2.1.mpr h75)
      ·
        refine w_iconst (v := 1) dX0_relocationsLookLike_62 (by decide) ?_
        refine w_goto (t := 67) dX0_relocationsLookLike_63 rfl ?_
        refine w_aload dX0_relocationsLookLike_67 rfl ?_
        refine r_getr  dX0_relocationsLookLike_69 ft_0_81 R rfl (cT_Ru hT hl) rfl (lb rfl) (cT_R hT hl 3 (lb rfl)) ?_
        refine r_getv  dX0_relocationsLookLike_72 ft_0_85 R rfl (cT_Yu hT hyl) rfl (lb rfl) nl.1 ?_
        refine r_vnn (t := 82) dX0_relocationsLookLike_75 rfl (fun h75 => ?_) (fun h75 => ?_)
        ·
          refine w_iconst (v := 0) dX0_relocationsLookLike_82 (by decide) ?_
          refine w_icmp_ne (t := 90) dX0_relocationsLookLike_83 rfl (fun _ => ?_) (fun h => absurd (by decide) h)
          refine w_iconst (v := 0) dX0_relocationsLookLike_90 (by decide) ?_
          refine w_istore dX0_relocationsLookLike_91 (lb rfl) ?_
          refine w_iload dX0_relocationsLookLike_93 rfl ?_
          refine w_if_eq (t := 124) dX0_relocationsLookLike_95 rfl (fun _ => ?_) (fun h => absurd (by decide) h)
          refine w_iconst (v := 0) dX0_relocationsLookLike_124 (by decide) ?_
          refine w_iret dX0_relocationsLookLike_125 rfl rfl ?_
          refine q0 (fun h => ?_)
          have h := h.2 t htn
          rw [ek, el] at h
          exact h75 (h.2.2.2.1.mp h59)
        ·
          refine w_iconst (v := 1) dX0_relocationsLookLike_78 (by decide) ?_
          refine w_goto (t := 83) dX0_relocationsLookLike_79 rfl ?_
          refine w_icmp_ne (t := 90) dX0_relocationsLookLike_83 rfl (fun h => absurd h (by decide)) (fun _ => ?_)
          refine w_iconst (v := 1) dX0_relocationsLookLike_86 (by decide) ?_
          refine w_goto (t := 91) dX0_relocationsLookLike_87 rfl ?_
          refine w_istore dX0_relocationsLookLike_91 (lb rfl) ?_
          refine w_iload dX0_relocationsLookLike_93 rfl ?_
          refine w_if_eq (t := 124) dX0_relocationsLookLike_95 rfl (fun h => absurd h (by decide)) (fun _ => ?_)
          refine w_aload dX0_relocationsLookLike_98 rfl ?_
          refine w_aload dX0_relocationsLookLike_100 rfl ?_
          refine r_inv1  dX0_relocationsLookLike_102 mt_0_110 R rfl (cT_Ru hT hk) rfl (lb rfl) (lb rfl) (lb rfl) (lb rfl) rfl (c4_like R hE.2.2 (t := cl (tT τ 23 k)) (t2 := cl (tT τ 23 l)) (by omega) (by omega) (cT_Ru hT hk) (cT_Ru hT hl) (cT_R hT hk 1 (lb rfl)) (cT_R hT hk 2 (lb rfl)) (cT_R hT hk 4 (lb rfl)) (cT_R hT hl 1 (lb rfl)) (cT_R hT hl 2 (lb rfl)) (cT_R hT hl 4 (lb rfl)) (fun e102 => ⟨_, rfl, ?_⟩) (fun e102 => ⟨_, rfl, ?_⟩))
          ·
            refine w_if_eq (t := 124) dX0_relocationsLookLike_105 rfl (fun h => absurd h (by decide)) (fun _ => ?_)
            refine w_aload dX0_relocationsLookLike_108 rfl ?_
            refine r_getr  dX0_relocationsLookLike_110 ft_0_81 R rfl (cT_Ru hT hk) rfl (lb rfl) (cT_R hT hk 3 (lb rfl)) ?_
            refine w_aload dX0_relocationsLookLike_113 rfl ?_
            refine r_getr  dX0_relocationsLookLike_115 ft_0_81 R rfl (cT_Ru hT hl) rfl (lb rfl) (cT_R hT hl 3 (lb rfl)) ?_
            refine r_inv1  dX0_relocationsLookLike_118 mt_0_114 R rfl (cT_Yu hT hyk) rfl (lb rfl) (lb rfl) (lb rfl) (lb rfl) rfl (c6_sao R (cT_Yu hT hyk) (cT_Yu hT hyl) (cT_Y hT hyk 5 (lb rfl)) (cT_Y hT hyk 6 (lb rfl)) nk.2 (cT_Y hT hyl 5 (lb rfl)) (cT_Y hT hyl 6 (lb rfl)) nl.2 (fun e118 => ⟨_, rfl, ?_⟩) (fun e118 => ⟨_, rfl, ?_⟩))
            ·
              refine w_if_ne (t := 126) dX0_relocationsLookLike_121 rfl (fun _ => ?_) (fun h => absurd (by decide) h)
              refine w_iinc dX0_relocationsLookLike_126 h3 (nI_1 _) (lb rfl) ?_
              refine w_goto (t := 15) dX0_relocationsLookLike_129 rfl ?_
              exact ih (t + 1) _ (by omega) (by omega) (fun i hi => by
                by_cases e : i = t
                · subst e
                  rw [ek, el]
                  exact ⟨e102.1, cl_inj rk.2.2.1.1 rl.2.2.1.1 e102.2.1, e102.2.2, ⟨fun _ => h75, fun _ => h59⟩, e118.1, e118.2.1, e118.2.2⟩
                · exact hb i (by omega)) h1 h2 rfl
            ·
              refine w_if_ne (t := 126) dX0_relocationsLookLike_121 rfl (fun h => absurd h (by decide)) (fun _ => ?_)
              refine w_iconst (v := 0) dX0_relocationsLookLike_124 (by decide) ?_
              refine w_iret dX0_relocationsLookLike_125 rfl rfl ?_
              refine q0 (fun h => ?_)
              have h := h.2 t htn
              rw [ek, el] at h
              exact e118 ⟨h.2.2.2.2.1, h.2.2.2.2.2.1, h.2.2.2.2.2.2⟩
          ·
            refine w_if_eq (t := 124) dX0_relocationsLookLike_105 rfl (fun _ => ?_) (fun h => absurd (by decide) h)
            refine w_iconst (v := 0) dX0_relocationsLookLike_124 (by decide) ?_
            refine w_iret dX0_relocationsLookLike_125 rfl rfl ?_
            refine q0 (fun h => ?_)
            have h := h.2 t htn
            rw [ek, el] at h
            exact e102 ⟨h.1, by rw [h.2.1], h.2.2.1⟩
theorem c0_rll (R : rx_R b0 O z1 z2 s G) (hS : rx_in s) {τ : tx_T} (hT : CT E s τ) (hV : TV τ) (hE : WE b0 O E) (hN : NC s τ) {a b : Nat} (ha : a < tN τ 1) (hb2 : b < tN τ 1) (q1 : (rlN τ a = rlN τ b ∧ ∀ i, i < rlN τ a → rLL τ (rlG τ a i) (rlG τ b i)) → Q (.inl (some (.int 1))) G) (q0 : ¬ (rlN τ a = rlN τ b ∧ ∀ i, i < rlN τ a → rLL τ (rlG τ a i) (rlG τ b i)) → Q (.inl (some (.int 0))) G) : mx_W (gt_P b0 mi E) mX0_relocationsLookLike 0 (mx_en 0 [.ref (rA s 6 0), .ref (rA s 21 a), .ref (rA s 21 b)]) [] G Q := by
  have hV0 := hV.1
  have hra : rlN τ a ≤ 200 := Nat.le_trans (cnt_le _ _) hV0.2.2.2.1
  have hrb : rlN τ b ≤ 200 := Nat.le_trans (cnt_le _ _) hV0.2.2.2.1
  refine w_aload_n dX0_relocationsLookLike_0 rfl ?_
  refine r_inv0  dX0_relocationsLookLike_1 mt_0_15 R rfl (cT_Lu hT ha) rfl (lb rfl) (lb rfl) (lb rfl) (lb rfl) rfl (c_lsize R rfl (cT_Lu hT ha) (cT_l hT ha).2.1 ⟨_, rfl, ?_⟩)
  refine w_aload_n dX0_relocationsLookLike_4 rfl ?_
  refine r_inv0  dX0_relocationsLookLike_5 mt_0_15 R rfl (cT_Lu hT hb2) rfl (lb rfl) (lb rfl) (lb rfl) (lb rfl) rfl (c_lsize R rfl (cT_Lu hT hb2) (cT_l hT hb2).2.1 ⟨_, rfl, ?_⟩)
  refine r_icmp_eqn (t := 13) dX0_relocationsLookLike_8 rfl (by omega) (by omega) (fun h8 => ?_) (fun h8 => ?_)
  ·
    refine w_iconst (v := nI 0) dX0_relocationsLookLike_13 (by decide) ?_
    refine w_istore_n dX0_relocationsLookLike_14 (lb rfl) ?_
    exact c0_rll_l R hS hT hV hE hN ha hb2 h8 q1 q0 _ 0 _ (Nat.lt_succ_self _) (Nat.zero_le _) (fun i hi => absurd hi (Nat.not_lt_zero _)) rfl rfl rfl
  ·
    refine w_iconst (v := 0) dX0_relocationsLookLike_11 (by decide) ?_
    exact w_iret dX0_relocationsLookLike_12 rfl rfl (q0 (fun h => h8 h.1))
theorem c0_looks (R : rx_R b0 O z1 z2 s G) (hS : rx_in s) {τ : tx_T} (hT : CT E s τ) (hV : TV τ) (hE : WE b0 O E) (hN : NC s τ) {a b : Nat} (ha : a < tN τ 1) (hb2 : b < tN τ 1) (q1 : (LL τ a b) → Q (.inl (some (.int 1))) G) (q0 : ¬ (LL τ a b) → Q (.inl (some (.int 0))) G) : mx_W (gt_P b0 mi E) mX0_looksLike 0 (mx_en 0 [.ref (rA s 6 0), .ref (rA s 20 a), .ref (rA s 20 b)]) [] G Q := by
  refine w_aload_n dX0_looksLike_0 rfl ?_
  refine r_geti  dX0_looksLike_1 ft_0_45 R rfl (cT_Su hT ha) rfl (lb rfl) (cT_S hT ha 2 rfl) ?_
  refine w_aload_n dX0_looksLike_4 rfl ?_
  refine r_geti  dX0_looksLike_5 ft_0_45 R rfl (cT_Su hT hb2) rfl (lb rfl) (cT_S hT hb2 2 rfl) ?_
  refine r_icmp_neP (t := 60) dX0_looksLike_8 rfl (fun h8 => ?_) (fun h8 => ?_)
  ·
    refine w_iconst (v := 0) dX0_looksLike_60 (by decide) ?_
    exact w_iret dX0_looksLike_61 rfl rfl (q0 (fun h => h8 h.1.1))
  ·
    refine w_aload_n dX0_looksLike_11 rfl ?_
    refine r_geti  dX0_looksLike_12 ft_0_97 R rfl (cT_Su hT ha) rfl (lb rfl) (cT_S hT ha 3 rfl) ?_
    refine w_aload_n dX0_looksLike_15 rfl ?_
    refine r_geti  dX0_looksLike_16 ft_0_97 R rfl (cT_Su hT hb2) rfl (lb rfl) (cT_S hT hb2 3 rfl) ?_
    refine r_icmp_neP (t := 60) dX0_looksLike_19 rfl (fun h19 => ?_) (fun h19 => ?_)
    ·
      refine w_iconst (v := 0) dX0_looksLike_60 (by decide) ?_
      exact w_iret dX0_looksLike_61 rfl rfl (q0 (fun h => h19 h.1.2.1))
    ·
      refine w_aload_n dX0_looksLike_22 rfl ?_
      refine r_geti  dX0_looksLike_23 ft_0_99 R rfl (cT_Su hT ha) rfl (lb rfl) (cT_S hT ha 4 rfl) ?_
      refine w_aload_n dX0_looksLike_26 rfl ?_
      refine r_geti  dX0_looksLike_27 ft_0_99 R rfl (cT_Su hT hb2) rfl (lb rfl) (cT_S hT hb2 4 rfl) ?_
      refine r_icmp_neP (t := 60) dX0_looksLike_30 rfl (fun h30 => ?_) (fun h30 => ?_)
      ·
        refine w_iconst (v := 0) dX0_looksLike_60 (by decide) ?_
        exact w_iret dX0_looksLike_61 rfl rfl (q0 (fun h => h30 h.1.2.2.1))
      ·
        refine w_aload_n dX0_looksLike_33 rfl ?_
        refine w_aload_n dX0_looksLike_34 rfl ?_
        refine r_getr  dX0_looksLike_35 ft_0_66 R rfl (cT_Su hT ha) rfl (lb rfl) (cT_S hT ha 6 rfl) ?_
        refine w_aload_n dX0_looksLike_38 rfl ?_
        refine r_getr  dX0_looksLike_39 ft_0_66 R rfl (cT_Su hT hb2) rfl (lb rfl) (cT_S hT hb2 6 rfl) ?_
        refine r_inv2  dX0_looksLike_42 mt_0_102 R rfl (hS _ _ rfl) rfl (lb rfl) (lb rfl) (lb rfl) (lb rfl) rfl (c0_rll R hS hT hV hE hN ha hb2 (fun e42 => ⟨_, rfl, ?_⟩) (fun e42 => ⟨_, rfl, ?_⟩))
        ·
          refine w_if_eq (t := 60) dX0_looksLike_45 rfl (fun h => absurd h (by decide)) (fun _ => ?_)
          refine w_aload_n dX0_looksLike_48 rfl ?_
          refine w_aload_n dX0_looksLike_49 rfl ?_
          refine r_inv1  dX0_looksLike_50 mt_0_106 R rfl (cT_Su hT ha) rfl (lb rfl) (lb rfl) (lb rfl) (lb rfl) rfl (c5_sameBytes R hS hT hV ha hb2 h19 (fun e50 => ⟨_, rfl, ?_⟩) (fun e50 => ⟨_, rfl, ?_⟩))
          ·
            refine w_if_eq (t := 60) dX0_looksLike_53 rfl (fun h => absurd h (by decide)) (fun _ => ?_)
            refine w_iconst (v := 1) dX0_looksLike_56 (by decide) ?_
            refine w_goto (t := 61) dX0_looksLike_57 rfl ?_
            exact w_iret dX0_looksLike_61 rfl rfl (q1 ⟨⟨h8, h19, h30, e42.1, e50⟩, e42.2⟩)
          ·
            refine w_if_eq (t := 60) dX0_looksLike_53 rfl (fun _ => ?_) (fun h => absurd (by decide) h)
            refine w_iconst (v := 0) dX0_looksLike_60 (by decide) ?_
            exact w_iret dX0_looksLike_61 rfl rfl (q0 (fun h => e50 h.1.2.2.2.2))
        ·
          refine w_if_eq (t := 60) dX0_looksLike_45 rfl (fun _ => ?_) (fun h => absurd (by decide) h)
          refine w_iconst (v := 0) dX0_looksLike_60 (by decide) ?_
          exact w_iret dX0_looksLike_61 rfl rfl (q0 (fun h => e42 ⟨h.1.2.2.2.1, h.2⟩))
end
