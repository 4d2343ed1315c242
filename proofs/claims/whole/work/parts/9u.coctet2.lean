section
variable {b0 mi z1 z2 : Nat} {E : Nat → Nat} {O : Nat → Option mx_C} {s : rx_S} {G : mx_H} {Q : mx_O → mx_H → Prop}
theorem c3_image (R : rx_R b0 O z1 z2 s G) (hS : rx_in s) {τ : tx_T} (hT : CT E s τ) (hV : TV τ) {w : Bool} (hF : FD E s τ w) (hE : WE b0 O E) (hO : AO τ) {S : vS} (hvi : VI τ w S) (hv : VC s τ S) (hP : PC s τ w S.1) (hES : ES s τ w S.1) {x n : Nat} (hx : x < tN τ 1) (hpl : plB τ w x = true) (h1 : plN τ w S.1 x ≤ n) (h2 : n < endN τ S.1 x (plN τ w S.1 x)) (qa : n < plN τ w S.1 x + cl (tT τ 5 x) → Q (.inl (some (.int (byS τ w S x (n - plN τ w S.1 x))))) G) (qb : plN τ w S.1 x + cl (tT τ 5 x) ≤ n → n < upN (plN τ w S.1 x + cl (tT τ 5 x)) 2 → Q (.inl (some (.int (-1)))) G) (qc : upN (plN τ w S.1 x + cl (tT τ 5 x)) 2 ≤ n → ∀ g, (hg : g < S.1.length) → (S.1[g]).1 = x → (S.1.take g).countP (fun e => Nat.beq e.1 x) = (n - upN (plN τ w S.1 x + cl (tT τ 5 x)) 2) / 8 → Q (.inl (some (.int (vby τ w S.1 g (((n - upN (plN τ w S.1 x + cl (tT τ 5 x)) 2) % 8 : Nat) : Int))))) G) : mx_W (gt_P b0 mi E) mX3_imageByte 0 (mx_en 0 [.ref (rA s 7 0), .ref (rA s 20 x), .long (lN n)]) [] G Q := by
  have hV0 := hV.1
  have hus := cT_Su hT hx
  have hzr := (hV.2.1 x hx).2.2.1
  have hzc := clI hzr.1
  have hx3 : rX s 20 x 3 = .inl (.int (nI (cl (tT τ 5 x)))) := (cT_S hT hx 3 rfl).trans (congrArg (fun q => Sum.inl (Value.int q)) (nIcl hzr.1).symm)
  have hpb := plN_le hV (w := w) (VI_nv hvi hV) hx
  have hub := upN_le (plN τ w S.1 x + cl (tT τ 5 x)) (a := 2) (by omega)
  have hen := endN_le hV hx (VI_nv hvi hV x) (p := plN τ w S.1 x)
  have hnb : n < 2 ^ 31 := by omega
  refine w_lload_n dX3_imageByte_0 rfl ?_
  refine w_aload_n dX3_imageByte_1 rfl ?_
  refine r_inv0  dX3_imageByte_2 mt_3_106 R rfl hus rfl (lb rfl) (lb rfl) (lb rfl) (lb rfl) rfl (c5_endWo R hus (hP x hx hpl) hx3 ⟨_, rfl, ?_⟩)
  rw [nI_l (by omega), lN_add]
  refine r_lc_ge (t := 22) dX3_imageByte_5 dX3_imageByte_6 rfl (fun h5 => ?_) (fun h5 => ?_)
  ·
    rw [lN_toInt (by omega), lN_toInt (by omega)] at h5
    refine w_lload_n dX3_imageByte_22 rfl ?_
    refine w_aload_n dX3_imageByte_23 rfl ?_
    refine w_iconst (v := nI 0) dX3_imageByte_24 (by decide) ?_
    refine r_inv1  dX3_imageByte_25 mt_3_117 R rfl hus rfl (lb rfl) (lb rfl) (lb rfl) (lb rfl) rfl (c5_pvN (m := 0) R hus (hP x hx hpl) hx3 (by omega) (by omega) (by omega) ⟨_, rfl, ?_⟩)
    rw [show upN (plN τ w S.1 x + cl (tT τ 5 x)) 2 + 8 * 0 = upN (plN τ w S.1 x + cl (tT τ 5 x)) 2 from rfl]
    refine w_lsub dX3_imageByte_28 ?_
    rw [lN_ofI, lN_ofI, ← Int64.ofInt_sub]
    refine w_lstore dX3_imageByte_29 (lb rfl) rfl ?_
    refine w_lload dX3_imageByte_31 rfl ?_
    refine w_lconst (v := 0) dX3_imageByte_33 (by decide) ?_
    refine r_lc_ge (t := 42) dX3_imageByte_34 dX3_imageByte_35 rfl (fun h34 => ?_) (fun h34 => ?_)
    ·
      rw [ofInt_i64 _ (by omega) (by omega), show (0 : Int64).toInt = 0 from rfl] at h34
      have eo : Int64.ofInt ((n : Int) - ((upN (plN τ w S.1 x + cl (tT τ 5 x)) 2 : Nat) : Int)) = lN (n - upN (plN τ w S.1 x + cl (tT τ 5 x)) 2) := by rw [lN_ofI]; congr 1; omega
      rw [eo]
      have hnv : (n - upN (plN τ w S.1 x + cl (tT τ 5 x)) 2) / 8 < nvN S.1 x := by
        unfold endN at h2
        split at h2
        · omega
        · omega
      obtain ⟨g, hg, hgx, hgv⟩ := vx_ex hnv
      refine w_aload_n dX3_imageByte_42 rfl ?_
      refine w_aload_n dX3_imageByte_43 rfl ?_
      refine w_lload dX3_imageByte_44 rfl ?_
      refine w_ldc2 dX3_imageByte_46 ct_3_121 ?_
      refine w_ldiv dX3_imageByte_49 (by decide) ?_
      refine w_l2i dX3_imageByte_50 ?_
      rw [lN_div8 _ (by omega), lN_i32 (by omega)]
      refine w_lload dX3_imageByte_51 rfl ?_
      refine w_ldc2 dX3_imageByte_53 ct_3_121 ?_
      refine w_lrem dX3_imageByte_56 (by decide) ?_
      refine w_l2i dX3_imageByte_57 ?_
      rw [lN_rem8 _ (by omega), lN_i32 (by omega)]
      refine r_inv3  dX3_imageByte_58 mt_3_123 R rfl (hS _ _ rfl) rfl (lb rfl) (lb rfl) (lb rfl) (lb rfl) rfl (c3_vbyte R hS hT hV hF hE hO hvi hv hP hES hx hpl hg hgx hgv (by omega) ⟨_, rfl, ?_⟩)
      exact w_iret dX3_imageByte_61 rfl rfl (qc (by omega) g hg hgx hgv)
    ·
      rw [ofInt_i64 _ (by omega) (by omega), show (0 : Int64).toInt = 0 from rfl] at h34
      refine w_iconst (v := (-1)) dX3_imageByte_38 (by decide) ?_
      refine w_goto (t := 61) dX3_imageByte_39 rfl ?_
      exact w_iret dX3_imageByte_61 rfl rfl (qb (by omega) (by omega))
  ·
    rw [lN_toInt (by omega), lN_toInt (by omega)] at h5
    refine w_aload_n dX3_imageByte_9 rfl ?_
    refine w_aload_n dX3_imageByte_10 rfl ?_
    refine w_lload_n dX3_imageByte_11 rfl ?_
    refine w_aload_n dX3_imageByte_12 rfl ?_
    refine r_geti  dX3_imageByte_13 ft_3_109 R rfl hus rfl (lb rfl) (hP x hx hpl) ?_
    refine w_lsub dX3_imageByte_16 ?_
    rw [lN_sub (by omega)]
    refine w_l2i dX3_imageByte_17 ?_
    rw [lN_i32 (by omega)]
    refine r_inv2  dX3_imageByte_18 mt_3_113 R rfl (hS _ _ rfl) rfl (lb rfl) (lb rfl) (lb rfl) (lb rfl) rfl (c3_sbyte R hS hT hV hF hE hO hvi hv hP hES hx hpl (by omega) ⟨_, rfl, ?_⟩)
    exact w_iret dX3_imageByte_21 rfl rfl (qa (by omega))
theorem c9_oct_l {s : rx_S} {G : mx_H} (R : rx_R b0 O z1 z2 s G) (hS : rx_in s) {τ : tx_T} (hV : TV τ) {l : Option Bool} (hC : CL E s τ l) (hE : WE b0 O E) {w : Bool} (hi : im τ l = some w) {p : Int64} (q : Q (.inl (some (.int (a_octet τ l p.toInt)))) G) : ∀ (d : Nat) (t : Nat) (L : mx_L), tN τ 1 - t < d → t ≤ tN τ 1 → (∀ a, a < t → ¬ inS τ w (vR τ w).1.1 p.toInt a) → L 0 = some (.ref (rA s 2 0)) → L 1 = some (.long p) → L 3 = some (.int (nI t)) → mx_W (gt_P b0 mi E) mX9_octet 12 L [] G Q := by
  intro d
  induction d with
  | zero => intro t L hd; exact absurd hd (Nat.not_lt_zero _)
  | succ d ih =>
    intro t L hd ht hb h0 h1 h3
    have hV0 := hV.1
    have hT := hC.1
    obtain ⟨x26, hO, hv, hvi, hLO⟩ := hC.2.2.2.2.2 w hi
    obtain ⟨x25, hF, x60⟩ := hC.2.2.2.1 w (im_kn hi)
    refine w_iload_n dX9_octet_12 h3 ?_
    refine w_aload_n dX9_octet_13 h0 ?_
    refine r_getr  dX9_octet_14 ft_8_10 R rfl (hS _ _ rfl) rfl (lb rfl) (cT_s hT 2 0 rfl) ?_
    refine r_getr  dX9_octet_17 ft_8_62 R rfl (hS _ _ rfl) rfl (lb rfl) (cT_s hT 3 0 rfl) ?_
    refine r_inv0  dX9_octet_20 mt_8_66 R rfl (hS _ _ rfl) rfl (lb rfl) (lb rfl) (lb rfl) (lb rfl) rfl (c_lsize R rfl (hS _ _ rfl) (cT_l0 hT).2.1 ⟨_, rfl, ?_⟩)
    refine r_icmp_gen (t := 87) dX9_octet_23 rfl (by omega) (by omega) (fun h23 => ?_) (fun h23 => ?_)
    ·
      refine w_iconst (v := (-1)) dX9_octet_87 (by decide) ?_
      refine w_iret dX9_octet_88 rfl rfl ?_
      obtain rfl : t = tN τ 1 := by omega
      rw [oct_0 hV hi hvi (fun x h9 => hb x h9.1 h9)] at q; exact q
    ·
      have htn : t < tN τ 1 := by omega
      have hus := cT_Su hT htn
      have hpb := plN_le hV (w := w) (VI_nv hvi hV) htn
      have hen := endN_le hV htn (VI_nv hvi hV t) (p := plN τ w (vR τ w).1.1 t)
      refine w_aload_n dX9_octet_26 h0 ?_
      refine r_getr  dX9_octet_27 ft_8_10 R rfl (hS _ _ rfl) rfl (lb rfl) (cT_s hT 2 0 rfl) ?_
      refine r_getr  dX9_octet_30 ft_8_62 R rfl (hS _ _ rfl) rfl (lb rfl) (cT_s hT 3 0 rfl) ?_
      refine w_iload_n dX9_octet_33 h3 ?_
      refine r_inv1  dX9_octet_34 mt_8_241 R rfl (hS _ _ rfl) rfl (lb rfl) (lb rfl) (lb rfl) (lb rfl) rfl (c_lget R rfl (hS _ _ rfl) (cT_l0 hT) htn ⟨_, rfl, ?_⟩)
      refine r_cast dX9_octet_37 qt_8_76 R rfl hus rfl (by decide) ?_
      refine w_astore dX9_octet_40 (lb rfl) ?_
      refine w_aload dX9_octet_42 rfl ?_
      refine r_inv0  dX9_octet_44 mt_8_245 R rfl hus rfl (lb rfl) (lb rfl) (lb rfl) (lb rfl) rfl (c5_plc R hS hT hV hF htn (fun e44 => ⟨_, rfl, ?_⟩) (fun e44 => ⟨_, rfl, ?_⟩))
      ·
        refine w_if_eq (t := 81) dX9_octet_47 rfl (fun h => absurd h (by decide)) (fun _ => ?_)
        refine w_lload_n dX9_octet_50 h1 ?_
        refine w_aload dX9_octet_51 rfl ?_
        refine r_geti  dX9_octet_53 ft_8_248 R rfl hus rfl (lb rfl) (hLO.1 t htn e44) ?_
        refine r_lc_lt (t := 81) dX9_octet_56 dX9_octet_57 rfl (fun h56 => ?_) (fun h56 => ?_)
        ·
          refine w_iinc dX9_octet_81 h3 (nI_1 _) (lb rfl) ?_
          refine w_goto (t := 12) dX9_octet_84 rfl ?_
          exact ih (t + 1) _ (by omega) (by omega) (fun a ha => by
            by_cases e : a = t
            · subst e; exact fun h9 => by have := h9.2.2.1; rw [lN_toInt (by omega)] at h56; omega
            · exact hb a (by omega)) h0 h1 rfl
        ·
          refine w_lload_n dX9_octet_60 h1 ?_
          refine w_aload dX9_octet_61 rfl ?_
          refine r_inv0  dX9_octet_63 mt_8_252 R rfl hus rfl (lb rfl) (lb rfl) (lb rfl) (lb rfl) rfl (c5_endN (i := t) R hV hT htn (hLO.1 t htn e44) (hv.1 t htn) (VI_nv hvi hV t) (by omega) ⟨_, rfl, ?_⟩)
          refine r_lc_ge (t := 81) dX9_octet_66 dX9_octet_67 rfl (fun h66 => ?_) (fun h66 => ?_)
          ·
            refine w_iinc dX9_octet_81 h3 (nI_1 _) (lb rfl) ?_
            refine w_goto (t := 12) dX9_octet_84 rfl ?_
            exact ih (t + 1) _ (by omega) (by omega) (fun a ha => by
              by_cases e : a = t
              · subst e; exact fun h9 => by have := h9.2.2.2; rw [lN_toInt (by omega)] at h66; omega
              · exact hb a (by omega)) h0 h1 rfl
          ·
            rw [lN_toInt (by omega)] at h56 h66
            obtain ⟨n, hn⟩ : ∃ n : Nat, p.toInt = n := ⟨p.toInt.toNat, by omega⟩
            have hp : p = lN n := by rw [i64_nat (p := p) (by omega), hn]; rfl
            have hin : inS τ w (vR τ w).1.1 (n : Int) t := ⟨htn, e44, by omega, by omega⟩
            have ho := im_ov hi
            have hu2 := (upN_le (plN τ w (vR τ w).1.1 t + cl (tT τ 5 t)) (a := 2) (by omega)).2
            rw [hn] at q
            subst hp
            refine w_aload_n dX9_octet_70 h0 ?_
            refine r_getr  dX9_octet_71 ft_8_40 R rfl (hS _ _ rfl) rfl (lb rfl) (cT_s hT 2 4 rfl) ?_
            refine w_aload dX9_octet_74 rfl ?_
            refine w_lload_n dX9_octet_76 h1 ?_
            refine r_inv2  dX9_octet_77 mt_8_255 R rfl (hS _ _ rfl) rfl (lb rfl) (lb rfl) (lb rfl) (lb rfl) rfl (c3_image (x := t) (n := n) R hS hT hV hF hE hO hvi hv hLO.1 hLO.2.2.1 htn e44 (by omega) (by omega) (fun ca => ⟨_, rfl, ?_⟩) (fun cb cb2 => ⟨_, rfl, ?_⟩) (fun cc g hg hgx hgv => ⟨_, rfl, ?_⟩))
            ·
              exact w_iret dX9_octet_80 rfl rfl (by rw [oct_1 hV hi hvi ho hin (by omega), show ((n : Int) - (plN τ w (vR τ w).1.1 t : Int)).toNat = n - plN τ w (vR τ w).1.1 t by omega] at q; exact q)
            ·
              exact w_iret dX9_octet_80 rfl rfl (by rw [oct_2 hV hi hvi ho hin (by omega) (by omega)] at q; exact q)
            ·
              exact w_iret dX9_octet_80 rfl rfl (by rw [oct_3 hV hi hvi ho hin cc hg hgx hgv] at q; exact q)
      ·
        refine w_if_eq (t := 81) dX9_octet_47 rfl (fun _ => ?_) (fun h => absurd (by decide) h)
        refine w_iinc dX9_octet_81 h3 (nI_1 _) (lb rfl) ?_
        refine w_goto (t := 12) dX9_octet_84 rfl ?_
        exact ih (t + 1) _ (by omega) (by omega) (fun a ha => by
          by_cases e : a = t
          · subst e; exact fun h9 => by have := h9.2.1; rw [e44] at this; cases this
          · exact hb a (by omega)) h0 h1 rfl
theorem c9_octet (R : rx_R b0 O z1 z2 s G) (hS : rx_in s) {τ : tx_T} (hV : TV τ) {l : Option Bool} (hC : CL E s τ l) (hE : WE b0 O E) {p : Int64} (q : Q (.inl (some (.int (a_octet τ l p.toInt)))) G) : mx_W (gt_P b0 mi E) mX9_octet 0 (mx_en 0 [.ref (rA s 2 0), .long p]) [] G Q := by
  cases hi : im τ l with
  | none =>
    refine w_aload_n dX9_octet_0 rfl ?_
    refine r_geti  dX9_octet_1 ft_8_190 R rfl (hS _ _ rfl) rfl (lb rfl) (hC.2.2.2.2.1 hi) ?_
    refine r_if_neP (t := 10) dX9_octet_4 rfl (fun h => absurd rfl h) (fun h4 => ?_)
    refine w_bipush (v := (-103)) dX9_octet_7 (by decide) ?_
    exact w_iret dX9_octet_9 rfl rfl (by rw [show a_octet τ l p.toInt = -103 from by unfold a_octet; rw [hi]] at q; exact q)
  | some w =>
    refine w_aload_n dX9_octet_0 rfl ?_
    refine r_geti  dX9_octet_1 ft_8_190 R rfl (hS _ _ rfl) rfl (lb rfl) (hC.2.2.2.2.2 w hi).1 ?_
    refine r_if_neP (t := 10) dX9_octet_4 rfl (fun h4 => ?_) (fun h => absurd h (by decide))
    refine w_iconst (v := nI 0) dX9_octet_10 (by decide) ?_
    refine w_istore_n dX9_octet_11 (lb rfl) ?_
    exact c9_oct_l R hS hV hC hE hi q _ 0 _ (Nat.lt_succ_self _) (Nat.zero_le _) (fun a ha => absurd ha (Nat.not_lt_zero _)) rfl rfl rfl
end
