/-! ===== Bytes of the class ===== -/
theorem rx_c_o {s : rx_S} {r i a m c n : Nat} {g : Nat → Value} (hk : rx_k r = some (c, n)) : rx_c (sNw s r i a m g) r i = .inr (c, (List.range n).map g) := by
  simp only [rx_c, hk]
  congr 2
  apply List.map_congr_left
  intro f _
  rw [Nw_X, if_pos ⟨rfl, rfl⟩]; rfl
theorem pz_mono {s : rx_S} {K K' : Nat} (h : pz s K) (hk : K ≤ K') : pz s K' := fun i m u x => by have := h i m u x; omega
section
variable {b0 mi z1 z2 : Nat} {E : Nat → Nat} {O : Nat → Option mx_C} {s : rx_S} {G : mx_H} {Q : mx_O → mx_H → Prop}
theorem c5_byteAt_l {s : rx_S} {G : mx_H} (R : rx_R b0 O z1 z2 s G) {j m n : Nat} {a : Nat → Nat} {y : Nat → Int32} (hus : rU s 20 j = true) (h7 : rX s 20 j 7 = .inr (22, j)) (hu2 : rU s 22 j = true) (hl : rLS (E 6) s 22 j n (fun p => (23, 64 * p + j))) (hp : ∀ p, p < n → rU s 23 (64 * p + j) = true ∧ a p < 2 ^ 31 ∧ rX s 23 (64 * p + j) 0 = .inl (.int (nI (a p))) ∧ rX s 23 (64 * p + j) 1 = .inl (.int (y (a p)))) (hm : m < 2 ^ 31) {sd : Int32} (h5 : rX s 20 j 5 = .inl (.int sd)) (q1 : ∀ p, p < n → a p = m → Q (.inl (some (.int (y m)))) G) (q0 : (∀ p, p < n → a p ≠ m) → Q (.inl (some (.int ((sd + nI m) &&& 255)))) G) : ∀ (d : Nat) (t : Nat) (L : mx_L), n - t < d → t ≤ n → (∀ p, p < t → a p ≠ m) → L 0 = some (.ref (rA s 20 j)) → L 1 = some (.int (nI m)) → L 2 = some (.int (nI t)) → mx_W (gt_P b0 mi E) mX5_byteAt 2 L [] G Q := by
  intro d
  induction d with
  | zero => intro t L hd; exact absurd hd (Nat.not_lt_zero _)
  | succ d ih =>
    intro t L hd ht hb h0 h1 h2
    have hn := rLS_n hl
    refine w_iload_n dX5_byteAt_2 h2 ?_
    refine w_aload_n dX5_byteAt_3 h0 ?_
    refine r_getr  dX5_byteAt_4 ft_5_18 R rfl hus rfl (lb rfl) h7 ?_
    refine r_inv0  dX5_byteAt_7 mt_5_49 R rfl hu2 rfl (lb rfl) (lb rfl) (lb rfl) (lb rfl) rfl (c_lsize R rfl hu2 (hl).2.1 ⟨_, rfl, ?_⟩)
    refine r_icmp_gen (t := 52) dX5_byteAt_10 rfl (by omega) (by omega) (fun h10 => ?_) (fun h10 => ?_)
    ·
      refine w_aload_n dX5_byteAt_52 h0 ?_
      refine r_geti  dX5_byteAt_53 ft_5_46 R rfl hus rfl (lb rfl) h5 ?_
      refine w_iload_n dX5_byteAt_56 h1 ?_
      refine w_iadd dX5_byteAt_57 ?_
      refine w_sipush (v := 255) dX5_byteAt_58 (by decide) ?_
      refine w_iand dX5_byteAt_61 ?_
      exact w_iret dX5_byteAt_62 rfl rfl (q0 (fun p hp => hb p (by omega)))
    ·
      have htn : t < n := by omega
      obtain ⟨c1, c2, c3, c4⟩ := hp t htn
      refine w_aload_n dX5_byteAt_13 h0 ?_
      refine r_getr  dX5_byteAt_14 ft_5_18 R rfl hus rfl (lb rfl) h7 ?_
      refine w_iload_n dX5_byteAt_17 h2 ?_
      refine r_inv1  dX5_byteAt_18 mt_5_52 R rfl hu2 rfl (lb rfl) (lb rfl) (lb rfl) (lb rfl) rfl (c_lget R rfl hu2 (hl) htn ⟨_, rfl, ?_⟩)
      show mx_W _ _ _ _ (.ref (rA s 23 (64 * t + j)) :: _) _ _
      refine r_cast dX5_byteAt_21 qt_5_56 R rfl c1 rfl (by decide) ?_
      refine r_geti  dX5_byteAt_24 ft_5_58 R rfl c1 rfl (lb rfl) c3 ?_
      refine w_iload_n dX5_byteAt_27 h1 ?_
      refine r_icmp_nen (t := 46) dX5_byteAt_28 rfl (by omega) (by omega) (fun h28 => ?_) (fun h28 => ?_)
      ·
        refine w_iinc dX5_byteAt_46 h2 (nI_1 _) (lb rfl) ?_
        refine w_goto (t := 2) dX5_byteAt_49 rfl ?_
        exact ih (t + 1) _ (by omega) (by omega) (fun p hp => by
          by_cases e : p = t
          · rw [e]; assumption
          · exact hb p (by omega)) h0 h1 rfl
      ·
        refine w_aload_n dX5_byteAt_31 h0 ?_
        refine r_getr  dX5_byteAt_32 ft_5_18 R rfl hus rfl (lb rfl) h7 ?_
        refine w_iload_n dX5_byteAt_35 h2 ?_
        refine r_inv1  dX5_byteAt_36 mt_5_52 R rfl hu2 rfl (lb rfl) (lb rfl) (lb rfl) (lb rfl) rfl (c_lget R rfl hu2 (hl) htn ⟨_, rfl, ?_⟩)
        show mx_W _ _ _ _ (.ref (rA s 23 (64 * t + j)) :: _) _ _
        refine r_cast dX5_byteAt_39 qt_5_56 R rfl c1 rfl (by decide) ?_
        refine r_geti  dX5_byteAt_42 ft_5_61 R rfl c1 rfl (lb rfl) c4 ?_
        refine w_iret dX5_byteAt_45 rfl rfl ?_
        rw [h28]; exact q1 t htn h28
theorem c5_byteAt (R : rx_R b0 O z1 z2 s G) (hS : rx_in s) {τ : tx_T} (hT : CT E s τ) (hV : TV τ) {j m : Nat} (hj : j < tN τ 1) (hm : m < cl (tT τ 5 j)) (q : Q (.inl (some (.int (tY τ j m)))) G) : mx_W (gt_P b0 mi E) mX5_byteAt 0 (mx_en 0 [.ref (rA s 20 j), .int (nI m)]) [] G Q := by
  have hV0 := hV.1
  have hz := (hV.2.1 j hj).2.2.1
  have hz2 := clI hz.1
  have hus := cT_Su hT hj
  obtain ⟨sd, n, a, b1, b2, b3, b4, b5, b6, b7, b8⟩ := cT_B hT hj
  refine w_iconst (v := nI 0) dX5_byteAt_0 (by decide) ?_
  refine w_istore_n dX5_byteAt_1 (lb rfl) ?_
  exact c5_byteAt_l (y := tY τ j) R hus b2 b3 b4 (fun p hp => ⟨(b5 p hp).1, by have := (b5 p hp).2.1; omega, (b5 p hp).2.2.1, (b5 p hp).2.2.2⟩) (by omega) b1 (fun p hp e => q) (fun h => by rw [← b8 m hm h]; exact q) _ 0 _ (Nat.lt_succ_self _) (Nat.zero_le _) (fun p hp => absurd hp (Nat.not_lt_zero _)) rfl rfl rfl
end
