section
variable {b0 mi z1 z2 : Nat} {E : Nat → Nat} {O : Nat → Option mx_C} {s : rx_S} {G : mx_H} {Q : mx_O → mx_H → Prop}
theorem c_ladd3r (R : rx_R b0 O z1 z2 s G) {r i : Nat} (hk : rx_k r = some (10, 3)) (hu : rU s r i = true) {a n : Nat} {e : Nat × Nat} (hue : rU s e.1 e.2 = true) (hek : e.1 = 20 ∨ e.1 = 24 ∨ e.1 = 25 ∨ e.1 = 23) (hua : rU s 9 a = true) (hn : n < rY s 9 a) (hY : rY s 9 a ≤ 1000) (q : ∀ G', rx_R b0 O z1 z2 (sX (sQ s 9 a n (some e)) r i 2 (.inl (.int (nI (n + 1))))) G' → Q (.inl none) G') : mx_W (gt_P b0 mi E) mJx4a65c_add_72be8 0 (mx_en 0 [.ref (rA s r i), .ref (rA s e.1 e.2), .ref (rA s 9 a), .int (nI n)]) [] G Q := by
  obtain ⟨c, m, g1, g2⟩ := k_20 hek
  refine w_iload_n dJx4a65c_add_72be8_0 rfl ?_
  refine w_aload_n dJx4a65c_add_72be8_1 rfl ?_
  refine r_alen  dJx4a65c_add_72be8_2 R rfl hua rfl rfl (lb rfl) ?_
  refine r_icmp_nen (t := 11) dJx4a65c_add_72be8_3 rfl (by omega) (by omega) (fun h3 => ?_) (fun h => by omega)
  refine w_aload_n dJx4a65c_add_72be8_11 rfl ?_
  refine w_iload_n dJx4a65c_add_72be8_12 rfl ?_
  refine w_aload_n dJx4a65c_add_72be8_13 rfl ?_
  refine r_aastr  dJx4a65c_add_72be8_14 R rfl hua rfl rfl (lb rfl) hn (by omega) rfl hue g1 g2 (fun G1 R1 => ?_)
  refine w_aload_n dJx4a65c_add_72be8_15 rfl ?_
  refine w_iload_n dJx4a65c_add_72be8_16 rfl ?_
  refine w_iconst (v := 1) dJx4a65c_add_72be8_17 (by decide) ?_
  refine w_iadd dJx4a65c_add_72be8_18 ?_
  rw [nI_1]
  refine r_puti  dJx4a65c_add_72be8_19 ft_10_48 R1 rfl hu hk (lb rfl) (fun h => by cases h) rfl rfl (fun G2 R2 => ?_)
  exact w_ret dJx4a65c_add_72be8_22 rfl (q _ R2)
theorem c_ladd30 (R : rx_R b0 O z1 z2 s G) {r i : Nat} (hk : rx_k r = some (10, 3)) (hu : rU s r i = true) {e : Nat × Nat} (hue : rU s e.1 e.2 = true) (hek : e.1 = 20 ∨ e.1 = 24 ∨ e.1 = 25 ∨ e.1 = 23) {c6 : vp_A} (h6 : E 6 < b0) (hO : O (E 6) = some (.inl (4, 0, c6.2))) (h1 : rX s r i 1 = .inl (.ref (E 6))) (h2 : rX s r i 2 = .inl (.int (nI 0))) (q : ∀ G', rx_R b0 O (z1 + 1) (z2 + 10) (sX (sQ (sX (sN9 s G.2.1 10 (fun _ => none)) r i 1 (.inr (9, G.2.1))) 9 G.2.1 0 (some e)) r i 2 (.inl (.int (nI 1)))) G' → Q (.inl none) G') : mx_W (gt_P b0 mi E) mJx4a65c_add_72be8 0 (mx_en 0 [.ref (rA s r i), .ref (rA s e.1 e.2), .ref (E 6), .int (nI 0)]) [] G Q := by
  obtain ⟨c, m, g1, g2⟩ := k_20 hek
  have hE : G.1 (E 6) = some (.inl (4, 0, c6.2)) := (R.2.2.2.2.2.2.2.2 (E 6) h6).trans hO
  have hA : rA (sX (sN9 s G.2.1 10 (fun _ => none)) r i 1 (.inr (9, G.2.1))) 9 G.2.1 = G.2.1 := R.2.2.2.2.1 _
  refine w_iload_n dJx4a65c_add_72be8_0 rfl ?_
  refine w_aload_n dJx4a65c_add_72be8_1 rfl ?_
  refine w_alen dJx4a65c_add_72be8_2 hE (Or.inl (lb rfl)) ?_
  refine r_icmp_neP (t := 11) dJx4a65c_add_72be8_3 rfl (fun h => absurd rfl h) (fun h3 => ?_)
  refine w_aload_n dJx4a65c_add_72be8_6 rfl ?_
  refine r_inv0  dJx4a65c_add_72be8_7 mt_10_129 R rfl hu hk (lb rfl) (lb rfl) (lb rfl) (lb rfl) rfl (c_lgrowE0 R hk hu h6 hO h1 h2 (fun G1 R1 => ⟨_, rfl, ?_⟩))
  refine w_astore_n dJx4a65c_add_72be8_10 (lb rfl) ?_
  refine w_aload_n dJx4a65c_add_72be8_11 rfl ?_
  refine w_iload_n dJx4a65c_add_72be8_12 rfl ?_
  refine w_aload_n dJx4a65c_add_72be8_13 rfl ?_
  refine r_aastr  dJx4a65c_add_72be8_14 R1 hA (by show rU (sN9 s G.2.1 10 (fun _ => none)) 9 G.2.1 = true; rw [N9_U, if_pos ⟨rfl, rfl⟩]) rfl (by show (4, rY (sN9 s G.2.1 10 (fun _ => none)) 9 G.2.1) = (0 + 4, 10); rw [N9_Y, if_pos ⟨rfl, rfl⟩]) (lb rfl) (lb rfl) (lb rfl) rfl (N9_mono (cap := 10) (g := fun _ => none) hue) g1 g2 (fun G1 R1 => ?_)
  refine w_aload_n dJx4a65c_add_72be8_15 rfl ?_
  refine w_iload_n dJx4a65c_add_72be8_16 rfl ?_
  refine w_iconst (v := 1) dJx4a65c_add_72be8_17 (by decide) ?_
  refine w_iadd dJx4a65c_add_72be8_18 ?_
  rw [nI_1]
  refine r_puti  dJx4a65c_add_72be8_19 ft_10_48 R1 rfl (N9_mono (cap := 10) (g := fun _ => none) hu) hk (lb rfl) (fun h => by cases h) rfl rfl (fun G2 R2 => ?_)
  exact w_ret dJx4a65c_add_72be8_22 rfl (q _ R2)
theorem c_ladd31 (R : rx_R b0 O z1 z2 s G) {r i : Nat} (hk : rx_k r = some (10, 3)) (hu : rU s r i = true) {e : Nat × Nat} (hue : rU s e.1 e.2 = true) (hek : e.1 = 20 ∨ e.1 = 24 ∨ e.1 = 25 ∨ e.1 = 23) {a n : Nat} {f : Nat → Nat × Nat} (h1 : rX s r i 1 = .inr (9, a)) (h2 : rX s r i 2 = .inl (.int (nI n))) (hua : rU s 9 a = true) (hY : rY s 9 a = n) (hn1 : 1 ≤ n) (hn2 : n ≤ 600) (hq : ∀ j, j < n → rQ s 9 a j = some (f j)) (hfk : ∀ j, j < n → (f j).1 = 20 ∨ (f j).1 = 24 ∨ (f j).1 = 25 ∨ (f j).1 = 23) (q : ∀ G', rx_R b0 O (z1 + 1) (z2 + (n + max 1 (n / 2))) (sX (sQ (sX (sN9 s G.2.1 (n + max 1 (n / 2)) (fun k => if k < n then rQ s 9 a k else none)) r i 1 (.inr (9, G.2.1))) 9 G.2.1 n (some e)) r i 2 (.inl (.int (nI (n + 1))))) G' → Q (.inl none) G') : mx_W (gt_P b0 mi E) mJx4a65c_add_72be8 0 (mx_en 0 [.ref (rA s r i), .ref (rA s e.1 e.2), .ref (rA s 9 a), .int (nI n)]) [] G Q := by
  obtain ⟨c, m, g1, g2⟩ := k_20 hek
  have hA : rA (sX (sN9 s G.2.1 (n + max 1 (n / 2)) (fun k => if k < n then rQ s 9 a k else none)) r i 1 (.inr (9, G.2.1))) 9 G.2.1 = G.2.1 := R.2.2.2.2.1 _
  refine w_iload_n dJx4a65c_add_72be8_0 rfl ?_
  refine w_aload_n dJx4a65c_add_72be8_1 rfl ?_
  refine r_alen  dJx4a65c_add_72be8_2 R rfl hua rfl (show rx_t (rY s) 9 a = (4, n) by show (4, rY s 9 a) = _; rw [hY]) (lb rfl) ?_
  refine r_icmp_neP (t := 11) dJx4a65c_add_72be8_3 rfl (fun h => absurd rfl h) (fun h3 => ?_)
  refine w_aload_n dJx4a65c_add_72be8_6 rfl ?_
  refine r_inv0  dJx4a65c_add_72be8_7 mt_10_129 R rfl hu hk (lb rfl) (lb rfl) (lb rfl) (lb rfl) rfl (c_lgrowE1 R hk hu h1 h2 hua hY hn1 hn2 hq hfk (fun G1 R1 => ⟨_, rfl, ?_⟩))
  refine w_astore_n dJx4a65c_add_72be8_10 (lb rfl) ?_
  refine w_aload_n dJx4a65c_add_72be8_11 rfl ?_
  refine w_iload_n dJx4a65c_add_72be8_12 rfl ?_
  refine w_aload_n dJx4a65c_add_72be8_13 rfl ?_
  refine r_aastr  dJx4a65c_add_72be8_14 R1 hA (by show rU (sN9 s G.2.1 (n + max 1 (n / 2)) (fun k => if k < n then rQ s 9 a k else none)) 9 G.2.1 = true; rw [N9_U, if_pos ⟨rfl, rfl⟩]) rfl (by show (4, rY (sN9 s G.2.1 (n + max 1 (n / 2)) (fun k => if k < n then rQ s 9 a k else none)) 9 G.2.1) = (0 + 4, n + max 1 (n / 2)); rw [N9_Y, if_pos ⟨rfl, rfl⟩]) (lb rfl) (by omega) (by omega) rfl (N9_mono (cap := n + max 1 (n / 2)) (g := fun k => if k < n then rQ s 9 a k else none) hue) g1 g2 (fun G1 R1 => ?_)
  refine w_aload_n dJx4a65c_add_72be8_15 rfl ?_
  refine w_iload_n dJx4a65c_add_72be8_16 rfl ?_
  refine w_iconst (v := 1) dJx4a65c_add_72be8_17 (by decide) ?_
  refine w_iadd dJx4a65c_add_72be8_18 ?_
  rw [nI_1]
  refine r_puti  dJx4a65c_add_72be8_19 ft_10_48 R1 rfl (N9_mono (cap := n + max 1 (n / 2)) (g := fun k => if k < n then rQ s 9 a k else none) hu) hk (lb rfl) (fun h => by cases h) rfl rfl (fun G2 R2 => ?_)
  exact w_ret dJx4a65c_add_72be8_22 rfl (q _ R2)
theorem sQ_at {s : rx_S} {r i j p : Nat} {v : Option (Nat × Nat)} : rQ (sQ s r i j v) r i p = if p = j then v else rQ s r i p := w3_at _ _ _ _ _ _
theorem sQ_p {s : rx_S} {r i j a b p : Nat} {v : Option (Nat × Nat)} (h : ¬ (a = r ∧ b = i)) : rQ (sQ s r i j v) a b p = rQ s a b p := w3_n _ _ (fun e => h ⟨e.1, e.2.1⟩)
theorem rx_w {z1' z2' : Nat} (R : rx_R b0 O z1 z2 s G) (h1 : z1 ≤ z1') (h2 : z2 ≤ z2') : rx_R b0 O z1' z2' s G := ⟨R.1, R.2.1, R.2.2.1, R.2.2.2.1, R.2.2.2.2.1, R.2.2.2.2.2.1, Nat.le_trans R.2.2.2.2.2.2.1 h1, Nat.le_trans R.2.2.2.2.2.2.2.1 h2, R.2.2.2.2.2.2.2.2⟩
theorem c_ladd (R : rx_R b0 O z1 z2 s G) {r i : Nat} (hk : rx_k r = some (10, 3)) (hu : rU s r i = true) {n : Nat} {f : Nat → Nat × Nat} (hl : rLS (E 6) s r i n f) (hn9 : n ≤ 600) {e : Nat × Nat} (hue : rU s e.1 e.2 = true) (hek : e.1 = 20 ∨ e.1 = 24 ∨ e.1 = 25 ∨ e.1 = 23) {c6 : vp_A} (h6 : E 6 < b0) (hO : O (E 6) = some (.inl (4, 0, c6.2))) (q : ∀ s' G', rx_R b0 O (z1 + 1) (z2 + (n + n / 2 + 10)) s' G' → lfr s s' r i → rLS (E 6) s' r i (n + 1) (fun j => if j = n then e else f j) → Q (.inl (some (.int 1))) G') : mx_W (gt_P b0 mi E) mJx4a65c_add_9ea2d 0 (mx_en 0 [.ref (rA s r i), .ref (rA s e.1 e.2)]) [] G Q := by
  obtain ⟨⟨mc, h0⟩, h2, hfk, hr⟩ := hl
  have hr9 := k_9 hk
  have fk' : ∀ j, j < n + 1 → ((fun j => if j = n then e else f j) j).1 = 20 ∨ ((fun j => if j = n then e else f j) j).1 = 24 ∨ ((fun j => if j = n then e else f j) j).1 = 25 ∨ ((fun j => if j = n then e else f j) j).1 = 23 := fun j hj => by
    show (if j = n then e else f j).1 = 20 ∨ (if j = n then e else f j).1 = 24 ∨ (if j = n then e else f j).1 = 25 ∨ (if j = n then e else f j).1 = 23
    by_cases ee : j = n
    · rw [if_pos ee]; exact hek
    · rw [if_neg ee]; exact hfk j (by omega)
  rcases hr with ⟨rfl, h1⟩ | ⟨a, h1, hua, hn1, hn2, hY, hq, hq0⟩
  ·
    refine w_aload_n dJx4a65c_add_9ea2d_0 rfl ?_
    refine w_dup dJx4a65c_add_9ea2d_1 rfl ?_
    refine r_geti  dJx4a65c_add_9ea2d_2 ft_10_63 R rfl hu hk (lb rfl) h0 ?_
    refine w_iconst (v := 1) dJx4a65c_add_9ea2d_5 (by decide) ?_
    refine w_iadd dJx4a65c_add_9ea2d_6 ?_
    refine r_puti  dJx4a65c_add_9ea2d_7 ft_10_63 R rfl hu hk (lb rfl) (fun h => by cases h) rfl rfl (fun G1 R1 => ?_)
    refine w_aload_n dJx4a65c_add_9ea2d_10 rfl ?_
    refine w_aload_n dJx4a65c_add_9ea2d_11 rfl ?_
    refine w_aload_n dJx4a65c_add_9ea2d_12 rfl ?_
    refine r_geti  dJx4a65c_add_9ea2d_13 ft_10_9 R1 rfl hu hk (lb rfl) ((sX_p (by omega)).trans h1) ?_
    refine w_aload_n dJx4a65c_add_9ea2d_16 rfl ?_
    refine r_geti  dJx4a65c_add_9ea2d_17 ft_10_48 R1 rfl hu hk (lb rfl) ((sX_p (by omega)).trans h2) ?_
    refine r_inv3  dJx4a65c_add_9ea2d_20 mt_10_131 R1 rfl hu hk (lb rfl) (lb rfl) (lb rfl) (lb rfl) rfl (c_ladd30 (s := sX s r i 0 (.inl (.int (mc + 1)))) R1 hk hu (e := e) hue hek h6 hO ((sX_p (by omega)).trans h1) ((sX_p (by omega)).trans h2) (fun G2 R2 => ⟨_, rfl, ?_⟩))
    refine w_iconst (v := 1) dJx4a65c_add_9ea2d_23 (by decide) ?_
    refine w_iret dJx4a65c_add_9ea2d_24 rfl rfl ?_
    refine q _ _ (rx_w R2 (by omega) (by omega)) ?_ ⟨⟨mc + 1, ?_⟩, sX_s, fk', Or.inr ⟨G1.2.1, ?_, ?_, ?_, ?_, ?_, ?_, ?_⟩⟩
    · refine ⟨rfl, rfl, rfl, fun r' i' g h9 hne => ?_, fun r' i' h => N9_mono (cap := 10) (g := fun _ => none) h, fun r' i' h9 => ⟨?_, ?_, ?_⟩, fun a7 ha _ => ⟨?_, ?_⟩, fun a7 ha => Or.inr ?_⟩
      · rw [sX_p (fun e => hne ⟨e.1, e.2.1⟩)]
        show rX (sX (sN9 (sX s r i 0 (.inl (.int (mc + 1)))) G1.2.1 10 (fun _ => none)) _ _ _ _) r' i' g = _
        rw [sX_p (fun e => hne ⟨e.1, e.2.1⟩), N9_X, if_neg (fun e => h9 e.1), sX_p (fun e => hne ⟨e.1, e.2.1⟩)]
      · exact (N9_U (s := sX s r i 0 (.inl (.int (mc + 1)))) (a := G1.2.1) (cap := 10) (g := fun _ => none) _ _).trans (if_neg (fun e => h9 e.1))
      · funext k
        exact (sQ_p (fun e => h9 e.1)).trans ((N9_Q (s := sX s r i 0 (.inl (.int (mc + 1)))) (a := G1.2.1) (cap := 10) (g := fun _ => none) _ _ _).trans (if_neg (fun e => h9 e.1)))
      · exact (N9_Y (s := sX s r i 0 (.inl (.int (mc + 1)))) (a := G1.2.1) (cap := 10) (g := fun _ => none) _ _).trans (if_neg (fun e => h9 e.1))
      · have hne : a7 ≠ G1.2.1 := fun e => by rw [e] at ha; have := rx_fr9 R1; exact absurd (this.symm.trans ha) (by decide)
        funext k
        exact (sQ_p (fun e => hne e.2)).trans ((N9_Q (s := sX s r i 0 (.inl (.int (mc + 1)))) (a := G1.2.1) (cap := 10) (g := fun _ => none) _ _ _).trans (if_neg (fun e => hne e.2)))
      · have hne : a7 ≠ G1.2.1 := fun e => by rw [e] at ha; have := rx_fr9 R1; exact absurd (this.symm.trans ha) (by decide)
        exact (N9_Y (s := sX s r i 0 (.inl (.int (mc + 1)))) (a := G1.2.1) (cap := 10) (g := fun _ => none) _ _).trans (if_neg (fun e => hne e.2))
      · rw [sX_p (by omega)] at ha
        have ha2 : rX (sX (sN9 (sX s r i 0 (.inl (.int (mc + 1)))) G1.2.1 10 (fun _ => none)) r i 1 (.inr (9, G1.2.1))) r i 1 = .inr (9, a7) := ha
        rw [sX_s] at ha2
        cases ha2
        show rU (sX s r i 0 (.inl (.int (mc + 1)))) 9 G1.2.1 = false
        exact rx_fr9 R1
    · rw [sX_p (by omega)]
      show rX (sX (sN9 (sX s r i 0 (.inl (.int (mc + 1)))) G1.2.1 10 (fun _ => none)) _ _ _ _) r i 0 = _
      rw [sX_p (by omega), N9_X, if_neg (fun e => hr9 e.1), sX_s]
    · rw [sX_p (by omega)]
      show rX (sX (sN9 (sX s r i 0 (.inl (.int (mc + 1)))) G1.2.1 10 (fun _ => none)) _ _ _ _) r i 1 = _
      rw [sX_s]
    · exact (N9_U (s := sX s r i 0 (.inl (.int (mc + 1)))) (a := G1.2.1) (cap := 10) (g := fun _ => none) _ _).trans (if_pos ⟨rfl, rfl⟩)
    · show _ ≤ rY (sN9 (sX s r i 0 (.inl (.int (mc + 1)))) G1.2.1 10 (fun _ => none)) 9 G1.2.1
      rw [N9_Y, if_pos ⟨rfl, rfl⟩]; omega
    · show _ ≤ rY (sN9 (sX s r i 0 (.inl (.int (mc + 1)))) G1.2.1 10 (fun _ => none)) 9 G1.2.1
      rw [N9_Y, if_pos ⟨rfl, rfl⟩]; omega
    · show rY (sN9 (sX s r i 0 (.inl (.int (mc + 1)))) G1.2.1 10 (fun _ => none)) 9 G1.2.1 ≤ _
      rw [N9_Y, if_pos ⟨rfl, rfl⟩]; omega
    · intro j hj
      obtain rfl : j = 0 := by omega
      exact sQ_at.trans (if_pos rfl)
    · intro j hj
      refine (sQ_at.trans (if_neg (by omega))).trans ?_
      exact (N9_Q (s := sX s r i 0 (.inl (.int (mc + 1)))) (a := G1.2.1) (cap := 10) (g := fun _ => none) _ _ _).trans (if_pos ⟨rfl, rfl⟩)
  · by_cases hfull : rY s 9 a = n
    ·
      refine w_aload_n dJx4a65c_add_9ea2d_0 rfl ?_
      refine w_dup dJx4a65c_add_9ea2d_1 rfl ?_
      refine r_geti  dJx4a65c_add_9ea2d_2 ft_10_63 R rfl hu hk (lb rfl) h0 ?_
      refine w_iconst (v := 1) dJx4a65c_add_9ea2d_5 (by decide) ?_
      refine w_iadd dJx4a65c_add_9ea2d_6 ?_
      refine r_puti  dJx4a65c_add_9ea2d_7 ft_10_63 R rfl hu hk (lb rfl) (fun h => by cases h) rfl rfl (fun G1 R1 => ?_)
      refine w_aload_n dJx4a65c_add_9ea2d_10 rfl ?_
      refine w_aload_n dJx4a65c_add_9ea2d_11 rfl ?_
      refine w_aload_n dJx4a65c_add_9ea2d_12 rfl ?_
      refine r_getr  dJx4a65c_add_9ea2d_13 ft_10_9 R1 rfl hu hk (lb rfl) ((sX_p (by omega)).trans h1) ?_
      refine w_aload_n dJx4a65c_add_9ea2d_16 rfl ?_
      refine r_geti  dJx4a65c_add_9ea2d_17 ft_10_48 R1 rfl hu hk (lb rfl) ((sX_p (by omega)).trans h2) ?_
      refine r_inv3  dJx4a65c_add_9ea2d_20 mt_10_131 R1 rfl hu hk (lb rfl) (lb rfl) (lb rfl) (lb rfl) rfl (c_ladd31 (s := sX s r i 0 (.inl (.int (mc + 1)))) R1 hk hu (e := e) hue hek ((sX_p (by omega)).trans h1) ((sX_p (by omega)).trans h2) hua hfull (by omega) (by omega) hq hfk (fun G2 R2 => ⟨_, rfl, ?_⟩))
      refine w_iconst (v := 1) dJx4a65c_add_9ea2d_23 (by decide) ?_
      refine w_iret dJx4a65c_add_9ea2d_24 rfl rfl ?_
      have hag : a ≠ G1.2.1 := fun e => by rw [e] at hua; have := rx_fr9 R1; exact absurd (this.symm.trans hua) (by decide)
      refine q _ _ (rx_w R2 (by omega) (by omega)) ?_ ⟨⟨mc + 1, ?_⟩, sX_s, fk', Or.inr ⟨G1.2.1, ?_, ?_, ?_, ?_, ?_, ?_, ?_⟩⟩
      · refine ⟨rfl, rfl, rfl, fun r' i' g h9 hne => ?_, fun r' i' h => N9_mono (cap := n + max 1 (n / 2)) (g := fun k => if k < n then rQ (sX s r i 0 (.inl (.int (mc + 1)))) 9 a k else none) h, fun r' i' h9 => ⟨?_, ?_, ?_⟩, fun a7 ha _ => ⟨?_, ?_⟩, fun a7 ha => Or.inr ?_⟩
        · rw [sX_p (fun e => hne ⟨e.1, e.2.1⟩)]
          show rX (sX (sN9 (sX s r i 0 (.inl (.int (mc + 1)))) G1.2.1 (n + max 1 (n / 2)) (fun k => if k < n then rQ (sX s r i 0 (.inl (.int (mc + 1)))) 9 a k else none)) _ _ _ _) r' i' g = _
          rw [sX_p (fun e => hne ⟨e.1, e.2.1⟩), N9_X, if_neg (fun e => h9 e.1), sX_p (fun e => hne ⟨e.1, e.2.1⟩)]
        · exact (N9_U (s := sX s r i 0 (.inl (.int (mc + 1)))) (a := G1.2.1) (cap := n + max 1 (n / 2)) (g := fun k => if k < n then rQ (sX s r i 0 (.inl (.int (mc + 1)))) 9 a k else none) _ _).trans (if_neg (fun e => h9 e.1))
        · funext k
          exact (sQ_p (fun e => h9 e.1)).trans ((N9_Q (s := sX s r i 0 (.inl (.int (mc + 1)))) (a := G1.2.1) (cap := n + max 1 (n / 2)) (g := fun k => if k < n then rQ (sX s r i 0 (.inl (.int (mc + 1)))) 9 a k else none) _ _ _).trans (if_neg (fun e => h9 e.1)))
        · exact (N9_Y (s := sX s r i 0 (.inl (.int (mc + 1)))) (a := G1.2.1) (cap := n + max 1 (n / 2)) (g := fun k => if k < n then rQ (sX s r i 0 (.inl (.int (mc + 1)))) 9 a k else none) _ _).trans (if_neg (fun e => h9 e.1))
        · have hne : a7 ≠ G1.2.1 := fun e => by rw [e] at ha; have := rx_fr9 R1; exact absurd (this.symm.trans ha) (by decide)
          funext k
          exact (sQ_p (fun e => hne e.2)).trans ((N9_Q (s := sX s r i 0 (.inl (.int (mc + 1)))) (a := G1.2.1) (cap := n + max 1 (n / 2)) (g := fun k => if k < n then rQ (sX s r i 0 (.inl (.int (mc + 1)))) 9 a k else none) _ _ _).trans (if_neg (fun e => hne e.2)))
        · have hne : a7 ≠ G1.2.1 := fun e => by rw [e] at ha; have := rx_fr9 R1; exact absurd (this.symm.trans ha) (by decide)
          exact (N9_Y (s := sX s r i 0 (.inl (.int (mc + 1)))) (a := G1.2.1) (cap := n + max 1 (n / 2)) (g := fun k => if k < n then rQ (sX s r i 0 (.inl (.int (mc + 1)))) 9 a k else none) _ _).trans (if_neg (fun e => hne e.2))
        · rw [sX_p (by omega)] at ha
          have ha2 : rX (sX (sN9 (sX s r i 0 (.inl (.int (mc + 1)))) G1.2.1 (n + max 1 (n / 2)) (fun k => if k < n then rQ (sX s r i 0 (.inl (.int (mc + 1)))) 9 a k else none)) r i 1 (.inr (9, G1.2.1))) r i 1 = .inr (9, a7) := ha
          rw [sX_s] at ha2
          cases ha2
          show rU (sX s r i 0 (.inl (.int (mc + 1)))) 9 G1.2.1 = false
          exact rx_fr9 R1
      · rw [sX_p (by omega)]
        show rX (sX (sN9 (sX s r i 0 (.inl (.int (mc + 1)))) G1.2.1 (n + max 1 (n / 2)) (fun k => if k < n then rQ (sX s r i 0 (.inl (.int (mc + 1)))) 9 a k else none)) _ _ _ _) r i 0 = _
        rw [sX_p (by omega), N9_X, if_neg (fun e => hr9 e.1), sX_s]
      · rw [sX_p (by omega)]
        show rX (sX (sN9 (sX s r i 0 (.inl (.int (mc + 1)))) G1.2.1 (n + max 1 (n / 2)) (fun k => if k < n then rQ (sX s r i 0 (.inl (.int (mc + 1)))) 9 a k else none)) _ _ _ _) r i 1 = _
        rw [sX_s]
      · exact (N9_U (s := sX s r i 0 (.inl (.int (mc + 1)))) (a := G1.2.1) (cap := n + max 1 (n / 2)) (g := fun k => if k < n then rQ (sX s r i 0 (.inl (.int (mc + 1)))) 9 a k else none) _ _).trans (if_pos ⟨rfl, rfl⟩)
      · show _ ≤ rY (sN9 (sX s r i 0 (.inl (.int (mc + 1)))) G1.2.1 (n + max 1 (n / 2)) (fun k => if k < n then rQ (sX s r i 0 (.inl (.int (mc + 1)))) 9 a k else none)) 9 G1.2.1
        rw [N9_Y, if_pos ⟨rfl, rfl⟩]; omega
      · show _ ≤ rY (sN9 (sX s r i 0 (.inl (.int (mc + 1)))) G1.2.1 (n + max 1 (n / 2)) (fun k => if k < n then rQ (sX s r i 0 (.inl (.int (mc + 1)))) 9 a k else none)) 9 G1.2.1
        rw [N9_Y, if_pos ⟨rfl, rfl⟩]; omega
      · show rY (sN9 (sX s r i 0 (.inl (.int (mc + 1)))) G1.2.1 (n + max 1 (n / 2)) (fun k => if k < n then rQ (sX s r i 0 (.inl (.int (mc + 1)))) 9 a k else none)) 9 G1.2.1 ≤ _
        rw [N9_Y, if_pos ⟨rfl, rfl⟩]; omega
      · intro j hj
        refine sQ_at.trans ?_
        by_cases e9 : j = n
        · rw [if_pos e9]; simp only [if_pos e9]
        · rw [if_neg e9]
          refine ((N9_Q (s := sX s r i 0 (.inl (.int (mc + 1)))) (a := G1.2.1) (cap := n + max 1 (n / 2)) (g := fun k => if k < n then rQ (sX s r i 0 (.inl (.int (mc + 1)))) 9 a k else none) _ _ _).trans (if_pos ⟨rfl, rfl⟩)).trans ?_
          simp only [if_neg e9]
          rw [if_pos (by omega)]; exact hq j (by omega)
      · intro j hj
        refine (sQ_at.trans (if_neg (by omega))).trans ?_
        refine ((N9_Q (s := sX s r i 0 (.inl (.int (mc + 1)))) (a := G1.2.1) (cap := n + max 1 (n / 2)) (g := fun k => if k < n then rQ (sX s r i 0 (.inl (.int (mc + 1)))) 9 a k else none) _ _ _).trans (if_pos ⟨rfl, rfl⟩)).trans (if_neg (by omega))
    ·
      refine w_aload_n dJx4a65c_add_9ea2d_0 rfl ?_
      refine w_dup dJx4a65c_add_9ea2d_1 rfl ?_
      refine r_geti  dJx4a65c_add_9ea2d_2 ft_10_63 R rfl hu hk (lb rfl) h0 ?_
      refine w_iconst (v := 1) dJx4a65c_add_9ea2d_5 (by decide) ?_
      refine w_iadd dJx4a65c_add_9ea2d_6 ?_
      refine r_puti  dJx4a65c_add_9ea2d_7 ft_10_63 R rfl hu hk (lb rfl) (fun h => by cases h) rfl rfl (fun G1 R1 => ?_)
      refine w_aload_n dJx4a65c_add_9ea2d_10 rfl ?_
      refine w_aload_n dJx4a65c_add_9ea2d_11 rfl ?_
      refine w_aload_n dJx4a65c_add_9ea2d_12 rfl ?_
      refine r_getr  dJx4a65c_add_9ea2d_13 ft_10_9 R1 rfl hu hk (lb rfl) ((sX_p (by omega)).trans h1) ?_
      refine w_aload_n dJx4a65c_add_9ea2d_16 rfl ?_
      refine r_geti  dJx4a65c_add_9ea2d_17 ft_10_48 R1 rfl hu hk (lb rfl) ((sX_p (by omega)).trans h2) ?_
      refine r_inv3  dJx4a65c_add_9ea2d_20 mt_10_131 R1 rfl hu hk (lb rfl) (lb rfl) (lb rfl) (lb rfl) rfl (c_ladd3r (s := sX s r i 0 (.inl (.int (mc + 1)))) R1 hk hu (e := e) hue hek hua (by show n < rY s 9 a; omega) hY (fun G2 R2 => ⟨_, rfl, ?_⟩))
      refine w_iconst (v := 1) dJx4a65c_add_9ea2d_23 (by decide) ?_
      refine w_iret dJx4a65c_add_9ea2d_24 rfl rfl ?_
      refine q _ _ (rx_w R2 (by omega) (by omega)) ?_ ⟨⟨mc + 1, ?_⟩, sX_s, fk', Or.inr ⟨a, ?_, hua, by show _ ≤ rY s 9 a; omega, hn2, hY, ?_, ?_⟩⟩
      · refine ⟨rfl, rfl, rfl, fun r' i' g h9 hne => ?_, fun r' i' h => h, fun r' i' h9 => ⟨rfl, ?_, rfl⟩, fun a' ha hne => ⟨?_, rfl⟩, fun a' ha => Or.inl ?_⟩
        · rw [sX_p (fun e => hne ⟨e.1, e.2.1⟩)]
          show rX (sX s r i 0 _) r' i' g = _
          rw [sX_p (fun e => hne ⟨e.1, e.2.1⟩)]
        · funext k
          exact sQ_p (fun e => h9 e.1)
        · funext k
          exact sQ_p (fun e => hne (by rw [h1, e.2]))
        · rw [sX_p (by omega)] at ha
          have ha2 : rX (sX s r i 0 (.inl (.int (mc + 1)))) r i 1 = .inr (9, a') := ha
          rw [sX_p (by omega)] at ha2; exact ha2
      · rw [sX_p (by omega)]
        show rX (sX s r i 0 _) r i 0 = _
        rw [sX_s]
      · rw [sX_p (by omega)]
        show rX (sX s r i 0 _) r i 1 = _
        rw [sX_p (by omega)]; exact h1
      · intro j hj
        refine sQ_at.trans ?_
        by_cases e9 : j = n
        · rw [if_pos e9]; simp only [if_pos e9]
        · rw [if_neg e9]; simp only [if_neg e9]; exact hq j (by omega)
      · intro j hj
        exact (sQ_at.trans (if_neg (by omega))).trans (hq0 j (by omega))
end
