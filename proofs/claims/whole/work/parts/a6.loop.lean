/-! ===== The law's loop ===== -/
theorem nI_m6 {n : Nat} (h : n ≤ 3072) : (nI n - nI 6).toInt = (n : Int) - 6 := by
  rw [Int32.toInt_sub, nI_toInt (by omega), nI_toInt (by omega), Int.bmod_def]
  omega
section
variable {b0 mi : Nat} {E : Nat → Nat} {O : Nat → Option mx_C} {Q : mx_O → mx_H → Prop}
set_option maxHeartbeats 4000000 in
theorem lw_loop (hE : WE b0 O E) {b len : Nat} {xs : Nat → Int32} (hb : O b = some (.inl (99, len, .inl xs))) (hlt : b < b0) (hlen : len ≤ 3072) {g0 m0 a0 : Nat} (hq : ∀ s G, rx_R b0 O (b0 + 31352) 4342490 s G → Q (.inl (some (.int 1))) G) : ∀ (d i : Nat) (s : rx_S) (G : mx_H) (τ : tx_T) (l : Option Bool) (L : mx_L), len - 6 * i < d → 6 * i ≤ len → LI b0 O E g0 m0 a0 i s G τ l → LQ b g0 m0 a0 (6 * i) L → mx_W (gt_P b0 mi E) mL_law 23 L [] G Q := by
  intro d
  induction d with
  | zero => intro i s G τ l L hd; exact absurd hd (Nat.not_lt_zero _)
  | succ d ih =>
    intro i s G τ l L hd hi h hL
    have hh := h
    have hL0 := hL
    obtain ⟨R, hS, hV, hC, hM, hZ, e2, e0, e26⟩ := hh
    obtain ⟨l0, l1, l2, l3, l4⟩ := hL0
    have hG : G.1 b = some (.inl (99, len, .inl xs)) := (R.2.2.2.2.2.2.2.2 b hlt).trans hb
    refine w_iload dL_law_23 l4 ?_
    refine w_aload_n dL_law_25 l0 ?_
    refine w_alen dL_law_26 hG (Or.inr (Or.inr rfl)) ?_
    refine w_bipush (v := nI 6) dL_law_27 (by decide) ?_
    refine w_isub dL_law_29 ?_
    refine r_icmp_gti (t := 913) dL_law_30 rfl (fun e => ?_) (fun e => ?_)
    · refine w_iconst (v := 1) dL_law_913 (by decide) ?_
      exact w_iret dL_law_914 rfl rfl (hq s G (rx_w R (by omega) (by omega)))
    · rw [nI_m6 hlen, nI_toInt (by omega)] at e
      have hn : 6 * i + 6 ≤ len := by omega
      have next : ∀ s' G' τ' l' L', LI b0 O E g0 m0 a0 (i + 1) s' G' τ' l' → LQ b g0 m0 a0 (6 * i) L' → mx_W (gt_P b0 mi E) mL_law 907 L' [] G' Q := fun s' G' τ' l' L' h' hL' => by
        obtain ⟨k0, k1, k2, k3, k4⟩ := hL'
        refine w_iinc (v := nI (6 * (i + 1))) dL_law_907 k4 ?_ (lb rfl) ?_
        · show nI (6 * i) + nI 6 = _
          rw [nI_add]; rfl
        · refine w_goto (t := 23) dL_law_910 rfl ?_
          exact ih (i + 1) s' G' τ' l' _ (by omega) (by omega) h' ⟨k0, k1, k2, k3, rfl⟩
      refine w_aload_n dL_law_33 l0 ?_
      refine w_iload dL_law_34 l4 ?_
      refine w_sald dL_law_36 hG (by omega) (by omega) ?_
      refine w_bipush (v := 31) dL_law_37 (by decide) ?_
      refine w_iand dL_law_39 ?_
      generalize xs (6 * i) &&& 31 = v
      have hl2 : len < 2 ^ 31 := by omega
      by_cases c : v.toInt < 0 ∨ 16 < v.toInt
      · refine w_tblOut (t := 907) dL_law_40 c rfl ?_
        exact next s G τ l L ⟨rx_w R (by omega) (by omega), hS, hV, hC, hM, pz_mono hZ (Nat.le_succ _), e2, e0, e26⟩ hL
      · have hv : v.toInt = 0 ∨ v.toInt = 1 ∨ v.toInt = 2 ∨ v.toInt = 3 ∨ v.toInt = 4 ∨ v.toInt = 5 ∨ v.toInt = 6 ∨ v.toInt = 7 ∨ v.toInt = 8 ∨ v.toInt = 9 ∨ v.toInt = 10 ∨ v.toInt = 11 ∨ v.toInt = 12 ∨ v.toInt = 13 ∨ v.toInt = 14 ∨ v.toInt = 15 ∨ v.toInt = 16 := by omega
        rcases hv with z | z | z | z | z | z | z | z | z | z | z | z | z | z | z | z | z
        · exact w_tblIn (off := 84) (t := 124) dL_law_40 c (by rw [z]; rfl) rfl (lw_object hE hb hlt hl2 hn h hL next)
        · exact w_tblIn (off := 97) (t := 137) dL_law_40 c (by rw [z]; rfl) rfl (lw_section hE hb hlt hl2 hn h hL next)
        · exact w_tblIn (off := 170) (t := 210) dL_law_40 c (by rw [z]; rfl) rfl (lw_patch hE hb hlt hl2 hn (by omega) h hL next)
        · exact w_tblIn (off := 219) (t := 259) dL_law_40 c (by rw [z]; rfl) rfl (lw_mark hE hb hlt hl2 hn h hL next)
        · exact w_tblIn (off := 268) (t := 308) dL_law_40 c (by rw [z]; rfl) rfl (lw_symbol hE hb hlt hl2 hn h hL next)
        · exact w_tblIn (off := 341) (t := 381) dL_law_40 c (by rw [z]; rfl) rfl (lw_relocation hE hb hlt hl2 hn h hL next)
        · exact w_tblIn (off := 414) (t := 454) dL_law_40 c (by rw [z]; rfl) rfl (lw_root hE hb hlt hl2 hn h hL next)
        · exact w_tblIn (off := 439) (t := 479) dL_law_40 c (by rw [z]; rfl) rfl (lw_base hE hb hlt hl2 hn h hL next)
        · exact w_tblIn (off := 476) (t := 516) dL_law_40 c (by rw [z]; rfl) rfl (lw_link hE hb hlt hl2 hn h hL next)
        · exact w_tblIn (off := 517) (t := 557) dL_law_40 c (by rw [z]; rfl) rfl (lw_fault hE hb hlt hl2 hn h hL next)
        · exact w_tblIn (off := 530) (t := 570) dL_law_40 c (by rw [z]; rfl) rfl (lw_kept hE hb hlt hl2 hn h hL next)
        · exact w_tblIn (off := 567) (t := 607) dL_law_40 c (by rw [z]; rfl) rfl (lw_place hE hb hlt hl2 hn h hL next)
        · exact w_tblIn (off := 622) (t := 662) dL_law_40 c (by rw [z]; rfl) rfl (lw_value hE hb hlt hl2 hn h hL next)
        · exact w_tblIn (off := 677) (t := 717) dL_law_40 c (by rw [z]; rfl) rfl (lw_octet hE hb hlt hl2 hn h hL next)
        · exact w_tblIn (off := 734) (t := 774) dL_law_40 c (by rw [z]; rfl) rfl (lw_range hE hb hlt hl2 hn h hL next)
        · exact w_tblIn (off := 817) (t := 857) dL_law_40 c (by rw [z]; rfl) rfl (lw_veneers hE hb hlt hl2 hn h hL next)
        · exact w_tblIn (off := 842) (t := 882) dL_law_40 c (by rw [z]; rfl) rfl (lw_count hE hb hlt hl2 hn h hL next)
theorem lw_W (hE : WE b0 O E) {b len : Nat} {xs : Nat → Int32} (hb : O b = some (.inl (99, len, .inl xs))) (hlt : b < b0) (hlen : len ≤ 3072) {s : rx_S} {G : mx_H} (R : rx_R b0 O b0 0 s G) (hn : ∀ r i, rU s r i = false) : mx_W (gt_P b0 mi E) mL_law 0 (mx_en 0 [.ref b]) [] G (fun o G' => o = .inl (some (.int 1)) ∧ G'.2.1 ≤ b0 + 31352 ∧ G'.2.2 ≤ 4342490) :=
  lw_begin R hn (fun s' G' g0 m0 a0 L h hL => lw_loop hE hb hlt hlen (fun s G R => ⟨rfl, R.2.2.2.2.2.2.1, R.2.2.2.2.2.2.2.1⟩) (len + 1) 0 s' G' τ0 none L (by omega) (by omega) h hL)
end
