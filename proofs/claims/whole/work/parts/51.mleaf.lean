section
variable {b0 mi z1 z2 : Nat} {E : Nat → Nat} {O : Nat → Option mx_C} {s : rx_S} {G : mx_H} {Q : mx_O → mx_H → Prop}
theorem c10_told (R : rx_R b0 O z1 z2 s G) (hS : rx_in s) (hM : rm_F s) (q : ∀ G, rx_R b0 O z1 z2 (m_told s) G → Q (.inl none) G) : mx_W (gt_P b0 mi E) mX10_told 0 (mx_en 0 [.ref (rA s 0 0)]) [] G Q := by
  refine w_aload_n dX10_told_0 rfl ?_
  refine w_iconst (v := 0) dX10_told_1 (by decide) ?_
  refine r_puti  dX10_told_2 ft_9_139 R rfl (hS _ _ rfl) rfl (lb rfl) (fun h => by cases h) rfl rfl (fun G1 R1 => ?_)
  refine w_aload_n dX10_told_5 rfl ?_
  refine w_iconst (v := 0) dX10_told_6 (by decide) ?_
  refine r_puti  dX10_told_7 ft_9_143 R1 rfl (hS _ _ rfl) rfl (lb rfl) (fun h => by cases h) rfl rfl (fun G2 R2 => ?_)
  refine w_aload_n dX10_told_10 rfl ?_
  refine w_iconst (v := 0) dX10_told_11 (by decide) ?_
  refine r_puti  dX10_told_12 ft_9_146 R2 rfl (hS _ _ rfl) rfl (lb rfl) (fun h => by cases h) rfl rfl (fun G3 R3 => ?_)
  refine w_aload_n dX10_told_15 rfl ?_
  refine w_iconst (v := (-1)) dX10_told_16 (by decide) ?_
  refine r_puti  dX10_told_17 ft_9_82 R3 rfl (hS _ _ rfl) rfl (lb rfl) (fun h => by cases h) rfl rfl (fun G4 R4 => ?_)
  exact w_ret dX10_told_20 rfl (q _ R4)
theorem c10_in {x l m : Int64} (qt : l.toInt ≤ x.toInt → x.toInt ≤ m.toInt → Q (.inl (some (.int 1))) G) (qf : (l.toInt ≤ x.toInt → x.toInt ≤ m.toInt → False) → Q (.inl (some (.int 0))) G) : mx_W (gt_P b0 mi E) mX10_in 0 (mx_en 0 [.long x, .long l, .long m]) [] G Q := by
  refine w_lload_n dX10_in_0 rfl ?_
  refine w_lload_n dX10_in_1 rfl ?_
  refine r_lc_gt (t := 17) dX10_in_2 dX10_in_3 rfl (fun h2 => ?_) (fun h2 => ?_)
  ·
    refine w_iconst (v := 0) dX10_in_17 (by decide) ?_
    exact w_iret dX10_in_18 rfl rfl (qf (by omega))
  ·
    refine w_lload_n dX10_in_6 rfl ?_
    refine w_lload dX10_in_7 rfl ?_
    refine r_lc_gt (t := 17) dX10_in_9 dX10_in_10 rfl (fun h9 => ?_) (fun h9 => ?_)
    ·
      refine w_iconst (v := 0) dX10_in_17 (by decide) ?_
      exact w_iret dX10_in_18 rfl rfl (qf (by omega))
    ·
      refine w_iconst (v := 1) dX10_in_13 (by decide) ?_
      refine w_goto (t := 18) dX10_in_14 rfl ?_
      exact w_iret dX10_in_18 rfl rfl (qt (by omega) (by omega))
end
