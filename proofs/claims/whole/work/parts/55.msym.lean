section
variable {b0 mi z1 z2 : Nat} {E : Nat → Nat} {O : Nat → Option mx_C} {s : rx_S} {G : mx_H} {Q : mx_O → mx_H → Prop}
theorem c10_symbol_p (R : rx_R b0 O z1 z2 s G) (hS : rx_in s) {τ : tx_T} (hT : MR s τ) (hV : TV τ) {o n i r : Int32} {j : Nat} (hj : j < 2 ^ 31) (qn : ∀ r9, f_symbol τ o n (nI j) i r = (r9, none) → Q (.inl (some (.int r9))) G) (qs : ∀ r9 τ', f_symbol τ o n (nI j) i r = (r9, some τ') → ∀ s' G', rx_R b0 O z1 z2 s' G' → mfr s s' → MR s' τ' → MT s' → Q (.inl (some (.int r9))) G') : mx_W (gt_P b0 mi E) mX10_symbol 0 (mx_en 0 [.ref (rA s 0 0), .int o, .int n, .int (nI j), .int i, .int r]) [] G Q := by
  obtain ⟨hM, ⟨c1, c2, c13, c14, c20, c26⟩, hsec, hby, hsy, hre, hro, hba⟩ := hT
  have hV0 := hV.1
  have e0 := nI_toInt (n := tN τ 0) (by omega)
  have e1 := nI_toInt (n := tN τ 1) (by omega)
  have e2 := nI_toInt (n := tN τ 2) (by omega)
  have e17 : Int32.toInt (-17) = -17 := by decide
  have em1 : Int32.toInt (-1) = -1 := by decide
  have en3 : (nI 3).toInt = 3 := by decide
  have en2 : (nI 2).toInt = 2 := by decide
  have en4 : (nI 4).toInt = 4 := by decide
  have en0 : (0 : Int32).toInt = 0 := by decide
  have ex := nI_toInt hj
  have ec := clN hj
  have x0 : 0 ≤ (nI j).toInt := by omega
  have x1 : ¬ (nI j).toInt = -1 := by omega
  have x2 : ¬ (nI j).toInt < -1 := by omega
  refine w_iload_n dX10_symbol_0 rfl ?_
  refine w_i2l dX10_symbol_1 ?_
  refine w_lconst (v := 0) dX10_symbol_2 (by decide) ?_
  refine w_aload_n dX10_symbol_3 rfl ?_
  refine r_geti  dX10_symbol_4 ft_9_149 R rfl (hS _ _ rfl) rfl (lb rfl) c1 ?_
  refine w_iconst (v := 1) dX10_symbol_7 (by decide) ?_
  refine w_isub dX10_symbol_8 ?_
  refine w_i2l dX10_symbol_9 ?_
  refine r_stat3 dX10_symbol_10 mt_9_155 (lb rfl) (lb rfl) (lb rfl) (lb rfl) rfl (c10_inI (Int32.toInt_toInt64 _) (b := 0) (by decide) (t_cnt (by omega)) (fun i10a i10b => ⟨_, rfl, ?_⟩) (fun i10 => ⟨_, rfl, ?_⟩))
  ·
    refine w_if_eq (t := 44) dX10_symbol_13 rfl (fun h => absurd h (by decide)) (fun _ => ?_)
    refine w_iload_n dX10_symbol_16 rfl ?_
    refine w_bipush (v := (-17)) dX10_symbol_17 (by decide) ?_
    refine r_icmp_lti (t := 44) dX10_symbol_19 rfl (fun h19 => ?_) (fun h19 => ?_)
    ·
      refine w_bipush (v := (-101)) dX10_symbol_44 (by decide) ?_
      exact w_iret dX10_symbol_46 rfl rfl (qn _ (by rw [f_symbol, if_pos (fun e => by omega)]))
    ·
      refine w_iload_n dX10_symbol_22 rfl ?_
      refine w_aload_n dX10_symbol_23 rfl ?_
      refine r_geti  dX10_symbol_24 ft_9_165 R rfl (hS _ _ rfl) rfl (lb rfl) c2 ?_
      refine r_icmp_gei (t := 44) dX10_symbol_27 rfl (fun h27 => ?_) (fun h27 => ?_)
      ·
        refine w_bipush (v := (-101)) dX10_symbol_44 (by decide) ?_
        exact w_iret dX10_symbol_46 rfl rfl (qn _ (by rw [f_symbol, if_pos (fun e => by omega)]))
      ·
        refine w_iload_n dX10_symbol_30 rfl ?_
        refine r_if_lti (t := 47) dX10_symbol_31 rfl (fun h => by omega) (fun h31 => ?_)
        refine w_aload_n dX10_symbol_34 rfl ?_
        refine r_getr  dX10_symbol_35 ft_9_13 R rfl (hS _ _ rfl) rfl (lb rfl) (hM.1 3 (lb rfl) (lb rfl)) ?_
        refine w_iload_n dX10_symbol_38 rfl ?_
        refine r_iald  dX10_symbol_39 R rfl (hS _ _ rfl) rfl rfl (by omega) (lb rfl) (hsec j (by omega)).1 ?_
        refine w_iload_n dX10_symbol_40 rfl ?_
        refine w_icmp_eq (t := 47) dX10_symbol_41 rfl (fun h41 => ?_) (fun h41 => ?_)
        ·
          refine w_iload_n dX10_symbol_47 rfl ?_
          refine r_if_lti (t := 55) dX10_symbol_48 rfl (fun h => by omega) (fun h48 => ?_)
          refine w_iconst (v := 1) dX10_symbol_51 (by decide) ?_
          refine w_goto (t := 56) dX10_symbol_52 rfl ?_
          refine w_istore dX10_symbol_56 (lb rfl) ?_
          refine w_iload dX10_symbol_58 rfl ?_
          refine w_if_eq (t := 76) dX10_symbol_60 rfl (fun h => absurd h (by decide)) (fun _ => ?_)
          refine w_iload dX10_symbol_63 rfl ?_
          refine w_i2l dX10_symbol_65 ?_
          refine w_lconst (v := 0) dX10_symbol_66 (by decide) ?_
          refine w_ldc2 dX10_symbol_67 ct_9_178 ?_
          refine r_stat3 dX10_symbol_70 mt_9_155 (lb rfl) (lb rfl) (lb rfl) (lb rfl) rfl (c10_inI (Int32.toInt_toInt64 _) (b := 0) (by decide) (c := 2) (by decide) (fun i70a i70b => ⟨_, rfl, ?_⟩) (fun i70 => ⟨_, rfl, ?_⟩))
          ·
            refine w_goto (t := 104) dX10_symbol_73 rfl ?_
            refine w_istore dX10_symbol_104 (lb rfl) ?_
            refine w_iload_n dX10_symbol_106 rfl ?_
            refine w_i2l dX10_symbol_107 ?_
            refine w_lconst (v := 0) dX10_symbol_108 (by decide) ?_
            refine w_ldc2 dX10_symbol_109 ct_9_184 ?_
            refine r_stat3 dX10_symbol_112 mt_9_155 (lb rfl) (lb rfl) (lb rfl) (lb rfl) rfl (c10_inI (Int32.toInt_toInt64 _) (b := 0) (by decide) (c := 63) (by decide) (fun i112a i112b => ⟨_, rfl, ?_⟩) (fun i112 => ⟨_, rfl, ?_⟩))
            ·
              refine w_if_eq (t := 149) dX10_symbol_115 rfl (fun h => absurd h (by decide)) (fun _ => ?_)
              refine w_iload dX10_symbol_118 rfl ?_
              refine w_i2l dX10_symbol_120 ?_
              refine w_lconst (v := 0) dX10_symbol_121 (by decide) ?_
              refine w_iload dX10_symbol_122 rfl ?_
              refine w_if_eq (t := 137) dX10_symbol_124 rfl (fun h => absurd h (by decide)) (fun _ => ?_)
              refine w_aload_n dX10_symbol_127 rfl ?_
              refine r_getr  dX10_symbol_128 ft_9_20 R rfl (hS _ _ rfl) rfl (lb rfl) (hM.1 5 (lb rfl) (lb rfl)) ?_
              refine w_iload_n dX10_symbol_131 rfl ?_
              refine r_iald  dX10_symbol_132 R rfl (hS _ _ rfl) rfl rfl (by omega) (lb rfl) (hsec j (by omega)).2.2.1 ?_
              refine w_i2l dX10_symbol_133 ?_
              refine w_goto (t := 138) dX10_symbol_134 rfl ?_
              refine r_stat3 dX10_symbol_138 mt_9_155 (lb rfl) (lb rfl) (lb rfl) (lb rfl) rfl (c10_inI (Int32.toInt_toInt64 _) (b := 0) (by decide) (Int32.toInt_toInt64 _) (fun i138a i138b => ⟨_, rfl, ?_⟩) (fun i138 => ⟨_, rfl, ?_⟩))
              ·
                refine w_if_eq (t := 149) dX10_symbol_141 rfl (fun h => absurd h (by decide)) (fun _ => ?_)
                refine w_iload dX10_symbol_144 rfl ?_
                refine w_if_ne (t := 152) dX10_symbol_146 rfl (fun _ => ?_) (fun h => absurd (by decide) h)
                refine w_aload_n dX10_symbol_152 rfl ?_
                refine r_geti  dX10_symbol_153 ft_9_186 R rfl (hS _ _ rfl) rfl (lb rfl) c14 ?_
                refine w_bipush (v := nI 120) dX10_symbol_156 (by decide) ?_
                refine r_icmp_nen (t := 164) dX10_symbol_158 rfl (by omega) (by omega) (fun h158 => ?_) (fun h158 => ?_)
                ·
                  refine w_aload_n dX10_symbol_164 rfl ?_
                  refine r_inv0  dX10_symbol_165 mt_9_152 R rfl (hS _ _ rfl) rfl (lb rfl) (lb rfl) (lb rfl) (lb rfl) rfl (c10_told R hS hM (fun _ Rt => ⟨_, rfl, ?_⟩))
                  refine w_aload_n dX10_symbol_168 rfl ?_
                  refine r_geti  dX10_symbol_169 ft_9_186 Rt rfl (hS _ _ rfl) rfl (lb rfl) c14 ?_
                  refine w_istore dX10_symbol_172 (lb rfl) ?_
                  refine w_aload_n dX10_symbol_174 rfl ?_
                  refine r_getr  dX10_symbol_175 ft_9_43 Rt rfl (hS _ _ rfl) rfl (lb rfl) (hM.1 15 (lb rfl) (lb rfl)) ?_
                  refine w_iload dX10_symbol_178 rfl ?_
                  refine w_iload_n dX10_symbol_180 rfl ?_
                  refine r_iast  dX10_symbol_181 Rt rfl (hS _ _ rfl) rfl rfl (by omega) (lb rfl) (fun G1 R1 => ?_)
                  refine w_aload_n dX10_symbol_182 rfl ?_
                  refine r_getr  dX10_symbol_183 ft_9_46 R1 rfl (hS _ _ rfl) rfl (lb rfl) (hM.1 16 (lb rfl) (lb rfl)) ?_
                  refine w_iload dX10_symbol_186 rfl ?_
                  refine w_iload_n dX10_symbol_188 rfl ?_
                  refine r_iast  dX10_symbol_189 R1 rfl (hS _ _ rfl) rfl rfl (by omega) (lb rfl) (fun G2 R2 => ?_)
                  refine w_aload_n dX10_symbol_190 rfl ?_
                  refine r_getr  dX10_symbol_191 ft_9_49 R2 rfl (hS _ _ rfl) rfl (lb rfl) (hM.1 17 (lb rfl) (lb rfl)) ?_
                  refine w_iload dX10_symbol_194 rfl ?_
                  refine w_iload_n dX10_symbol_196 rfl ?_
                  refine r_iast  dX10_symbol_197 R2 rfl (hS _ _ rfl) rfl rfl (by omega) (lb rfl) (fun G3 R3 => ?_)
                  refine w_aload_n dX10_symbol_198 rfl ?_
                  refine r_getr  dX10_symbol_199 ft_9_52 R3 rfl (hS _ _ rfl) rfl (lb rfl) (hM.1 18 (lb rfl) (lb rfl)) ?_
                  refine w_iload dX10_symbol_202 rfl ?_
                  refine w_iload dX10_symbol_204 rfl ?_
                  refine r_iast  dX10_symbol_206 R3 rfl (hS _ _ rfl) rfl rfl (by omega) (lb rfl) (fun G4 R4 => ?_)
                  refine w_aload_n dX10_symbol_207 rfl ?_
                  refine r_getr  dX10_symbol_208 ft_9_55 R4 rfl (hS _ _ rfl) rfl (lb rfl) (hM.1 19 (lb rfl) (lb rfl)) ?_
                  refine w_iload dX10_symbol_211 rfl ?_
                  refine w_iload dX10_symbol_213 rfl ?_
                  refine r_iast  dX10_symbol_215 R4 rfl (hS _ _ rfl) rfl rfl (by omega) (lb rfl) (fun G5 R5 => ?_)
                  refine w_aload_n dX10_symbol_216 rfl ?_
                  refine w_dup dX10_symbol_217 rfl ?_
                  refine r_geti  dX10_symbol_218 ft_9_186 R5 rfl (hS _ _ rfl) rfl (lb rfl) c14 ?_
                  refine w_iconst (v := 1) dX10_symbol_221 (by decide) ?_
                  refine w_iadd dX10_symbol_222 ?_
                  rw [nI_1]
                  refine r_puti  dX10_symbol_223 ft_9_186 R5 rfl (hS _ _ rfl) rfl (lb rfl) (fun h => by cases h) rfl rfl (fun G6 R6 => ?_)
                  refine w_iload dX10_symbol_226 rfl ?_
                  refine w_iret dX10_symbol_228 rfl rfl ?_
                  refine qs _ _ (by rw [f_symbol, if_neg (Classical.not_not.mpr ⟨i10a, by omega, by omega, by omega, fun h => by rw [ec]; exact h41⟩), if_neg (Classical.not_not.mpr ⟨⟨i112a, i112b⟩, ⟨i138a, by rw [if_pos x0, ec]; exact i138b⟩, ⟨by rw [if_neg x1]; exact i70a, by rw [if_neg x2]; exact i70b⟩⟩), if_neg h158]) _ _ R6 (mfr.told s).I.I.I.I.I.X ?_ ⟨rfl, rfl, rfl, rfl⟩
                  exact ⟨rm_X (m_told_F hM) rfl, ⟨c1, c2, c13, rfl, c20, c26⟩, hsec, hby, fun k hk => ⟨wu s.2.2.2.1 τ.2.1 (fun e => (hsy k (by have : k < tN τ 2 + 1 := hk; omega)).1), wu s.2.2.2.1 τ.2.1 (fun e => (hsy k (by have : k < tN τ 2 + 1 := hk; omega)).2.1), wu s.2.2.2.1 τ.2.1 (fun e => (hsy k (by have : k < tN τ 2 + 1 := hk; omega)).2.2.1), wu s.2.2.2.1 τ.2.1 (fun e => (hsy k (by have : k < tN τ 2 + 1 := hk; omega)).2.2.2.1), wu s.2.2.2.1 τ.2.1 (fun e => (hsy k (by have : k < tN τ 2 + 1 := hk; omega)).2.2.2.2)⟩, hre, hro, hba⟩
                ·
                  refine w_bipush (v := (-104)) dX10_symbol_161 (by decide) ?_
                  exact w_iret dX10_symbol_163 rfl rfl (qn _ (by rw [f_symbol, if_neg (Classical.not_not.mpr ⟨i10a, by omega, by omega, by omega, fun h => by rw [ec]; exact h41⟩), if_neg (Classical.not_not.mpr ⟨⟨i112a, i112b⟩, ⟨i138a, by rw [if_pos x0, ec]; exact i138b⟩, ⟨by rw [if_neg x1]; exact i70a, by rw [if_neg x2]; exact i70b⟩⟩), if_pos h158]))
              ·
                refine w_if_eq (t := 149) dX10_symbol_141 rfl (fun _ => ?_) (fun h => absurd (by decide) h)
                refine w_bipush (v := (-102)) dX10_symbol_149 (by decide) ?_
                exact w_iret dX10_symbol_151 rfl rfl (qn _ (by rw [f_symbol, if_neg (Classical.not_not.mpr ⟨i10a, by omega, by omega, by omega, fun h => by rw [ec]; exact h41⟩), if_pos (fun e => by rw [if_pos x0, ec] at e; exact i138 e.2.1.1 e.2.1.2)]))
            ·
              refine w_if_eq (t := 149) dX10_symbol_115 rfl (fun _ => ?_) (fun h => absurd (by decide) h)
              refine w_bipush (v := (-102)) dX10_symbol_149 (by decide) ?_
              exact w_iret dX10_symbol_151 rfl rfl (qn _ (by rw [f_symbol, if_neg (Classical.not_not.mpr ⟨i10a, by omega, by omega, by omega, fun h => by rw [ec]; exact h41⟩), if_pos (fun e => by exact i112 e.1.1 e.1.2)]))
          ·
            refine w_goto (t := 104) dX10_symbol_73 rfl ?_
            refine w_istore dX10_symbol_104 (lb rfl) ?_
            refine w_iload_n dX10_symbol_106 rfl ?_
            refine w_i2l dX10_symbol_107 ?_
            refine w_lconst (v := 0) dX10_symbol_108 (by decide) ?_
            refine w_ldc2 dX10_symbol_109 ct_9_184 ?_
            refine r_stat3 dX10_symbol_112 mt_9_155 (lb rfl) (lb rfl) (lb rfl) (lb rfl) rfl (c10_inI (Int32.toInt_toInt64 _) (b := 0) (by decide) (c := 63) (by decide) (fun i112a i112b => ⟨_, rfl, ?_⟩) (fun i112 => ⟨_, rfl, ?_⟩))
            ·
              refine w_if_eq (t := 149) dX10_symbol_115 rfl (fun h => absurd h (by decide)) (fun _ => ?_)
              refine w_iload dX10_symbol_118 rfl ?_
              refine w_i2l dX10_symbol_120 ?_
              refine w_lconst (v := 0) dX10_symbol_121 (by decide) ?_
              refine w_iload dX10_symbol_122 rfl ?_
              refine w_if_eq (t := 137) dX10_symbol_124 rfl (fun h => absurd h (by decide)) (fun _ => ?_)
              refine w_aload_n dX10_symbol_127 rfl ?_
              refine r_getr  dX10_symbol_128 ft_9_20 R rfl (hS _ _ rfl) rfl (lb rfl) (hM.1 5 (lb rfl) (lb rfl)) ?_
              refine w_iload_n dX10_symbol_131 rfl ?_
              refine r_iald  dX10_symbol_132 R rfl (hS _ _ rfl) rfl rfl (by omega) (lb rfl) (hsec j (by omega)).2.2.1 ?_
              refine w_i2l dX10_symbol_133 ?_
              refine w_goto (t := 138) dX10_symbol_134 rfl ?_
              refine r_stat3 dX10_symbol_138 mt_9_155 (lb rfl) (lb rfl) (lb rfl) (lb rfl) rfl (c10_inI (Int32.toInt_toInt64 _) (b := 0) (by decide) (Int32.toInt_toInt64 _) (fun i138a i138b => ⟨_, rfl, ?_⟩) (fun i138 => ⟨_, rfl, ?_⟩))
              ·
                refine w_if_eq (t := 149) dX10_symbol_141 rfl (fun h => absurd h (by decide)) (fun _ => ?_)
                refine w_iload dX10_symbol_144 rfl ?_
                refine w_if_ne (t := 152) dX10_symbol_146 rfl (fun h => absurd h (by decide)) (fun _ => ?_)
                refine w_bipush (v := (-102)) dX10_symbol_149 (by decide) ?_
                exact w_iret dX10_symbol_151 rfl rfl (qn _ (by rw [f_symbol, if_neg (Classical.not_not.mpr ⟨i10a, by omega, by omega, by omega, fun h => by rw [ec]; exact h41⟩), if_pos (fun e => by rw [if_neg x1, if_neg x2] at e; exact i70 e.2.2.1 e.2.2.2)]))
              ·
                refine w_if_eq (t := 149) dX10_symbol_141 rfl (fun _ => ?_) (fun h => absurd (by decide) h)
                refine w_bipush (v := (-102)) dX10_symbol_149 (by decide) ?_
                exact w_iret dX10_symbol_151 rfl rfl (qn _ (by rw [f_symbol, if_neg (Classical.not_not.mpr ⟨i10a, by omega, by omega, by omega, fun h => by rw [ec]; exact h41⟩), if_pos (fun e => by rw [if_pos x0, ec] at e; exact i138 e.2.1.1 e.2.1.2)]))
            ·
              refine w_if_eq (t := 149) dX10_symbol_115 rfl (fun _ => ?_) (fun h => absurd (by decide) h)
              refine w_bipush (v := (-102)) dX10_symbol_149 (by decide) ?_
              exact w_iret dX10_symbol_151 rfl rfl (qn _ (by rw [f_symbol, if_neg (Classical.not_not.mpr ⟨i10a, by omega, by omega, by omega, fun h => by rw [ec]; exact h41⟩), if_pos (fun e => by exact i112 e.1.1 e.1.2)]))
        ·
          refine w_bipush (v := (-101)) dX10_symbol_44 (by decide) ?_
          exact w_iret dX10_symbol_46 rfl rfl (qn _ (by rw [f_symbol, if_pos (fun e => by exact h41 (by rw [← ec]; exact e.2.2.2.2 x0))]))
  ·
    refine w_if_eq (t := 44) dX10_symbol_13 rfl (fun _ => ?_) (fun h => absurd (by decide) h)
    refine w_bipush (v := (-101)) dX10_symbol_44 (by decide) ?_
    exact w_iret dX10_symbol_46 rfl rfl (qn _ (by rw [f_symbol, if_pos (fun e => by exact i10 e.1 (by omega))]))
theorem c10_symbol_n (R : rx_R b0 O z1 z2 s G) (hS : rx_in s) {τ : tx_T} (hT : MR s τ) (hV : TV τ) {o n i r : Int32} {x : Int32} (hx : x.toInt < 0) (qn : ∀ r9, f_symbol τ o n (x) i r = (r9, none) → Q (.inl (some (.int r9))) G) (qs : ∀ r9 τ', f_symbol τ o n (x) i r = (r9, some τ') → ∀ s' G', rx_R b0 O z1 z2 s' G' → mfr s s' → MR s' τ' → MT s' → Q (.inl (some (.int r9))) G') : mx_W (gt_P b0 mi E) mX10_symbol 0 (mx_en 0 [.ref (rA s 0 0), .int o, .int n, .int (x), .int i, .int r]) [] G Q := by
  obtain ⟨hM, ⟨c1, c2, c13, c14, c20, c26⟩, hsec, hby, hsy, hre, hro, hba⟩ := hT
  have hV0 := hV.1
  have e0 := nI_toInt (n := tN τ 0) (by omega)
  have e1 := nI_toInt (n := tN τ 1) (by omega)
  have e2 := nI_toInt (n := tN τ 2) (by omega)
  have e17 : Int32.toInt (-17) = -17 := by decide
  have em1 : Int32.toInt (-1) = -1 := by decide
  have en3 : (nI 3).toInt = 3 := by decide
  have en2 : (nI 2).toInt = 2 := by decide
  have en4 : (nI 4).toInt = 4 := by decide
  have en0 : (0 : Int32).toInt = 0 := by decide
  have x0 : ¬ 0 ≤ x.toInt := by omega
  refine w_iload_n dX10_symbol_0 rfl ?_
  refine w_i2l dX10_symbol_1 ?_
  refine w_lconst (v := 0) dX10_symbol_2 (by decide) ?_
  refine w_aload_n dX10_symbol_3 rfl ?_
  refine r_geti  dX10_symbol_4 ft_9_149 R rfl (hS _ _ rfl) rfl (lb rfl) c1 ?_
  refine w_iconst (v := 1) dX10_symbol_7 (by decide) ?_
  refine w_isub dX10_symbol_8 ?_
  refine w_i2l dX10_symbol_9 ?_
  refine r_stat3 dX10_symbol_10 mt_9_155 (lb rfl) (lb rfl) (lb rfl) (lb rfl) rfl (c10_inI (Int32.toInt_toInt64 _) (b := 0) (by decide) (t_cnt (by omega)) (fun i10a i10b => ⟨_, rfl, ?_⟩) (fun i10 => ⟨_, rfl, ?_⟩))
  ·
    refine w_if_eq (t := 44) dX10_symbol_13 rfl (fun h => absurd h (by decide)) (fun _ => ?_)
    refine w_iload_n dX10_symbol_16 rfl ?_
    refine w_bipush (v := (-17)) dX10_symbol_17 (by decide) ?_
    refine r_icmp_lti (t := 44) dX10_symbol_19 rfl (fun h19 => ?_) (fun h19 => ?_)
    ·
      refine w_bipush (v := (-101)) dX10_symbol_44 (by decide) ?_
      exact w_iret dX10_symbol_46 rfl rfl (qn _ (by rw [f_symbol, if_pos (fun e => by omega)]))
    ·
      refine w_iload_n dX10_symbol_22 rfl ?_
      refine w_aload_n dX10_symbol_23 rfl ?_
      refine r_geti  dX10_symbol_24 ft_9_165 R rfl (hS _ _ rfl) rfl (lb rfl) c2 ?_
      refine r_icmp_gei (t := 44) dX10_symbol_27 rfl (fun h27 => ?_) (fun h27 => ?_)
      ·
        refine w_bipush (v := (-101)) dX10_symbol_44 (by decide) ?_
        exact w_iret dX10_symbol_46 rfl rfl (qn _ (by rw [f_symbol, if_pos (fun e => by omega)]))
      ·
        refine w_iload_n dX10_symbol_30 rfl ?_
        refine r_if_lti (t := 47) dX10_symbol_31 rfl (fun h31 => ?_) (fun h => by omega)
        refine w_iload_n dX10_symbol_47 rfl ?_
        refine r_if_lti (t := 55) dX10_symbol_48 rfl (fun h48 => ?_) (fun h => by omega)
        refine w_iconst (v := 0) dX10_symbol_55 (by decide) ?_
        refine w_istore dX10_symbol_56 (lb rfl) ?_
        refine w_iload dX10_symbol_58 rfl ?_
        refine w_if_eq (t := 76) dX10_symbol_60 rfl (fun _ => ?_) (fun h => absurd (by decide) h)
        refine w_iload_n dX10_symbol_76 rfl ?_
        refine w_iconst (v := (-1)) dX10_symbol_77 (by decide) ?_
        refine r_icmp_nei (t := 94) dX10_symbol_78 rfl (fun h78 => ?_) (fun h78 => ?_)
        ·
          have x1 : ¬ x.toInt = -1 := by omega
          have x2 : x.toInt < -1 := by omega
          refine w_iload dX10_symbol_94 rfl ?_
          refine r_if_neP (t := 103) dX10_symbol_96 rfl (fun h96 => ?_) (fun h96 => ?_)
          ·
            refine w_iconst (v := 0) dX10_symbol_103 (by decide) ?_
            refine w_istore dX10_symbol_104 (lb rfl) ?_
            refine w_iload_n dX10_symbol_106 rfl ?_
            refine w_i2l dX10_symbol_107 ?_
            refine w_lconst (v := 0) dX10_symbol_108 (by decide) ?_
            refine w_ldc2 dX10_symbol_109 ct_9_184 ?_
            refine r_stat3 dX10_symbol_112 mt_9_155 (lb rfl) (lb rfl) (lb rfl) (lb rfl) rfl (c10_inI (Int32.toInt_toInt64 _) (b := 0) (by decide) (c := 63) (by decide) (fun i112a i112b => ⟨_, rfl, ?_⟩) (fun i112 => ⟨_, rfl, ?_⟩))
            ·
              refine w_if_eq (t := 149) dX10_symbol_115 rfl (fun h => absurd h (by decide)) (fun _ => ?_)
              refine w_iload dX10_symbol_118 rfl ?_
              refine w_i2l dX10_symbol_120 ?_
              refine w_lconst (v := 0) dX10_symbol_121 (by decide) ?_
              refine w_iload dX10_symbol_122 rfl ?_
              refine w_if_eq (t := 137) dX10_symbol_124 rfl (fun _ => ?_) (fun h => absurd (by decide) h)
              refine w_lconst (v := 0) dX10_symbol_137 (by decide) ?_
              refine r_stat3 dX10_symbol_138 mt_9_155 (lb rfl) (lb rfl) (lb rfl) (lb rfl) rfl (c10_inI (Int32.toInt_toInt64 _) (b := 0) (by decide) (c := 0) (by decide) (fun i138a i138b => ⟨_, rfl, ?_⟩) (fun i138 => ⟨_, rfl, ?_⟩))
              ·
                refine w_if_eq (t := 149) dX10_symbol_141 rfl (fun h => absurd h (by decide)) (fun _ => ?_)
                refine w_iload dX10_symbol_144 rfl ?_
                refine w_if_ne (t := 152) dX10_symbol_146 rfl (fun h => absurd h (by decide)) (fun _ => ?_)
                refine w_bipush (v := (-102)) dX10_symbol_149 (by decide) ?_
                exact w_iret dX10_symbol_151 rfl rfl (qn _ (by rw [f_symbol, if_neg (Classical.not_not.mpr ⟨i10a, by omega, by omega, by omega, fun h => absurd h x0⟩), if_pos (fun e => by rw [if_neg x1, if_pos x2] at e; exact h96 (i32e (by have a1 := e.2.2.1; have a2 := e.2.2.2; omega)))]))
              ·
                refine w_if_eq (t := 149) dX10_symbol_141 rfl (fun _ => ?_) (fun h => absurd (by decide) h)
                refine w_bipush (v := (-102)) dX10_symbol_149 (by decide) ?_
                exact w_iret dX10_symbol_151 rfl rfl (qn _ (by rw [f_symbol, if_neg (Classical.not_not.mpr ⟨i10a, by omega, by omega, by omega, fun h => absurd h x0⟩), if_pos (fun e => by rw [if_neg x0] at e; exact i138 e.2.1.1 e.2.1.2)]))
            ·
              refine w_if_eq (t := 149) dX10_symbol_115 rfl (fun _ => ?_) (fun h => absurd (by decide) h)
              refine w_bipush (v := (-102)) dX10_symbol_149 (by decide) ?_
              exact w_iret dX10_symbol_151 rfl rfl (qn _ (by rw [f_symbol, if_neg (Classical.not_not.mpr ⟨i10a, by omega, by omega, by omega, fun h => absurd h x0⟩), if_pos (fun e => by exact i112 e.1.1 e.1.2)]))
          ·
            refine w_iconst (v := 1) dX10_symbol_99 (by decide) ?_
            refine w_goto (t := 104) dX10_symbol_100 rfl ?_
            refine w_istore dX10_symbol_104 (lb rfl) ?_
            refine w_iload_n dX10_symbol_106 rfl ?_
            refine w_i2l dX10_symbol_107 ?_
            refine w_lconst (v := 0) dX10_symbol_108 (by decide) ?_
            refine w_ldc2 dX10_symbol_109 ct_9_184 ?_
            refine r_stat3 dX10_symbol_112 mt_9_155 (lb rfl) (lb rfl) (lb rfl) (lb rfl) rfl (c10_inI (Int32.toInt_toInt64 _) (b := 0) (by decide) (c := 63) (by decide) (fun i112a i112b => ⟨_, rfl, ?_⟩) (fun i112 => ⟨_, rfl, ?_⟩))
            ·
              refine w_if_eq (t := 149) dX10_symbol_115 rfl (fun h => absurd h (by decide)) (fun _ => ?_)
              refine w_iload dX10_symbol_118 rfl ?_
              refine w_i2l dX10_symbol_120 ?_
              refine w_lconst (v := 0) dX10_symbol_121 (by decide) ?_
              refine w_iload dX10_symbol_122 rfl ?_
              refine w_if_eq (t := 137) dX10_symbol_124 rfl (fun _ => ?_) (fun h => absurd (by decide) h)
              refine w_lconst (v := 0) dX10_symbol_137 (by decide) ?_
              refine r_stat3 dX10_symbol_138 mt_9_155 (lb rfl) (lb rfl) (lb rfl) (lb rfl) rfl (c10_inI (Int32.toInt_toInt64 _) (b := 0) (by decide) (c := 0) (by decide) (fun i138a i138b => ⟨_, rfl, ?_⟩) (fun i138 => ⟨_, rfl, ?_⟩))
              ·
                refine w_if_eq (t := 149) dX10_symbol_141 rfl (fun h => absurd h (by decide)) (fun _ => ?_)
                refine w_iload dX10_symbol_144 rfl ?_
                refine w_if_ne (t := 152) dX10_symbol_146 rfl (fun _ => ?_) (fun h => absurd (by decide) h)
                refine w_aload_n dX10_symbol_152 rfl ?_
                refine r_geti  dX10_symbol_153 ft_9_186 R rfl (hS _ _ rfl) rfl (lb rfl) c14 ?_
                refine w_bipush (v := nI 120) dX10_symbol_156 (by decide) ?_
                refine r_icmp_nen (t := 164) dX10_symbol_158 rfl (by omega) (by omega) (fun h158 => ?_) (fun h158 => ?_)
                ·
                  refine w_aload_n dX10_symbol_164 rfl ?_
                  refine r_inv0  dX10_symbol_165 mt_9_152 R rfl (hS _ _ rfl) rfl (lb rfl) (lb rfl) (lb rfl) (lb rfl) rfl (c10_told R hS hM (fun _ Rt => ⟨_, rfl, ?_⟩))
                  refine w_aload_n dX10_symbol_168 rfl ?_
                  refine r_geti  dX10_symbol_169 ft_9_186 Rt rfl (hS _ _ rfl) rfl (lb rfl) c14 ?_
                  refine w_istore dX10_symbol_172 (lb rfl) ?_
                  refine w_aload_n dX10_symbol_174 rfl ?_
                  refine r_getr  dX10_symbol_175 ft_9_43 Rt rfl (hS _ _ rfl) rfl (lb rfl) (hM.1 15 (lb rfl) (lb rfl)) ?_
                  refine w_iload dX10_symbol_178 rfl ?_
                  refine w_iload_n dX10_symbol_180 rfl ?_
                  refine r_iast  dX10_symbol_181 Rt rfl (hS _ _ rfl) rfl rfl (by omega) (lb rfl) (fun G1 R1 => ?_)
                  refine w_aload_n dX10_symbol_182 rfl ?_
                  refine r_getr  dX10_symbol_183 ft_9_46 R1 rfl (hS _ _ rfl) rfl (lb rfl) (hM.1 16 (lb rfl) (lb rfl)) ?_
                  refine w_iload dX10_symbol_186 rfl ?_
                  refine w_iload_n dX10_symbol_188 rfl ?_
                  refine r_iast  dX10_symbol_189 R1 rfl (hS _ _ rfl) rfl rfl (by omega) (lb rfl) (fun G2 R2 => ?_)
                  refine w_aload_n dX10_symbol_190 rfl ?_
                  refine r_getr  dX10_symbol_191 ft_9_49 R2 rfl (hS _ _ rfl) rfl (lb rfl) (hM.1 17 (lb rfl) (lb rfl)) ?_
                  refine w_iload dX10_symbol_194 rfl ?_
                  refine w_iload_n dX10_symbol_196 rfl ?_
                  refine r_iast  dX10_symbol_197 R2 rfl (hS _ _ rfl) rfl rfl (by omega) (lb rfl) (fun G3 R3 => ?_)
                  refine w_aload_n dX10_symbol_198 rfl ?_
                  refine r_getr  dX10_symbol_199 ft_9_52 R3 rfl (hS _ _ rfl) rfl (lb rfl) (hM.1 18 (lb rfl) (lb rfl)) ?_
                  refine w_iload dX10_symbol_202 rfl ?_
                  refine w_iload dX10_symbol_204 rfl ?_
                  refine r_iast  dX10_symbol_206 R3 rfl (hS _ _ rfl) rfl rfl (by omega) (lb rfl) (fun G4 R4 => ?_)
                  refine w_aload_n dX10_symbol_207 rfl ?_
                  refine r_getr  dX10_symbol_208 ft_9_55 R4 rfl (hS _ _ rfl) rfl (lb rfl) (hM.1 19 (lb rfl) (lb rfl)) ?_
                  refine w_iload dX10_symbol_211 rfl ?_
                  refine w_iload dX10_symbol_213 rfl ?_
                  refine r_iast  dX10_symbol_215 R4 rfl (hS _ _ rfl) rfl rfl (by omega) (lb rfl) (fun G5 R5 => ?_)
                  refine w_aload_n dX10_symbol_216 rfl ?_
                  refine w_dup dX10_symbol_217 rfl ?_
                  refine r_geti  dX10_symbol_218 ft_9_186 R5 rfl (hS _ _ rfl) rfl (lb rfl) c14 ?_
                  refine w_iconst (v := 1) dX10_symbol_221 (by decide) ?_
                  refine w_iadd dX10_symbol_222 ?_
                  rw [nI_1]
                  refine r_puti  dX10_symbol_223 ft_9_186 R5 rfl (hS _ _ rfl) rfl (lb rfl) (fun h => by cases h) rfl rfl (fun G6 R6 => ?_)
                  refine w_iload dX10_symbol_226 rfl ?_
                  refine w_iret dX10_symbol_228 rfl rfl ?_
                  refine qs _ _ (by rw [f_symbol, if_neg (Classical.not_not.mpr ⟨i10a, by omega, by omega, by omega, fun h => absurd h x0⟩), if_neg (Classical.not_not.mpr ⟨⟨i112a, i112b⟩, ⟨i138a, by rw [if_neg x0]; exact i138b⟩, ⟨by rw [if_neg x1]; exact (by rw [h96]; decide), by rw [if_pos x2]; exact (by rw [h96]; decide)⟩⟩), if_neg h158]) _ _ R6 (mfr.told s).I.I.I.I.I.X ?_ ⟨rfl, rfl, rfl, rfl⟩
                  exact ⟨rm_X (m_told_F hM) rfl, ⟨c1, c2, c13, rfl, c20, c26⟩, hsec, hby, fun k hk => ⟨wu s.2.2.2.1 τ.2.1 (fun e => (hsy k (by have : k < tN τ 2 + 1 := hk; omega)).1), wu s.2.2.2.1 τ.2.1 (fun e => (hsy k (by have : k < tN τ 2 + 1 := hk; omega)).2.1), wu s.2.2.2.1 τ.2.1 (fun e => (hsy k (by have : k < tN τ 2 + 1 := hk; omega)).2.2.1), wu s.2.2.2.1 τ.2.1 (fun e => (hsy k (by have : k < tN τ 2 + 1 := hk; omega)).2.2.2.1), wu s.2.2.2.1 τ.2.1 (fun e => (hsy k (by have : k < tN τ 2 + 1 := hk; omega)).2.2.2.2)⟩, hre, hro, hba⟩
                ·
                  refine w_bipush (v := (-104)) dX10_symbol_161 (by decide) ?_
                  exact w_iret dX10_symbol_163 rfl rfl (qn _ (by rw [f_symbol, if_neg (Classical.not_not.mpr ⟨i10a, by omega, by omega, by omega, fun h => absurd h x0⟩), if_neg (Classical.not_not.mpr ⟨⟨i112a, i112b⟩, ⟨i138a, by rw [if_neg x0]; exact i138b⟩, ⟨by rw [if_neg x1]; exact (by rw [h96]; decide), by rw [if_pos x2]; exact (by rw [h96]; decide)⟩⟩), if_pos h158]))
              ·
                refine w_if_eq (t := 149) dX10_symbol_141 rfl (fun _ => ?_) (fun h => absurd (by decide) h)
                refine w_bipush (v := (-102)) dX10_symbol_149 (by decide) ?_
                exact w_iret dX10_symbol_151 rfl rfl (qn _ (by rw [f_symbol, if_neg (Classical.not_not.mpr ⟨i10a, by omega, by omega, by omega, fun h => absurd h x0⟩), if_pos (fun e => by rw [if_neg x0] at e; exact i138 e.2.1.1 e.2.1.2)]))
            ·
              refine w_if_eq (t := 149) dX10_symbol_115 rfl (fun _ => ?_) (fun h => absurd (by decide) h)
              refine w_bipush (v := (-102)) dX10_symbol_149 (by decide) ?_
              exact w_iret dX10_symbol_151 rfl rfl (qn _ (by rw [f_symbol, if_neg (Classical.not_not.mpr ⟨i10a, by omega, by omega, by omega, fun h => absurd h x0⟩), if_pos (fun e => by exact i112 e.1.1 e.1.2)]))
        ·
          have x1 : x.toInt = -1 := by omega
          have x2 : ¬ x.toInt < -1 := by omega
          refine w_iload dX10_symbol_81 rfl ?_
          refine w_i2l dX10_symbol_83 ?_
          refine w_lconst (v := 1) dX10_symbol_84 (by decide) ?_
          refine w_ldc2 dX10_symbol_85 ct_9_178 ?_
          refine r_stat3 dX10_symbol_88 mt_9_155 (lb rfl) (lb rfl) (lb rfl) (lb rfl) rfl (c10_inI (Int32.toInt_toInt64 _) (b := 1) (by decide) (c := 2) (by decide) (fun i88a i88b => ⟨_, rfl, ?_⟩) (fun i88 => ⟨_, rfl, ?_⟩))
          ·
            refine w_goto (t := 104) dX10_symbol_91 rfl ?_
            refine w_istore dX10_symbol_104 (lb rfl) ?_
            refine w_iload_n dX10_symbol_106 rfl ?_
            refine w_i2l dX10_symbol_107 ?_
            refine w_lconst (v := 0) dX10_symbol_108 (by decide) ?_
            refine w_ldc2 dX10_symbol_109 ct_9_184 ?_
            refine r_stat3 dX10_symbol_112 mt_9_155 (lb rfl) (lb rfl) (lb rfl) (lb rfl) rfl (c10_inI (Int32.toInt_toInt64 _) (b := 0) (by decide) (c := 63) (by decide) (fun i112a i112b => ⟨_, rfl, ?_⟩) (fun i112 => ⟨_, rfl, ?_⟩))
            ·
              refine w_if_eq (t := 149) dX10_symbol_115 rfl (fun h => absurd h (by decide)) (fun _ => ?_)
              refine w_iload dX10_symbol_118 rfl ?_
              refine w_i2l dX10_symbol_120 ?_
              refine w_lconst (v := 0) dX10_symbol_121 (by decide) ?_
              refine w_iload dX10_symbol_122 rfl ?_
              refine w_if_eq (t := 137) dX10_symbol_124 rfl (fun _ => ?_) (fun h => absurd (by decide) h)
              refine w_lconst (v := 0) dX10_symbol_137 (by decide) ?_
              refine r_stat3 dX10_symbol_138 mt_9_155 (lb rfl) (lb rfl) (lb rfl) (lb rfl) rfl (c10_inI (Int32.toInt_toInt64 _) (b := 0) (by decide) (c := 0) (by decide) (fun i138a i138b => ⟨_, rfl, ?_⟩) (fun i138 => ⟨_, rfl, ?_⟩))
              ·
                refine w_if_eq (t := 149) dX10_symbol_141 rfl (fun h => absurd h (by decide)) (fun _ => ?_)
                refine w_iload dX10_symbol_144 rfl ?_
                refine w_if_ne (t := 152) dX10_symbol_146 rfl (fun _ => ?_) (fun h => absurd (by decide) h)
                refine w_aload_n dX10_symbol_152 rfl ?_
                refine r_geti  dX10_symbol_153 ft_9_186 R rfl (hS _ _ rfl) rfl (lb rfl) c14 ?_
                refine w_bipush (v := nI 120) dX10_symbol_156 (by decide) ?_
                refine r_icmp_nen (t := 164) dX10_symbol_158 rfl (by omega) (by omega) (fun h158 => ?_) (fun h158 => ?_)
                ·
                  refine w_aload_n dX10_symbol_164 rfl ?_
                  refine r_inv0  dX10_symbol_165 mt_9_152 R rfl (hS _ _ rfl) rfl (lb rfl) (lb rfl) (lb rfl) (lb rfl) rfl (c10_told R hS hM (fun _ Rt => ⟨_, rfl, ?_⟩))
                  refine w_aload_n dX10_symbol_168 rfl ?_
                  refine r_geti  dX10_symbol_169 ft_9_186 Rt rfl (hS _ _ rfl) rfl (lb rfl) c14 ?_
                  refine w_istore dX10_symbol_172 (lb rfl) ?_
                  refine w_aload_n dX10_symbol_174 rfl ?_
                  refine r_getr  dX10_symbol_175 ft_9_43 Rt rfl (hS _ _ rfl) rfl (lb rfl) (hM.1 15 (lb rfl) (lb rfl)) ?_
                  refine w_iload dX10_symbol_178 rfl ?_
                  refine w_iload_n dX10_symbol_180 rfl ?_
                  refine r_iast  dX10_symbol_181 Rt rfl (hS _ _ rfl) rfl rfl (by omega) (lb rfl) (fun G7 R7 => ?_)
                  refine w_aload_n dX10_symbol_182 rfl ?_
                  refine r_getr  dX10_symbol_183 ft_9_46 R7 rfl (hS _ _ rfl) rfl (lb rfl) (hM.1 16 (lb rfl) (lb rfl)) ?_
                  refine w_iload dX10_symbol_186 rfl ?_
                  refine w_iload_n dX10_symbol_188 rfl ?_
                  refine r_iast  dX10_symbol_189 R7 rfl (hS _ _ rfl) rfl rfl (by omega) (lb rfl) (fun G8 R8 => ?_)
                  refine w_aload_n dX10_symbol_190 rfl ?_
                  refine r_getr  dX10_symbol_191 ft_9_49 R8 rfl (hS _ _ rfl) rfl (lb rfl) (hM.1 17 (lb rfl) (lb rfl)) ?_
                  refine w_iload dX10_symbol_194 rfl ?_
                  refine w_iload_n dX10_symbol_196 rfl ?_
                  refine r_iast  dX10_symbol_197 R8 rfl (hS _ _ rfl) rfl rfl (by omega) (lb rfl) (fun G9 R9 => ?_)
                  refine w_aload_n dX10_symbol_198 rfl ?_
                  refine r_getr  dX10_symbol_199 ft_9_52 R9 rfl (hS _ _ rfl) rfl (lb rfl) (hM.1 18 (lb rfl) (lb rfl)) ?_
                  refine w_iload dX10_symbol_202 rfl ?_
                  refine w_iload dX10_symbol_204 rfl ?_
                  refine r_iast  dX10_symbol_206 R9 rfl (hS _ _ rfl) rfl rfl (by omega) (lb rfl) (fun G10 R10 => ?_)
                  refine w_aload_n dX10_symbol_207 rfl ?_
                  refine r_getr  dX10_symbol_208 ft_9_55 R10 rfl (hS _ _ rfl) rfl (lb rfl) (hM.1 19 (lb rfl) (lb rfl)) ?_
                  refine w_iload dX10_symbol_211 rfl ?_
                  refine w_iload dX10_symbol_213 rfl ?_
                  refine r_iast  dX10_symbol_215 R10 rfl (hS _ _ rfl) rfl rfl (by omega) (lb rfl) (fun G11 R11 => ?_)
                  refine w_aload_n dX10_symbol_216 rfl ?_
                  refine w_dup dX10_symbol_217 rfl ?_
                  refine r_geti  dX10_symbol_218 ft_9_186 R11 rfl (hS _ _ rfl) rfl (lb rfl) c14 ?_
                  refine w_iconst (v := 1) dX10_symbol_221 (by decide) ?_
                  refine w_iadd dX10_symbol_222 ?_
                  rw [nI_1]
                  refine r_puti  dX10_symbol_223 ft_9_186 R11 rfl (hS _ _ rfl) rfl (lb rfl) (fun h => by cases h) rfl rfl (fun G12 R12 => ?_)
                  refine w_iload dX10_symbol_226 rfl ?_
                  refine w_iret dX10_symbol_228 rfl rfl ?_
                  refine qs _ _ (by rw [f_symbol, if_neg (Classical.not_not.mpr ⟨i10a, by omega, by omega, by omega, fun h => absurd h x0⟩), if_neg (Classical.not_not.mpr ⟨⟨i112a, i112b⟩, ⟨i138a, by rw [if_neg x0]; exact i138b⟩, ⟨by rw [if_pos x1]; exact i88a, by rw [if_neg x2]; exact i88b⟩⟩), if_neg h158]) _ _ R12 (mfr.told s).I.I.I.I.I.X ?_ ⟨rfl, rfl, rfl, rfl⟩
                  exact ⟨rm_X (m_told_F hM) rfl, ⟨c1, c2, c13, rfl, c20, c26⟩, hsec, hby, fun k hk => ⟨wu s.2.2.2.1 τ.2.1 (fun e => (hsy k (by have : k < tN τ 2 + 1 := hk; omega)).1), wu s.2.2.2.1 τ.2.1 (fun e => (hsy k (by have : k < tN τ 2 + 1 := hk; omega)).2.1), wu s.2.2.2.1 τ.2.1 (fun e => (hsy k (by have : k < tN τ 2 + 1 := hk; omega)).2.2.1), wu s.2.2.2.1 τ.2.1 (fun e => (hsy k (by have : k < tN τ 2 + 1 := hk; omega)).2.2.2.1), wu s.2.2.2.1 τ.2.1 (fun e => (hsy k (by have : k < tN τ 2 + 1 := hk; omega)).2.2.2.2)⟩, hre, hro, hba⟩
                ·
                  refine w_bipush (v := (-104)) dX10_symbol_161 (by decide) ?_
                  exact w_iret dX10_symbol_163 rfl rfl (qn _ (by rw [f_symbol, if_neg (Classical.not_not.mpr ⟨i10a, by omega, by omega, by omega, fun h => absurd h x0⟩), if_neg (Classical.not_not.mpr ⟨⟨i112a, i112b⟩, ⟨i138a, by rw [if_neg x0]; exact i138b⟩, ⟨by rw [if_pos x1]; exact i88a, by rw [if_neg x2]; exact i88b⟩⟩), if_pos h158]))
              ·
                refine w_if_eq (t := 149) dX10_symbol_141 rfl (fun _ => ?_) (fun h => absurd (by decide) h)
                refine w_bipush (v := (-102)) dX10_symbol_149 (by decide) ?_
                exact w_iret dX10_symbol_151 rfl rfl (qn _ (by rw [f_symbol, if_neg (Classical.not_not.mpr ⟨i10a, by omega, by omega, by omega, fun h => absurd h x0⟩), if_pos (fun e => by rw [if_neg x0] at e; exact i138 e.2.1.1 e.2.1.2)]))
            ·
              refine w_if_eq (t := 149) dX10_symbol_115 rfl (fun _ => ?_) (fun h => absurd (by decide) h)
              refine w_bipush (v := (-102)) dX10_symbol_149 (by decide) ?_
              exact w_iret dX10_symbol_151 rfl rfl (qn _ (by rw [f_symbol, if_neg (Classical.not_not.mpr ⟨i10a, by omega, by omega, by omega, fun h => absurd h x0⟩), if_pos (fun e => by exact i112 e.1.1 e.1.2)]))
          ·
            refine w_goto (t := 104) dX10_symbol_91 rfl ?_
            refine w_istore dX10_symbol_104 (lb rfl) ?_
            refine w_iload_n dX10_symbol_106 rfl ?_
            refine w_i2l dX10_symbol_107 ?_
            refine w_lconst (v := 0) dX10_symbol_108 (by decide) ?_
            refine w_ldc2 dX10_symbol_109 ct_9_184 ?_
            refine r_stat3 dX10_symbol_112 mt_9_155 (lb rfl) (lb rfl) (lb rfl) (lb rfl) rfl (c10_inI (Int32.toInt_toInt64 _) (b := 0) (by decide) (c := 63) (by decide) (fun i112a i112b => ⟨_, rfl, ?_⟩) (fun i112 => ⟨_, rfl, ?_⟩))
            ·
              refine w_if_eq (t := 149) dX10_symbol_115 rfl (fun h => absurd h (by decide)) (fun _ => ?_)
              refine w_iload dX10_symbol_118 rfl ?_
              refine w_i2l dX10_symbol_120 ?_
              refine w_lconst (v := 0) dX10_symbol_121 (by decide) ?_
              refine w_iload dX10_symbol_122 rfl ?_
              refine w_if_eq (t := 137) dX10_symbol_124 rfl (fun _ => ?_) (fun h => absurd (by decide) h)
              refine w_lconst (v := 0) dX10_symbol_137 (by decide) ?_
              refine r_stat3 dX10_symbol_138 mt_9_155 (lb rfl) (lb rfl) (lb rfl) (lb rfl) rfl (c10_inI (Int32.toInt_toInt64 _) (b := 0) (by decide) (c := 0) (by decide) (fun i138a i138b => ⟨_, rfl, ?_⟩) (fun i138 => ⟨_, rfl, ?_⟩))
              ·
                refine w_if_eq (t := 149) dX10_symbol_141 rfl (fun h => absurd h (by decide)) (fun _ => ?_)
                refine w_iload dX10_symbol_144 rfl ?_
                refine w_if_ne (t := 152) dX10_symbol_146 rfl (fun h => absurd h (by decide)) (fun _ => ?_)
                refine w_bipush (v := (-102)) dX10_symbol_149 (by decide) ?_
                exact w_iret dX10_symbol_151 rfl rfl (qn _ (by rw [f_symbol, if_neg (Classical.not_not.mpr ⟨i10a, by omega, by omega, by omega, fun h => absurd h x0⟩), if_pos (fun e => by rw [if_pos x1, if_neg x2] at e; exact i88 e.2.2.1 e.2.2.2)]))
              ·
                refine w_if_eq (t := 149) dX10_symbol_141 rfl (fun _ => ?_) (fun h => absurd (by decide) h)
                refine w_bipush (v := (-102)) dX10_symbol_149 (by decide) ?_
                exact w_iret dX10_symbol_151 rfl rfl (qn _ (by rw [f_symbol, if_neg (Classical.not_not.mpr ⟨i10a, by omega, by omega, by omega, fun h => absurd h x0⟩), if_pos (fun e => by rw [if_neg x0] at e; exact i138 e.2.1.1 e.2.1.2)]))
            ·
              refine w_if_eq (t := 149) dX10_symbol_115 rfl (fun _ => ?_) (fun h => absurd (by decide) h)
              refine w_bipush (v := (-102)) dX10_symbol_149 (by decide) ?_
              exact w_iret dX10_symbol_151 rfl rfl (qn _ (by rw [f_symbol, if_neg (Classical.not_not.mpr ⟨i10a, by omega, by omega, by omega, fun h => absurd h x0⟩), if_pos (fun e => by exact i112 e.1.1 e.1.2)]))
  ·
    refine w_if_eq (t := 44) dX10_symbol_13 rfl (fun _ => ?_) (fun h => absurd (by decide) h)
    refine w_bipush (v := (-101)) dX10_symbol_44 (by decide) ?_
    exact w_iret dX10_symbol_46 rfl rfl (qn _ (by rw [f_symbol, if_pos (fun e => by exact i10 e.1 (by omega))]))
theorem c10_symbol (R : rx_R b0 O z1 z2 s G) (hS : rx_in s) {τ : tx_T} (hT : MR s τ) (hV : TV τ) {o n x i r : Int32} (qn : ∀ r9, f_symbol τ o n x i r = (r9, none) → Q (.inl (some (.int r9))) G) (qs : ∀ r9 τ', f_symbol τ o n x i r = (r9, some τ') → ∀ s' G', rx_R b0 O z1 z2 s' G' → mfr s s' → MR s' τ' → MT s' → Q (.inl (some (.int r9))) G') : mx_W (gt_P b0 mi E) mX10_symbol 0 (mx_en 0 [.ref (rA s 0 0), .int o, .int n, .int x, .int i, .int r]) [] G Q := by
  by_cases h : 0 ≤ x.toInt
  · obtain ⟨j, hj, rfl⟩ := nI_ofI h
    exact c10_symbol_p R hS hT hV hj qn qs
  · exact c10_symbol_n R hS hT hV (by omega) qn qs
theorem c10_wide {t : Int32} (q : ∀ w : Int32, w.toInt = t_wide t → 0 ≤ w.toInt → w.toInt ≤ 4 → Q (.inl (some (.int w))) G) : mx_W (gt_P b0 mi E) mX10_wide 0 (mx_en 0 [.int t]) [] G Q := by
  refine w_iload_n dX10_wide_0 rfl ?_
  refine w_if_eq (t := 9) dX10_wide_1 rfl (fun h1 => ?_) (fun h1 => ?_)
  ·
    refine w_iconst (v := nI 4) dX10_wide_9 (by decide) ?_
    refine w_goto (t := 23) dX10_wide_10 rfl ?_
    exact w_iret dX10_wide_23 rfl rfl (q _ (by rw [t_wide, if_pos (Or.inl h1)]; decide) (by decide) (by decide))
  ·
    refine w_iload_n dX10_wide_4 rfl ?_
    refine w_iconst (v := 2) dX10_wide_5 (by decide) ?_
    refine r_icmp_neP (t := 13) dX10_wide_6 rfl (fun h6 => ?_) (fun h6 => ?_)
    ·
      refine w_iload_n dX10_wide_13 rfl ?_
      refine w_iconst (v := 4) dX10_wide_14 (by decide) ?_
      refine r_icmp_neP (t := 22) dX10_wide_15 rfl (fun h15 => ?_) (fun h15 => ?_)
      ·
        refine w_iconst (v := nI 2) dX10_wide_22 (by decide) ?_
        exact w_iret dX10_wide_23 rfl rfl (q _ (by rw [t_wide, if_neg (fun e => e.elim h1 h6), if_neg h15]; decide) (by decide) (by decide))
      ·
        refine w_iconst (v := 1) dX10_wide_18 (by decide) ?_
        refine w_goto (t := 23) dX10_wide_19 rfl ?_
        exact w_iret dX10_wide_23 rfl rfl (q _ (by rw [t_wide, if_neg (fun e => e.elim h1 h6), if_pos h15]; decide) (by decide) (by decide))
    ·
      refine w_iconst (v := nI 4) dX10_wide_9 (by decide) ?_
      refine w_goto (t := 23) dX10_wide_10 rfl ?_
      exact w_iret dX10_wide_23 rfl rfl (q _ (by rw [t_wide, if_pos (Or.inr h6)]; decide) (by decide) (by decide))
theorem c10_relocation (R : rx_R b0 O z1 z2 s G) (hS : rx_in s) {τ : tx_T} (hT : MR s τ) (hV : TV τ) {x i t y a : Int32} (qn : ∀ r9, f_relocation τ x i t y a = (r9, none) → Q (.inl (some (.int r9))) G) (qs : ∀ r9 τ', f_relocation τ x i t y a = (r9, some τ') → ∀ s' G', rx_R b0 O z1 z2 s' G' → mfr s s' → MR s' τ' → MT s' → Q (.inl (some (.int r9))) G') : mx_W (gt_P b0 mi E) mX10_relocation 0 (mx_en 0 [.ref (rA s 0 0), .int x, .int i, .int t, .int y, .int a]) [] G Q := by
  have hT0 := hT
  obtain ⟨hM, ⟨c1, c2, c13, c14, c20, c26⟩, hsec, hby, hsy, hre, hro, hba⟩ := hT
  have hV0 := hV.1
  have e0 := nI_toInt (n := tN τ 0) (by omega)
  have e1 := nI_toInt (n := tN τ 1) (by omega)
  have e2 := nI_toInt (n := tN τ 2) (by omega)
  have e17 : Int32.toInt (-17) = -17 := by decide
  have em1 : Int32.toInt (-1) = -1 := by decide
  have en3 : (nI 3).toInt = 3 := by decide
  have en2 : (nI 2).toInt = 2 := by decide
  have en4 : (nI 4).toInt = 4 := by decide
  have en0 : (0 : Int32).toInt = 0 := by decide
  refine w_aload_n dX10_relocation_0 rfl ?_
  refine w_iload_n dX10_relocation_1 rfl ?_
  refine r_inv1  dX10_relocation_2 mt_9_174 R rfl (hS _ _ rfl) rfl (lb rfl) (lb rfl) (lb rfl) (lb rfl) rfl (c10_hasBytes R hS hT0 hV (fun b1 b2 b3 => ⟨_, rfl, ?_⟩) (fun b0 => ⟨_, rfl, ?_⟩))
  ·
    refine w_if_eq (t := 41) dX10_relocation_5 rfl (fun h => absurd h (by decide)) (fun _ => ?_)
    obtain ⟨j, hj, rfl⟩ := nI_ofI b1
    rw [nI_toInt hj] at b1 b2
    rw [clN hj] at b3
    have hjn : j < tN τ 1 := by omega
    have hz := (hV.2.1 j hjn).2.2.1
    refine w_iload dX10_relocation_8 rfl ?_
    refine w_i2l dX10_relocation_10 ?_
    refine w_lconst (v := 0) dX10_relocation_11 (by decide) ?_
    refine w_aload_n dX10_relocation_12 rfl ?_
    refine r_geti  dX10_relocation_13 ft_9_186 R rfl (hS _ _ rfl) rfl (lb rfl) c14 ?_
    refine w_iconst (v := 1) dX10_relocation_16 (by decide) ?_
    refine w_isub dX10_relocation_17 ?_
    refine w_i2l dX10_relocation_18 ?_
    refine r_stat3 dX10_relocation_19 mt_9_155 (lb rfl) (lb rfl) (lb rfl) (lb rfl) rfl (c10_inI (Int32.toInt_toInt64 _) (b := 0) (by decide) (t_cnt (by omega)) (fun i19a i19b => ⟨_, rfl, ?_⟩) (fun i19 => ⟨_, rfl, ?_⟩))
    ·
      refine w_if_eq (t := 41) dX10_relocation_22 rfl (fun h => absurd h (by decide)) (fun _ => ?_)
      obtain ⟨m, hm, rfl⟩ := nI_ofI i19a
      rw [nI_toInt hm] at i19a i19b
      have hmn : m < tN τ 2 := by omega
      refine w_aload_n dX10_relocation_25 rfl ?_
      refine r_getr  dX10_relocation_26 ft_9_43 R rfl (hS _ _ rfl) rfl (lb rfl) (hM.1 15 (lb rfl) (lb rfl)) ?_
      refine w_iload dX10_relocation_29 rfl ?_
      refine r_iald  dX10_relocation_31 R rfl (hS _ _ rfl) rfl rfl (by omega) (lb rfl) (hsy m hmn).1 ?_
      refine w_aload_n dX10_relocation_32 rfl ?_
      refine r_getr  dX10_relocation_33 ft_9_13 R rfl (hS _ _ rfl) rfl (lb rfl) (hM.1 3 (lb rfl) (lb rfl)) ?_
      refine w_iload_n dX10_relocation_36 rfl ?_
      refine r_iald  dX10_relocation_37 R rfl (hS _ _ rfl) rfl rfl (by omega) (lb rfl) (hsec j hjn).1 ?_
      refine w_icmp_eq (t := 44) dX10_relocation_38 rfl (fun h38 => ?_) (fun h38 => ?_)
      ·
        refine w_iload_n dX10_relocation_44 rfl ?_
        refine w_i2l dX10_relocation_45 ?_
        refine w_lconst (v := 0) dX10_relocation_46 (by decide) ?_
        refine w_ldc2 dX10_relocation_47 ct_9_189 ?_
        refine r_stat3 dX10_relocation_50 mt_9_155 (lb rfl) (lb rfl) (lb rfl) (lb rfl) rfl (c10_inI (Int32.toInt_toInt64 _) (b := 0) (by decide) (c := 4) (by decide) (fun i50a i50b => ⟨_, rfl, ?_⟩) (fun i50 => ⟨_, rfl, ?_⟩))
        ·
          refine w_if_eq (t := 91) dX10_relocation_53 rfl (fun h => absurd h (by decide)) (fun _ => ?_)
          refine w_iload_n dX10_relocation_56 rfl ?_
          refine w_i2l dX10_relocation_57 ?_
          refine w_lconst (v := 0) dX10_relocation_58 (by decide) ?_
          refine w_aload_n dX10_relocation_59 rfl ?_
          refine r_getr  dX10_relocation_60 ft_9_20 R rfl (hS _ _ rfl) rfl (lb rfl) (hM.1 5 (lb rfl) (lb rfl)) ?_
          refine w_iload_n dX10_relocation_63 rfl ?_
          refine r_iald  dX10_relocation_64 R rfl (hS _ _ rfl) rfl rfl (by omega) (lb rfl) (hsec j hjn).2.2.1 ?_
          refine w_iload_n dX10_relocation_65 rfl ?_
          refine r_stat1 dX10_relocation_66 mt_9_191 (lb rfl) (lb rfl) (lb rfl) (lb rfl) rfl (c10_wide (fun w w1 w2 w3 => ⟨_, rfl, ?_⟩))
          refine w_isub dX10_relocation_69 ?_
          refine w_i2l dX10_relocation_70 ?_
          refine r_stat3 dX10_relocation_71 mt_9_155 (lb rfl) (lb rfl) (lb rfl) (lb rfl) rfl (c10_inI (Int32.toInt_toInt64 _) (b := 0) (by decide) ((Int32.toInt_toInt64 _).trans ((t_sub hz.1 w2).trans (by rw [w1]))) (fun i71a i71b => ⟨_, rfl, ?_⟩) (fun i71 => ⟨_, rfl, ?_⟩))
          ·
            refine w_if_eq (t := 91) dX10_relocation_74 rfl (fun h => absurd h (by decide)) (fun _ => ?_)
            refine w_iload_n dX10_relocation_77 rfl ?_
            refine w_iconst (v := 3) dX10_relocation_78 (by decide) ?_
            refine r_icmp_neP (t := 94) dX10_relocation_79 rfl (fun h79 => ?_) (fun h79 => ?_)
            ·
              refine w_aload_n dX10_relocation_94 rfl ?_
              refine r_geti  dX10_relocation_95 ft_9_195 R rfl (hS _ _ rfl) rfl (lb rfl) c20 ?_
              refine w_sipush (v := nI 200) dX10_relocation_98 (by decide) ?_
              refine r_icmp_nen (t := 107) dX10_relocation_101 rfl (by omega) (by omega) (fun h101 => ?_) (fun h101 => ?_)
              ·
                refine w_aload_n dX10_relocation_107 rfl ?_
                refine r_inv0  dX10_relocation_108 mt_9_152 R rfl (hS _ _ rfl) rfl (lb rfl) (lb rfl) (lb rfl) (lb rfl) rfl (c10_told R hS hM (fun _ Rt => ⟨_, rfl, ?_⟩))
                refine w_aload_n dX10_relocation_111 rfl ?_
                refine r_geti  dX10_relocation_112 ft_9_195 Rt rfl (hS _ _ rfl) rfl (lb rfl) c20 ?_
                refine w_istore dX10_relocation_115 (lb rfl) ?_
                refine w_aload_n dX10_relocation_117 rfl ?_
                refine r_getr  dX10_relocation_118 ft_9_58 Rt rfl (hS _ _ rfl) rfl (lb rfl) (hM.1 21 (lb rfl) (lb rfl)) ?_
                refine w_iload dX10_relocation_121 rfl ?_
                refine w_iload_n dX10_relocation_123 rfl ?_
                refine r_iast  dX10_relocation_124 Rt rfl (hS _ _ rfl) rfl rfl (by omega) (lb rfl) (fun G1 R1 => ?_)
                refine w_aload_n dX10_relocation_125 rfl ?_
                refine r_getr  dX10_relocation_126 ft_9_61 R1 rfl (hS _ _ rfl) rfl (lb rfl) (hM.1 22 (lb rfl) (lb rfl)) ?_
                refine w_iload dX10_relocation_129 rfl ?_
                refine w_iload_n dX10_relocation_131 rfl ?_
                refine r_iast  dX10_relocation_132 R1 rfl (hS _ _ rfl) rfl rfl (by omega) (lb rfl) (fun G2 R2 => ?_)
                refine w_aload_n dX10_relocation_133 rfl ?_
                refine r_getr  dX10_relocation_134 ft_9_64 R2 rfl (hS _ _ rfl) rfl (lb rfl) (hM.1 23 (lb rfl) (lb rfl)) ?_
                refine w_iload dX10_relocation_137 rfl ?_
                refine w_iload_n dX10_relocation_139 rfl ?_
                refine r_iast  dX10_relocation_140 R2 rfl (hS _ _ rfl) rfl rfl (by omega) (lb rfl) (fun G3 R3 => ?_)
                refine w_aload_n dX10_relocation_141 rfl ?_
                refine r_getr  dX10_relocation_142 ft_9_67 R3 rfl (hS _ _ rfl) rfl (lb rfl) (hM.1 24 (lb rfl) (lb rfl)) ?_
                refine w_iload dX10_relocation_145 rfl ?_
                refine w_iload dX10_relocation_147 rfl ?_
                refine r_iast  dX10_relocation_149 R3 rfl (hS _ _ rfl) rfl rfl (by omega) (lb rfl) (fun G4 R4 => ?_)
                refine w_aload_n dX10_relocation_150 rfl ?_
                refine r_getr  dX10_relocation_151 ft_9_70 R4 rfl (hS _ _ rfl) rfl (lb rfl) (hM.1 25 (lb rfl) (lb rfl)) ?_
                refine w_iload dX10_relocation_154 rfl ?_
                refine w_iload dX10_relocation_156 rfl ?_
                refine r_iast  dX10_relocation_158 R4 rfl (hS _ _ rfl) rfl rfl (by omega) (lb rfl) (fun G5 R5 => ?_)
                refine w_aload_n dX10_relocation_159 rfl ?_
                refine w_dup dX10_relocation_160 rfl ?_
                refine r_geti  dX10_relocation_161 ft_9_195 R5 rfl (hS _ _ rfl) rfl (lb rfl) c20 ?_
                refine w_iconst (v := 1) dX10_relocation_164 (by decide) ?_
                refine w_iadd dX10_relocation_165 ?_
                rw [nI_1]
                refine r_puti  dX10_relocation_166 ft_9_195 R5 rfl (hS _ _ rfl) rfl (lb rfl) (fun h => by cases h) rfl rfl (fun G6 R6 => ?_)
                refine w_iload dX10_relocation_169 rfl ?_
                refine w_iret dX10_relocation_171 rfl rfl ?_
                refine qs _ _ (by rw [f_relocation, if_neg (Classical.not_not.mpr ⟨⟨by rw [nI_toInt hj]; omega, by rw [nI_toInt hj]; omega, by rw [clN hj]; exact b3⟩, ⟨by rw [nI_toInt hm]; omega, by rw [nI_toInt hm]; omega⟩, by rw [clN hj, clN hm]; exact h38⟩), if_neg (Classical.not_not.mpr ⟨⟨by omega, by omega⟩, ⟨by omega, by rw [clN hj]; omega⟩, fun e => by rw [clN hj]; exact absurd e h79⟩), if_neg h101]) _ _ R6 (mfr.told s).I.I.I.I.I.X ?_ ⟨rfl, rfl, rfl, rfl⟩
                exact ⟨rm_X (m_told_F hM) rfl, ⟨c1, c2, c13, c14, rfl, c26⟩, hsec, hby, hsy, fun k hk => ⟨wu s.2.2.2.1 τ.2.1 (fun e => (hre k (by have : k < tN τ 3 + 1 := hk; omega)).1), wu s.2.2.2.1 τ.2.1 (fun e => (hre k (by have : k < tN τ 3 + 1 := hk; omega)).2.1), wu s.2.2.2.1 τ.2.1 (fun e => (hre k (by have : k < tN τ 3 + 1 := hk; omega)).2.2.1), wu s.2.2.2.1 τ.2.1 (fun e => (hre k (by have : k < tN τ 3 + 1 := hk; omega)).2.2.2.1), wu s.2.2.2.1 τ.2.1 (fun e => (hre k (by have : k < tN τ 3 + 1 := hk; omega)).2.2.2.2)⟩, hro, hba⟩
              ·
                refine w_bipush (v := (-104)) dX10_relocation_104 (by decide) ?_
                exact w_iret dX10_relocation_106 rfl rfl (qn _ (by rw [f_relocation, if_neg (Classical.not_not.mpr ⟨⟨by rw [nI_toInt hj]; omega, by rw [nI_toInt hj]; omega, by rw [clN hj]; exact b3⟩, ⟨by rw [nI_toInt hm]; omega, by rw [nI_toInt hm]; omega⟩, by rw [clN hj, clN hm]; exact h38⟩), if_neg (Classical.not_not.mpr ⟨⟨by omega, by omega⟩, ⟨by omega, by rw [clN hj]; omega⟩, fun e => by rw [clN hj]; exact absurd e h79⟩), if_pos h101]))
            ·
              refine w_aload_n dX10_relocation_82 rfl ?_
              refine r_getr  dX10_relocation_83 ft_9_17 R rfl (hS _ _ rfl) rfl (lb rfl) (hM.1 4 (lb rfl) (lb rfl)) ?_
              refine w_iload_n dX10_relocation_86 rfl ?_
              refine r_iald  dX10_relocation_87 R rfl (hS _ _ rfl) rfl rfl (by omega) (lb rfl) (hsec j hjn).2.1 ?_
              refine w_if_eq (t := 94) dX10_relocation_88 rfl (fun h88 => ?_) (fun h88 => ?_)
              ·
                refine w_aload_n dX10_relocation_94 rfl ?_
                refine r_geti  dX10_relocation_95 ft_9_195 R rfl (hS _ _ rfl) rfl (lb rfl) c20 ?_
                refine w_sipush (v := nI 200) dX10_relocation_98 (by decide) ?_
                refine r_icmp_nen (t := 107) dX10_relocation_101 rfl (by omega) (by omega) (fun h101 => ?_) (fun h101 => ?_)
                ·
                  refine w_aload_n dX10_relocation_107 rfl ?_
                  refine r_inv0  dX10_relocation_108 mt_9_152 R rfl (hS _ _ rfl) rfl (lb rfl) (lb rfl) (lb rfl) (lb rfl) rfl (c10_told R hS hM (fun _ Rt => ⟨_, rfl, ?_⟩))
                  refine w_aload_n dX10_relocation_111 rfl ?_
                  refine r_geti  dX10_relocation_112 ft_9_195 Rt rfl (hS _ _ rfl) rfl (lb rfl) c20 ?_
                  refine w_istore dX10_relocation_115 (lb rfl) ?_
                  refine w_aload_n dX10_relocation_117 rfl ?_
                  refine r_getr  dX10_relocation_118 ft_9_58 Rt rfl (hS _ _ rfl) rfl (lb rfl) (hM.1 21 (lb rfl) (lb rfl)) ?_
                  refine w_iload dX10_relocation_121 rfl ?_
                  refine w_iload_n dX10_relocation_123 rfl ?_
                  refine r_iast  dX10_relocation_124 Rt rfl (hS _ _ rfl) rfl rfl (by omega) (lb rfl) (fun G7 R7 => ?_)
                  refine w_aload_n dX10_relocation_125 rfl ?_
                  refine r_getr  dX10_relocation_126 ft_9_61 R7 rfl (hS _ _ rfl) rfl (lb rfl) (hM.1 22 (lb rfl) (lb rfl)) ?_
                  refine w_iload dX10_relocation_129 rfl ?_
                  refine w_iload_n dX10_relocation_131 rfl ?_
                  refine r_iast  dX10_relocation_132 R7 rfl (hS _ _ rfl) rfl rfl (by omega) (lb rfl) (fun G8 R8 => ?_)
                  refine w_aload_n dX10_relocation_133 rfl ?_
                  refine r_getr  dX10_relocation_134 ft_9_64 R8 rfl (hS _ _ rfl) rfl (lb rfl) (hM.1 23 (lb rfl) (lb rfl)) ?_
                  refine w_iload dX10_relocation_137 rfl ?_
                  refine w_iload_n dX10_relocation_139 rfl ?_
                  refine r_iast  dX10_relocation_140 R8 rfl (hS _ _ rfl) rfl rfl (by omega) (lb rfl) (fun G9 R9 => ?_)
                  refine w_aload_n dX10_relocation_141 rfl ?_
                  refine r_getr  dX10_relocation_142 ft_9_67 R9 rfl (hS _ _ rfl) rfl (lb rfl) (hM.1 24 (lb rfl) (lb rfl)) ?_
                  refine w_iload dX10_relocation_145 rfl ?_
                  refine w_iload dX10_relocation_147 rfl ?_
                  refine r_iast  dX10_relocation_149 R9 rfl (hS _ _ rfl) rfl rfl (by omega) (lb rfl) (fun G10 R10 => ?_)
                  refine w_aload_n dX10_relocation_150 rfl ?_
                  refine r_getr  dX10_relocation_151 ft_9_70 R10 rfl (hS _ _ rfl) rfl (lb rfl) (hM.1 25 (lb rfl) (lb rfl)) ?_
                  refine w_iload dX10_relocation_154 rfl ?_
                  refine w_iload dX10_relocation_156 rfl ?_
                  refine r_iast  dX10_relocation_158 R10 rfl (hS _ _ rfl) rfl rfl (by omega) (lb rfl) (fun G11 R11 => ?_)
                  refine w_aload_n dX10_relocation_159 rfl ?_
                  refine w_dup dX10_relocation_160 rfl ?_
                  refine r_geti  dX10_relocation_161 ft_9_195 R11 rfl (hS _ _ rfl) rfl (lb rfl) c20 ?_
                  refine w_iconst (v := 1) dX10_relocation_164 (by decide) ?_
                  refine w_iadd dX10_relocation_165 ?_
                  rw [nI_1]
                  refine r_puti  dX10_relocation_166 ft_9_195 R11 rfl (hS _ _ rfl) rfl (lb rfl) (fun h => by cases h) rfl rfl (fun G12 R12 => ?_)
                  refine w_iload dX10_relocation_169 rfl ?_
                  refine w_iret dX10_relocation_171 rfl rfl ?_
                  refine qs _ _ (by rw [f_relocation, if_neg (Classical.not_not.mpr ⟨⟨by rw [nI_toInt hj]; omega, by rw [nI_toInt hj]; omega, by rw [clN hj]; exact b3⟩, ⟨by rw [nI_toInt hm]; omega, by rw [nI_toInt hm]; omega⟩, by rw [clN hj, clN hm]; exact h38⟩), if_neg (Classical.not_not.mpr ⟨⟨by omega, by omega⟩, ⟨by omega, by rw [clN hj]; omega⟩, fun e => by rw [clN hj]; exact h88⟩), if_neg h101]) _ _ R12 (mfr.told s).I.I.I.I.I.X ?_ ⟨rfl, rfl, rfl, rfl⟩
                  exact ⟨rm_X (m_told_F hM) rfl, ⟨c1, c2, c13, c14, rfl, c26⟩, hsec, hby, hsy, fun k hk => ⟨wu s.2.2.2.1 τ.2.1 (fun e => (hre k (by have : k < tN τ 3 + 1 := hk; omega)).1), wu s.2.2.2.1 τ.2.1 (fun e => (hre k (by have : k < tN τ 3 + 1 := hk; omega)).2.1), wu s.2.2.2.1 τ.2.1 (fun e => (hre k (by have : k < tN τ 3 + 1 := hk; omega)).2.2.1), wu s.2.2.2.1 τ.2.1 (fun e => (hre k (by have : k < tN τ 3 + 1 := hk; omega)).2.2.2.1), wu s.2.2.2.1 τ.2.1 (fun e => (hre k (by have : k < tN τ 3 + 1 := hk; omega)).2.2.2.2)⟩, hro, hba⟩
                ·
                  refine w_bipush (v := (-104)) dX10_relocation_104 (by decide) ?_
                  exact w_iret dX10_relocation_106 rfl rfl (qn _ (by rw [f_relocation, if_neg (Classical.not_not.mpr ⟨⟨by rw [nI_toInt hj]; omega, by rw [nI_toInt hj]; omega, by rw [clN hj]; exact b3⟩, ⟨by rw [nI_toInt hm]; omega, by rw [nI_toInt hm]; omega⟩, by rw [clN hj, clN hm]; exact h38⟩), if_neg (Classical.not_not.mpr ⟨⟨by omega, by omega⟩, ⟨by omega, by rw [clN hj]; omega⟩, fun e => by rw [clN hj]; exact h88⟩), if_pos h101]))
              ·
                refine w_bipush (v := (-102)) dX10_relocation_91 (by decide) ?_
                exact w_iret dX10_relocation_93 rfl rfl (qn _ (by rw [f_relocation, if_neg (Classical.not_not.mpr ⟨⟨by rw [nI_toInt hj]; omega, by rw [nI_toInt hj]; omega, by rw [clN hj]; exact b3⟩, ⟨by rw [nI_toInt hm]; omega, by rw [nI_toInt hm]; omega⟩, by rw [clN hj, clN hm]; exact h38⟩), if_pos (fun e => by rw [clN hj] at e; exact h88 (e.2.2 h79))]))
          ·
            refine w_if_eq (t := 91) dX10_relocation_74 rfl (fun _ => ?_) (fun h => absurd (by decide) h)
            refine w_bipush (v := (-102)) dX10_relocation_91 (by decide) ?_
            exact w_iret dX10_relocation_93 rfl rfl (qn _ (by rw [f_relocation, if_neg (Classical.not_not.mpr ⟨⟨by rw [nI_toInt hj]; omega, by rw [nI_toInt hj]; omega, by rw [clN hj]; exact b3⟩, ⟨by rw [nI_toInt hm]; omega, by rw [nI_toInt hm]; omega⟩, by rw [clN hj, clN hm]; exact h38⟩), if_pos (fun e => by rw [clN hj] at e; exact i71 e.2.1.1 (by omega))]))
        ·
          refine w_if_eq (t := 91) dX10_relocation_53 rfl (fun _ => ?_) (fun h => absurd (by decide) h)
          refine w_bipush (v := (-102)) dX10_relocation_91 (by decide) ?_
          exact w_iret dX10_relocation_93 rfl rfl (qn _ (by rw [f_relocation, if_neg (Classical.not_not.mpr ⟨⟨by rw [nI_toInt hj]; omega, by rw [nI_toInt hj]; omega, by rw [clN hj]; exact b3⟩, ⟨by rw [nI_toInt hm]; omega, by rw [nI_toInt hm]; omega⟩, by rw [clN hj, clN hm]; exact h38⟩), if_pos (fun e => by exact i50 e.1.1 e.1.2)]))
      ·
        refine w_bipush (v := (-101)) dX10_relocation_41 (by decide) ?_
        exact w_iret dX10_relocation_43 rfl rfl (qn _ (by rw [f_relocation, if_pos (fun e => by rw [clN hj, clN hm] at e; exact h38 e.2.2)]))
    ·
      refine w_if_eq (t := 41) dX10_relocation_22 rfl (fun _ => ?_) (fun h => absurd (by decide) h)
      refine w_bipush (v := (-101)) dX10_relocation_41 (by decide) ?_
      exact w_iret dX10_relocation_43 rfl rfl (qn _ (by rw [f_relocation, if_pos (fun e => by exact i19 e.2.1.1 (by omega))]))
  ·
    refine w_if_eq (t := 41) dX10_relocation_5 rfl (fun _ => ?_) (fun h => absurd (by decide) h)
    refine w_bipush (v := (-101)) dX10_relocation_41 (by decide) ?_
    exact w_iret dX10_relocation_43 rfl rfl (qn _ (by rw [f_relocation, if_pos (fun e => by exact b0 e.1.1 e.1.2.1 e.1.2.2)]))
end
