/-! ===== The law's calls ===== -/
def bz (v : Int32) : Bool := !decide (v = 0)
theorem sX0_e {s : rx_S} {f : Nat} {v : rx_V} : clE s (sX s 0 0 f v) := fun r h0 _ _ => ⟨rfl, rfl, funext fun i => funext fun j => sX_p (fun q => h0 q.1), rfl, rfl, rfl, rfl⟩
theorem ML_L {s : rx_S} {τ : tx_T} {l : Option Bool} {k : Nat} {v : Int64} (h : ML s τ l) : ML (sL s 26 0 k v) τ l := by
  refine ML_u ?_
  rw [show rL (sL s 26 0 k v) 1 = rL s 1 from funext fun i => funext fun j => sL_p (fun q => absurd q.1 (by decide))]
  exact ML_n h
section
variable {b0 mi : Nat} {E : Nat → Nat} {O : Nat → Option mx_C} {s : rx_S} {G : mx_H} {Q : mx_O → mx_H → Prop} {τ : tx_T} {l : Option Bool}
theorem lw_arg {pc k n b len : Nat} {c : Int} {xs : Nat → Int32} {L : mx_L} {st : List Value} (h1 : decode cL_law pc = .ok (.aload_n 0, 1)) (h2 : decode cL_law (pc + 1) = .ok (.iload 4, 2)) (h3 : decode cL_law (pc + 3) = .ok (.iconst c, 1)) (h4 : decode cL_law (pc + 4) = .ok (.iadd, 1)) (h5 : decode cL_law (pc + 5) = .ok (.iaload, 1)) (hc : Int32.ofInt c = nI k) (l0 : L 0 = some (.ref b)) (l4 : L 4 = some (.int (nI n))) (hG : G.1 b = some (.inl (99, len, .inl xs))) (hk : n + k < len) (hlen : len < 2 ^ 31) (k9 : mx_W (gt_P b0 mi E) mL_law (pc + 6) L (.int (xs (n + k)) :: st) G Q) : mx_W (gt_P b0 mi E) mL_law pc L st G Q := by
  refine w_aload_n h1 l0 ?_
  refine w_iload h2 l4 ?_
  refine w_iconst (v := nI k) h3 hc ?_
  refine w_iadd h4 ?_
  rw [nI_add]
  exact w_sald h5 hG hk hlen k9
theorem lw_bool {pc : Nat} {v : Int32} {L : mx_L} {st : List Value} (h1 : decode cL_law pc = .ok (.ifCond .eq 7, 3)) (h2 : decode cL_law (pc + 3) = .ok (.iconst 1, 1)) (h3 : decode cL_law (pc + 4) = .ok (.goto 4, 3)) (h4 : decode cL_law (pc + 7) = .ok (.iconst 0, 1)) (k9 : mx_W (gt_P b0 mi E) mL_law (pc + 8) L (.int (b32 (bz v)) :: st) G Q) : mx_W (gt_P b0 mi E) mL_law pc L (.int v :: st) G Q := by
  refine w_if_eq (t := pc + 7) h1 (by omega) (fun e => ?_) (fun e => ?_)
  · refine w_iconst (v := 0) h4 (by decide) ?_
    rw [show bz v = false by unfold bz; rw [e]; rfl] at k9; exact k9
  · refine w_iconst (v := 1) h2 (by decide) ?_
    refine w_goto (t := pc + 8) h3 (by omega) ?_
    rw [show bz v = true by unfold bz; rw [decide_eq_false e]; rfl] at k9; exact k9
set_option maxHeartbeats 2000000 in
theorem lw_object (hE : WE b0 O E) {b len : Nat} {xs : Nat → Int32} (hb : O b = some (.inl (99, len, .inl xs))) (hlt : b < b0) (hlen : len < 2 ^ 31) {n : Nat} (hn : n + 6 ≤ len) {i g0 m0 a0 : Nat} (h : LI b0 O E g0 m0 a0 i s G τ l) {L : mx_L} (hL : LQ b g0 m0 a0 n L) (next : ∀ s' G' τ' l' L', LI b0 O E g0 m0 a0 (i + 1) s' G' τ' l' → LQ b g0 m0 a0 n L' → mx_W (gt_P b0 mi E) mL_law 907 L' [] G' Q) : mx_W (gt_P b0 mi E) mL_law 124 L [] G Q := by
  obtain ⟨R, hS, hV, hC, hM, hZ, rfl, rfl, rfl⟩ := h
  have hL0 := hL
  obtain ⟨l0, l1, l2, l3, l4⟩ := hL
  have hG : G.1 b = some (.inl (99, len, .inl xs)) := (R.2.2.2.2.2.2.2.2 b hlt).trans hb
  refine w_aload_n dL_law_124 l1 ?_
  refine r_inv0 dL_law_125 mt_12_28 R rfl (hS _ _ rfl) rfl (lb rfl) (lb rfl) (lb rfl) (lb rfl) rfl (c9_object R hS hC.1 hV (fun r9 f1 => ⟨_, rfl, ?_⟩) (fun r9 τ' f1 s' G' R' g1 T1 GT1 => ⟨_, rfl, ?_⟩))
  · refine w_aload_n dL_law_128 l2 ?_
    refine r_inv0 dL_law_129 mt_12_32 R rfl (hS _ _ rfl) rfl (lb rfl) (lb rfl) (lb rfl) (lb rfl) rfl (c10_object R hS hM.1 hV (fun r8 f2 => ⟨_, rfl, ?_⟩) (fun r8 τ2 f2 => by rw [f1] at f2; cases f2))
    obtain rfl : r9 = r8 := by rw [f1] at f2; cases f2; rfl
    exact w_icmp_eq (t := 907) dL_law_132 rfl (fun _ => next s G τ l L ⟨rx_w R (by omega) (by omega), hS, hV, hC, hM, pz_mono hZ (Nat.le_succ _), rfl, rfl, rfl⟩ hL0) (fun e => absurd rfl e)
  · have hG' : G'.1 b = some (.inl (99, len, .inl xs)) := (R'.2.2.2.2.2.2.2.2 b hlt).trans hb
    have l2' : L 2 = some (.ref (rA s' 0 0)) := by rw [(g1.1 0 0 (hS 0 0 rfl)).2]; exact l2
    refine w_aload_n dL_law_128 l2' ?_
    refine r_inv0 dL_law_129 mt_12_32 R' rfl (g1.inn hS _ _ rfl) rfl (lb rfl) (lb rfl) (lb rfl) (lb rfl) rfl (c10_object R' (g1.inn hS) (MR_g hM.1 g1.p) hV (fun r8 f2 => by rw [f1] at f2; cases f2) (fun r8 τ2 f2 s2 G2 R2 m1 MR2 MT2 => ⟨_, rfl, ?_⟩))
    obtain ⟨rfl, rfl⟩ : r9 = r8 ∧ τ' = τ2 := by rw [f1] at f2; cases f2; exact ⟨rfl, rfl⟩
    have hp : pz s2 (i + 1) := pz_mono (pz_e (g1.2.2.2.2.2 i hZ) (mfr_e m1)) (Nat.le_succ _)
    have in2 : rx_in s2 := fun r k hr => by rw [m1.2.1]; exact g1.inn hS r k hr
    exact w_icmp_eq (t := 907) dL_law_132 rfl (fun _ => next s2 G2 τ' none L ⟨rx_w R2 (by omega) (by omega), in2, TV_object hV f1, CL_told (CT_e T1 (mfr_e m1)) (GT_e GT1 (mfr_e m1)), ML_told MR2 MT2, hp, by rw [m1.1]; exact (g1.1 2 0 (hS 2 0 rfl)).2, by rw [m1.1]; exact (g1.1 0 0 (hS 0 0 rfl)).2, by rw [m1.1]; exact (g1.1 26 0 (hS 26 0 rfl)).2⟩ hL0) (fun e => absurd rfl e)
set_option maxHeartbeats 2000000 in
theorem lw_section (hE : WE b0 O E) {b len : Nat} {xs : Nat → Int32} (hb : O b = some (.inl (99, len, .inl xs))) (hlt : b < b0) (hlen : len < 2 ^ 31) {n : Nat} (hn : n + 6 ≤ len) {i g0 m0 a0 : Nat} (h : LI b0 O E g0 m0 a0 i s G τ l) {L : mx_L} (hL : LQ b g0 m0 a0 n L) (next : ∀ s' G' τ' l' L', LI b0 O E g0 m0 a0 (i + 1) s' G' τ' l' → LQ b g0 m0 a0 n L' → mx_W (gt_P b0 mi E) mL_law 907 L' [] G' Q) : mx_W (gt_P b0 mi E) mL_law 137 L [] G Q := by
  obtain ⟨R, hS, hV, hC, hM, hZ, rfl, rfl, rfl⟩ := h
  have hL0 := hL
  obtain ⟨l0, l1, l2, l3, l4⟩ := hL
  have hG : G.1 b = some (.inl (99, len, .inl xs)) := (R.2.2.2.2.2.2.2.2 b hlt).trans hb
  refine w_aload_n dL_law_137 l1 ?_
  refine lw_arg (k := 1) dL_law_138 dL_law_139 dL_law_141 dL_law_142 dL_law_143 (by decide) l0 l4 hG (by omega) hlen ?_
  refine lw_arg (k := 2) dL_law_144 dL_law_145 dL_law_147 dL_law_148 dL_law_149 (by decide) l0 l4 hG (by omega) hlen ?_
  refine lw_arg (k := 3) dL_law_150 dL_law_151 dL_law_153 dL_law_154 dL_law_155 (by decide) l0 l4 hG (by omega) hlen ?_
  refine lw_arg (k := 4) dL_law_156 dL_law_157 dL_law_159 dL_law_160 dL_law_161 (by decide) l0 l4 hG (by omega) hlen ?_
  refine lw_arg (k := 5) dL_law_162 dL_law_163 dL_law_165 dL_law_166 dL_law_167 (by decide) l0 l4 hG (by omega) hlen ?_
  refine r_inv5 dL_law_168 mt_12_33 R rfl (hS _ _ rfl) rfl (lb rfl) (lb rfl) (lb rfl) (lb rfl) rfl (c9_section R hS hC.1 hV hE (fun r9 f1 => ⟨_, rfl, ?_⟩) (fun r9 τ' f1 s' G' R' g1 T1 GT1 => ⟨_, rfl, ?_⟩))
  · refine w_aload_n dL_law_171 l2 ?_
    refine lw_arg (k := 1) dL_law_172 dL_law_173 dL_law_175 dL_law_176 dL_law_177 (by decide) l0 l4 hG (by omega) hlen ?_
    refine lw_arg (k := 2) dL_law_178 dL_law_179 dL_law_181 dL_law_182 dL_law_183 (by decide) l0 l4 hG (by omega) hlen ?_
    refine lw_arg (k := 3) dL_law_184 dL_law_185 dL_law_187 dL_law_188 dL_law_189 (by decide) l0 l4 hG (by omega) hlen ?_
    refine lw_arg (k := 4) dL_law_190 dL_law_191 dL_law_193 dL_law_194 dL_law_195 (by decide) l0 l4 hG (by omega) hlen ?_
    refine lw_arg (k := 5) dL_law_196 dL_law_197 dL_law_199 dL_law_200 dL_law_201 (by decide) l0 l4 hG (by omega) hlen ?_
    refine r_inv5 dL_law_202 mt_12_37 R rfl (hS _ _ rfl) rfl (lb rfl) (lb rfl) (lb rfl) (lb rfl) rfl (c10_section R hS hM.1 hV (fun r8 f2 => ⟨_, rfl, ?_⟩) (fun r8 τ2 f2 => by rw [f1] at f2; cases f2))
    obtain rfl : r9 = r8 := by rw [f1] at f2; cases f2; rfl
    exact w_icmp_eq (t := 907) dL_law_205 rfl (fun _ => next s G τ l L ⟨rx_w R (by omega) (by omega), hS, hV, hC, hM, pz_mono hZ (Nat.le_succ _), rfl, rfl, rfl⟩ hL0) (fun e => absurd rfl e)
  · have hG' : G'.1 b = some (.inl (99, len, .inl xs)) := (R'.2.2.2.2.2.2.2.2 b hlt).trans hb
    have l2' : L 2 = some (.ref (rA s' 0 0)) := by rw [(g1.1 0 0 (hS 0 0 rfl)).2]; exact l2
    refine w_aload_n dL_law_171 l2' ?_
    refine lw_arg (k := 1) dL_law_172 dL_law_173 dL_law_175 dL_law_176 dL_law_177 (by decide) l0 l4 hG' (by omega) hlen ?_
    refine lw_arg (k := 2) dL_law_178 dL_law_179 dL_law_181 dL_law_182 dL_law_183 (by decide) l0 l4 hG' (by omega) hlen ?_
    refine lw_arg (k := 3) dL_law_184 dL_law_185 dL_law_187 dL_law_188 dL_law_189 (by decide) l0 l4 hG' (by omega) hlen ?_
    refine lw_arg (k := 4) dL_law_190 dL_law_191 dL_law_193 dL_law_194 dL_law_195 (by decide) l0 l4 hG' (by omega) hlen ?_
    refine lw_arg (k := 5) dL_law_196 dL_law_197 dL_law_199 dL_law_200 dL_law_201 (by decide) l0 l4 hG' (by omega) hlen ?_
    refine r_inv5 dL_law_202 mt_12_37 R' rfl (g1.inn hS _ _ rfl) rfl (lb rfl) (lb rfl) (lb rfl) (lb rfl) rfl (c10_section R' (g1.inn hS) (MR_g hM.1 g1.p) hV (fun r8 f2 => by rw [f1] at f2; cases f2) (fun r8 τ2 f2 s2 G2 R2 m1 MR2 MT2 => ⟨_, rfl, ?_⟩))
    obtain ⟨rfl, rfl⟩ : r9 = r8 ∧ τ' = τ2 := by rw [f1] at f2; cases f2; exact ⟨rfl, rfl⟩
    have hp : pz s2 (i + 1) := pz_mono (pz_e (g1.2.2.2.2.2 i hZ) (mfr_e m1)) (Nat.le_succ _)
    have in2 : rx_in s2 := fun r k hr => by rw [m1.2.1]; exact g1.inn hS r k hr
    exact w_icmp_eq (t := 907) dL_law_205 rfl (fun _ => next s2 G2 τ' none L ⟨rx_w R2 (by omega) (by omega), in2, TV_section hV f1, CL_told (CT_e T1 (mfr_e m1)) (GT_e GT1 (mfr_e m1)), ML_told MR2 MT2, hp, by rw [m1.1]; exact (g1.1 2 0 (hS 2 0 rfl)).2, by rw [m1.1]; exact (g1.1 0 0 (hS 0 0 rfl)).2, by rw [m1.1]; exact (g1.1 26 0 (hS 26 0 rfl)).2⟩ hL0) (fun e => absurd rfl e)
set_option maxHeartbeats 2000000 in
theorem lw_patch (hE : WE b0 O E) {b len : Nat} {xs : Nat → Int32} (hb : O b = some (.inl (99, len, .inl xs))) (hlt : b < b0) (hlen : len < 2 ^ 31) {n : Nat} (hn : n + 6 ≤ len) {i g0 m0 a0 : Nat} (h600 : i ≤ 600) (h : LI b0 O E g0 m0 a0 i s G τ l) {L : mx_L} (hL : LQ b g0 m0 a0 n L) (next : ∀ s' G' τ' l' L', LI b0 O E g0 m0 a0 (i + 1) s' G' τ' l' → LQ b g0 m0 a0 n L' → mx_W (gt_P b0 mi E) mL_law 907 L' [] G' Q) : mx_W (gt_P b0 mi E) mL_law 210 L [] G Q := by
  obtain ⟨R, hS, hV, hC, hM, hZ, rfl, rfl, rfl⟩ := h
  have hL0 := hL
  obtain ⟨l0, l1, l2, l3, l4⟩ := hL
  have hG : G.1 b = some (.inl (99, len, .inl xs)) := (R.2.2.2.2.2.2.2.2 b hlt).trans hb
  refine w_aload_n dL_law_210 l1 ?_
  refine lw_arg (k := 1) dL_law_211 dL_law_212 dL_law_214 dL_law_215 dL_law_216 (by decide) l0 l4 hG (by omega) hlen ?_
  refine lw_arg (k := 2) dL_law_217 dL_law_218 dL_law_220 dL_law_221 dL_law_222 (by decide) l0 l4 hG (by omega) hlen ?_
  refine lw_arg (k := 3) dL_law_223 dL_law_224 dL_law_226 dL_law_227 dL_law_228 (by decide) l0 l4 hG (by omega) hlen ?_
  refine r_inv3 dL_law_229 mt_12_38 R rfl (hS _ _ rfl) rfl (lb rfl) (lb rfl) (lb rfl) (lb rfl) rfl (c9_patch R hS hC.1 hV hE hZ h600 (fun r9 f1 => ⟨_, rfl, ?_⟩) (fun r9 τ' f1 s' G' R' g1 T1 GT1 ed => ⟨_, rfl, ?_⟩))
  · refine w_aload_n dL_law_232 l2 ?_
    refine lw_arg (k := 1) dL_law_233 dL_law_234 dL_law_236 dL_law_237 dL_law_238 (by decide) l0 l4 hG (by omega) hlen ?_
    refine lw_arg (k := 2) dL_law_239 dL_law_240 dL_law_242 dL_law_243 dL_law_244 (by decide) l0 l4 hG (by omega) hlen ?_
    refine lw_arg (k := 3) dL_law_245 dL_law_246 dL_law_248 dL_law_249 dL_law_250 (by decide) l0 l4 hG (by omega) hlen ?_
    refine r_inv3 dL_law_251 mt_12_42 R rfl (hS _ _ rfl) rfl (lb rfl) (lb rfl) (lb rfl) (lb rfl) rfl (c10_patch R hS hM.1 hV (fun r8 f2 => ⟨_, rfl, ?_⟩) (fun r8 τ2 f2 => by rw [f1] at f2; cases f2))
    obtain rfl : r9 = r8 := by rw [f1] at f2; cases f2; rfl
    exact w_icmp_eq (t := 907) dL_law_254 rfl (fun _ => next s G τ l L ⟨rx_w R (by omega) (by omega), hS, hV, hC, hM, pz_mono hZ (Nat.le_succ _), rfl, rfl, rfl⟩ hL0) (fun e => absurd rfl e)
  · have hG' : G'.1 b = some (.inl (99, len, .inl xs)) := (R'.2.2.2.2.2.2.2.2 b hlt).trans hb
    have l2' : L 2 = some (.ref (rA s' 0 0)) := by rw [(g1.1 0 0 (hS 0 0 rfl)).2]; exact l2
    refine w_aload_n dL_law_232 l2' ?_
    refine lw_arg (k := 1) dL_law_233 dL_law_234 dL_law_236 dL_law_237 dL_law_238 (by decide) l0 l4 hG' (by omega) hlen ?_
    refine lw_arg (k := 2) dL_law_239 dL_law_240 dL_law_242 dL_law_243 dL_law_244 (by decide) l0 l4 hG' (by omega) hlen ?_
    refine lw_arg (k := 3) dL_law_245 dL_law_246 dL_law_248 dL_law_249 dL_law_250 (by decide) l0 l4 hG' (by omega) hlen ?_
    refine r_inv3 dL_law_251 mt_12_42 R' rfl (g1.inn hS _ _ rfl) rfl (lb rfl) (lb rfl) (lb rfl) (lb rfl) rfl (c10_patch R' (g1.inn hS) (MR_g hM.1 g1) hV (fun r8 f2 => by rw [f1] at f2; cases f2) (fun r8 τ2 f2 s2 G2 R2 m1 MR2 MT2 => ⟨_, rfl, ?_⟩))
    obtain ⟨rfl, rfl⟩ : r9 = r8 ∧ τ' = τ2 := by rw [f1] at f2; cases f2; exact ⟨rfl, rfl⟩
    have hp : pz s2 (i + 1) := pz_e ed (mfr_e m1)
    have in2 : rx_in s2 := fun r k hr => by rw [m1.2.1]; exact g1.inn hS r k hr
    exact w_icmp_eq (t := 907) dL_law_254 rfl (fun _ => next s2 G2 τ' none L ⟨rx_w R2 (by omega) (by omega), in2, TV_patch hV f1, CL_told (CT_e T1 (mfr_e m1)) (GT_e GT1 (mfr_e m1)), ML_told MR2 MT2, hp, by rw [m1.1]; exact (g1.1 2 0 (hS 2 0 rfl)).2, by rw [m1.1]; exact (g1.1 0 0 (hS 0 0 rfl)).2, by rw [m1.1]; exact (g1.1 26 0 (hS 26 0 rfl)).2⟩ hL0) (fun e => absurd rfl e)
set_option maxHeartbeats 2000000 in
theorem lw_mark (hE : WE b0 O E) {b len : Nat} {xs : Nat → Int32} (hb : O b = some (.inl (99, len, .inl xs))) (hlt : b < b0) (hlen : len < 2 ^ 31) {n : Nat} (hn : n + 6 ≤ len) {i g0 m0 a0 : Nat} (h : LI b0 O E g0 m0 a0 i s G τ l) {L : mx_L} (hL : LQ b g0 m0 a0 n L) (next : ∀ s' G' τ' l' L', LI b0 O E g0 m0 a0 (i + 1) s' G' τ' l' → LQ b g0 m0 a0 n L' → mx_W (gt_P b0 mi E) mL_law 907 L' [] G' Q) : mx_W (gt_P b0 mi E) mL_law 259 L [] G Q := by
  obtain ⟨R, hS, hV, hC, hM, hZ, rfl, rfl, rfl⟩ := h
  have hL0 := hL
  obtain ⟨l0, l1, l2, l3, l4⟩ := hL
  have hG : G.1 b = some (.inl (99, len, .inl xs)) := (R.2.2.2.2.2.2.2.2 b hlt).trans hb
  refine w_aload_n dL_law_259 l1 ?_
  refine lw_arg (k := 1) dL_law_260 dL_law_261 dL_law_263 dL_law_264 dL_law_265 (by decide) l0 l4 hG (by omega) hlen ?_
  refine lw_arg (k := 2) dL_law_266 dL_law_267 dL_law_269 dL_law_270 dL_law_271 (by decide) l0 l4 hG (by omega) hlen ?_
  refine lw_arg (k := 3) dL_law_272 dL_law_273 dL_law_275 dL_law_276 dL_law_277 (by decide) l0 l4 hG (by omega) hlen ?_
  refine r_inv3 dL_law_278 mt_12_43 R rfl (hS _ _ rfl) rfl (lb rfl) (lb rfl) (lb rfl) (lb rfl) rfl (c9_mark R hS hC.1 hV (fun r9 f1 => ⟨_, rfl, ?_⟩) (fun r9 τ' f1 s' G' R' g1 T1 GT1 => ⟨_, rfl, ?_⟩))
  · refine w_aload_n dL_law_281 l2 ?_
    refine lw_arg (k := 1) dL_law_282 dL_law_283 dL_law_285 dL_law_286 dL_law_287 (by decide) l0 l4 hG (by omega) hlen ?_
    refine lw_arg (k := 2) dL_law_288 dL_law_289 dL_law_291 dL_law_292 dL_law_293 (by decide) l0 l4 hG (by omega) hlen ?_
    refine lw_arg (k := 3) dL_law_294 dL_law_295 dL_law_297 dL_law_298 dL_law_299 (by decide) l0 l4 hG (by omega) hlen ?_
    refine r_inv3 dL_law_300 mt_12_46 R rfl (hS _ _ rfl) rfl (lb rfl) (lb rfl) (lb rfl) (lb rfl) rfl (c10_mark R hS hM.1 hV (fun r8 f2 => ⟨_, rfl, ?_⟩) (fun r8 τ2 f2 => by rw [f1] at f2; cases f2))
    obtain rfl : r9 = r8 := by rw [f1] at f2; cases f2; rfl
    exact w_icmp_eq (t := 907) dL_law_303 rfl (fun _ => next s G τ l L ⟨rx_w R (by omega) (by omega), hS, hV, hC, hM, pz_mono hZ (Nat.le_succ _), rfl, rfl, rfl⟩ hL0) (fun e => absurd rfl e)
  · have hG' : G'.1 b = some (.inl (99, len, .inl xs)) := (R'.2.2.2.2.2.2.2.2 b hlt).trans hb
    have l2' : L 2 = some (.ref (rA s' 0 0)) := by rw [(g1.1 0 0 (hS 0 0 rfl)).2]; exact l2
    refine w_aload_n dL_law_281 l2' ?_
    refine lw_arg (k := 1) dL_law_282 dL_law_283 dL_law_285 dL_law_286 dL_law_287 (by decide) l0 l4 hG' (by omega) hlen ?_
    refine lw_arg (k := 2) dL_law_288 dL_law_289 dL_law_291 dL_law_292 dL_law_293 (by decide) l0 l4 hG' (by omega) hlen ?_
    refine lw_arg (k := 3) dL_law_294 dL_law_295 dL_law_297 dL_law_298 dL_law_299 (by decide) l0 l4 hG' (by omega) hlen ?_
    refine r_inv3 dL_law_300 mt_12_46 R' rfl (g1.inn hS _ _ rfl) rfl (lb rfl) (lb rfl) (lb rfl) (lb rfl) rfl (c10_mark R' (g1.inn hS) (MR_g hM.1 g1.p) hV (fun r8 f2 => by rw [f1] at f2; cases f2) (fun r8 τ2 f2 s2 G2 R2 m1 MR2 MT2 => ⟨_, rfl, ?_⟩))
    obtain ⟨rfl, rfl⟩ : r9 = r8 ∧ τ' = τ2 := by rw [f1] at f2; cases f2; exact ⟨rfl, rfl⟩
    have hp : pz s2 (i + 1) := pz_mono (pz_e (g1.2.2.2.2.2 i hZ) (mfr_e m1)) (Nat.le_succ _)
    have in2 : rx_in s2 := fun r k hr => by rw [m1.2.1]; exact g1.inn hS r k hr
    exact w_icmp_eq (t := 907) dL_law_303 rfl (fun _ => next s2 G2 τ' none L ⟨rx_w R2 (by omega) (by omega), in2, TV_mark hV f1, CL_told (CT_e T1 (mfr_e m1)) (GT_e GT1 (mfr_e m1)), ML_told MR2 MT2, hp, by rw [m1.1]; exact (g1.1 2 0 (hS 2 0 rfl)).2, by rw [m1.1]; exact (g1.1 0 0 (hS 0 0 rfl)).2, by rw [m1.1]; exact (g1.1 26 0 (hS 26 0 rfl)).2⟩ hL0) (fun e => absurd rfl e)
set_option maxHeartbeats 2000000 in
theorem lw_symbol (hE : WE b0 O E) {b len : Nat} {xs : Nat → Int32} (hb : O b = some (.inl (99, len, .inl xs))) (hlt : b < b0) (hlen : len < 2 ^ 31) {n : Nat} (hn : n + 6 ≤ len) {i g0 m0 a0 : Nat} (h : LI b0 O E g0 m0 a0 i s G τ l) {L : mx_L} (hL : LQ b g0 m0 a0 n L) (next : ∀ s' G' τ' l' L', LI b0 O E g0 m0 a0 (i + 1) s' G' τ' l' → LQ b g0 m0 a0 n L' → mx_W (gt_P b0 mi E) mL_law 907 L' [] G' Q) : mx_W (gt_P b0 mi E) mL_law 308 L [] G Q := by
  obtain ⟨R, hS, hV, hC, hM, hZ, rfl, rfl, rfl⟩ := h
  have hL0 := hL
  obtain ⟨l0, l1, l2, l3, l4⟩ := hL
  have hG : G.1 b = some (.inl (99, len, .inl xs)) := (R.2.2.2.2.2.2.2.2 b hlt).trans hb
  refine w_aload_n dL_law_308 l1 ?_
  refine lw_arg (k := 1) dL_law_309 dL_law_310 dL_law_312 dL_law_313 dL_law_314 (by decide) l0 l4 hG (by omega) hlen ?_
  refine lw_arg (k := 2) dL_law_315 dL_law_316 dL_law_318 dL_law_319 dL_law_320 (by decide) l0 l4 hG (by omega) hlen ?_
  refine lw_arg (k := 3) dL_law_321 dL_law_322 dL_law_324 dL_law_325 dL_law_326 (by decide) l0 l4 hG (by omega) hlen ?_
  refine lw_arg (k := 4) dL_law_327 dL_law_328 dL_law_330 dL_law_331 dL_law_332 (by decide) l0 l4 hG (by omega) hlen ?_
  refine lw_arg (k := 5) dL_law_333 dL_law_334 dL_law_336 dL_law_337 dL_law_338 (by decide) l0 l4 hG (by omega) hlen ?_
  refine r_inv5 dL_law_339 mt_12_47 R rfl (hS _ _ rfl) rfl (lb rfl) (lb rfl) (lb rfl) (lb rfl) rfl (c9_symbol R hS hC.1 hV hE (fun r9 f1 => ⟨_, rfl, ?_⟩) (fun r9 τ' f1 s' G' R' g1 T1 GT1 => ⟨_, rfl, ?_⟩))
  · refine w_aload_n dL_law_342 l2 ?_
    refine lw_arg (k := 1) dL_law_343 dL_law_344 dL_law_346 dL_law_347 dL_law_348 (by decide) l0 l4 hG (by omega) hlen ?_
    refine lw_arg (k := 2) dL_law_349 dL_law_350 dL_law_352 dL_law_353 dL_law_354 (by decide) l0 l4 hG (by omega) hlen ?_
    refine lw_arg (k := 3) dL_law_355 dL_law_356 dL_law_358 dL_law_359 dL_law_360 (by decide) l0 l4 hG (by omega) hlen ?_
    refine lw_arg (k := 4) dL_law_361 dL_law_362 dL_law_364 dL_law_365 dL_law_366 (by decide) l0 l4 hG (by omega) hlen ?_
    refine lw_arg (k := 5) dL_law_367 dL_law_368 dL_law_370 dL_law_371 dL_law_372 (by decide) l0 l4 hG (by omega) hlen ?_
    refine r_inv5 dL_law_373 mt_12_50 R rfl (hS _ _ rfl) rfl (lb rfl) (lb rfl) (lb rfl) (lb rfl) rfl (c10_symbol R hS hM.1 hV (fun r8 f2 => ⟨_, rfl, ?_⟩) (fun r8 τ2 f2 => by rw [f1] at f2; cases f2))
    obtain rfl : r9 = r8 := by rw [f1] at f2; cases f2; rfl
    exact w_icmp_eq (t := 907) dL_law_376 rfl (fun _ => next s G τ l L ⟨rx_w R (by omega) (by omega), hS, hV, hC, hM, pz_mono hZ (Nat.le_succ _), rfl, rfl, rfl⟩ hL0) (fun e => absurd rfl e)
  · have hG' : G'.1 b = some (.inl (99, len, .inl xs)) := (R'.2.2.2.2.2.2.2.2 b hlt).trans hb
    have l2' : L 2 = some (.ref (rA s' 0 0)) := by rw [(g1.1 0 0 (hS 0 0 rfl)).2]; exact l2
    refine w_aload_n dL_law_342 l2' ?_
    refine lw_arg (k := 1) dL_law_343 dL_law_344 dL_law_346 dL_law_347 dL_law_348 (by decide) l0 l4 hG' (by omega) hlen ?_
    refine lw_arg (k := 2) dL_law_349 dL_law_350 dL_law_352 dL_law_353 dL_law_354 (by decide) l0 l4 hG' (by omega) hlen ?_
    refine lw_arg (k := 3) dL_law_355 dL_law_356 dL_law_358 dL_law_359 dL_law_360 (by decide) l0 l4 hG' (by omega) hlen ?_
    refine lw_arg (k := 4) dL_law_361 dL_law_362 dL_law_364 dL_law_365 dL_law_366 (by decide) l0 l4 hG' (by omega) hlen ?_
    refine lw_arg (k := 5) dL_law_367 dL_law_368 dL_law_370 dL_law_371 dL_law_372 (by decide) l0 l4 hG' (by omega) hlen ?_
    refine r_inv5 dL_law_373 mt_12_50 R' rfl (g1.inn hS _ _ rfl) rfl (lb rfl) (lb rfl) (lb rfl) (lb rfl) rfl (c10_symbol R' (g1.inn hS) (MR_g hM.1 g1.p) hV (fun r8 f2 => by rw [f1] at f2; cases f2) (fun r8 τ2 f2 s2 G2 R2 m1 MR2 MT2 => ⟨_, rfl, ?_⟩))
    obtain ⟨rfl, rfl⟩ : r9 = r8 ∧ τ' = τ2 := by rw [f1] at f2; cases f2; exact ⟨rfl, rfl⟩
    have hp : pz s2 (i + 1) := pz_mono (pz_e (g1.2.2.2.2.2 i hZ) (mfr_e m1)) (Nat.le_succ _)
    have in2 : rx_in s2 := fun r k hr => by rw [m1.2.1]; exact g1.inn hS r k hr
    exact w_icmp_eq (t := 907) dL_law_376 rfl (fun _ => next s2 G2 τ' none L ⟨rx_w R2 (by omega) (by omega), in2, TV_symbol hV f1, CL_told (CT_e T1 (mfr_e m1)) (GT_e GT1 (mfr_e m1)), ML_told MR2 MT2, hp, by rw [m1.1]; exact (g1.1 2 0 (hS 2 0 rfl)).2, by rw [m1.1]; exact (g1.1 0 0 (hS 0 0 rfl)).2, by rw [m1.1]; exact (g1.1 26 0 (hS 26 0 rfl)).2⟩ hL0) (fun e => absurd rfl e)
set_option maxHeartbeats 2000000 in
theorem lw_relocation (hE : WE b0 O E) {b len : Nat} {xs : Nat → Int32} (hb : O b = some (.inl (99, len, .inl xs))) (hlt : b < b0) (hlen : len < 2 ^ 31) {n : Nat} (hn : n + 6 ≤ len) {i g0 m0 a0 : Nat} (h : LI b0 O E g0 m0 a0 i s G τ l) {L : mx_L} (hL : LQ b g0 m0 a0 n L) (next : ∀ s' G' τ' l' L', LI b0 O E g0 m0 a0 (i + 1) s' G' τ' l' → LQ b g0 m0 a0 n L' → mx_W (gt_P b0 mi E) mL_law 907 L' [] G' Q) : mx_W (gt_P b0 mi E) mL_law 381 L [] G Q := by
  obtain ⟨R, hS, hV, hC, hM, hZ, rfl, rfl, rfl⟩ := h
  have hL0 := hL
  obtain ⟨l0, l1, l2, l3, l4⟩ := hL
  have hG : G.1 b = some (.inl (99, len, .inl xs)) := (R.2.2.2.2.2.2.2.2 b hlt).trans hb
  refine w_aload_n dL_law_381 l1 ?_
  refine lw_arg (k := 1) dL_law_382 dL_law_383 dL_law_385 dL_law_386 dL_law_387 (by decide) l0 l4 hG (by omega) hlen ?_
  refine lw_arg (k := 2) dL_law_388 dL_law_389 dL_law_391 dL_law_392 dL_law_393 (by decide) l0 l4 hG (by omega) hlen ?_
  refine lw_arg (k := 3) dL_law_394 dL_law_395 dL_law_397 dL_law_398 dL_law_399 (by decide) l0 l4 hG (by omega) hlen ?_
  refine lw_arg (k := 4) dL_law_400 dL_law_401 dL_law_403 dL_law_404 dL_law_405 (by decide) l0 l4 hG (by omega) hlen ?_
  refine lw_arg (k := 5) dL_law_406 dL_law_407 dL_law_409 dL_law_410 dL_law_411 (by decide) l0 l4 hG (by omega) hlen ?_
  refine r_inv5 dL_law_412 mt_12_51 R rfl (hS _ _ rfl) rfl (lb rfl) (lb rfl) (lb rfl) (lb rfl) rfl (c9_relocation R hS hC.1 hV hE (fun r9 f1 => ⟨_, rfl, ?_⟩) (fun r9 τ' f1 s' G' R' g1 T1 GT1 => ⟨_, rfl, ?_⟩))
  · refine w_aload_n dL_law_415 l2 ?_
    refine lw_arg (k := 1) dL_law_416 dL_law_417 dL_law_419 dL_law_420 dL_law_421 (by decide) l0 l4 hG (by omega) hlen ?_
    refine lw_arg (k := 2) dL_law_422 dL_law_423 dL_law_425 dL_law_426 dL_law_427 (by decide) l0 l4 hG (by omega) hlen ?_
    refine lw_arg (k := 3) dL_law_428 dL_law_429 dL_law_431 dL_law_432 dL_law_433 (by decide) l0 l4 hG (by omega) hlen ?_
    refine lw_arg (k := 4) dL_law_434 dL_law_435 dL_law_437 dL_law_438 dL_law_439 (by decide) l0 l4 hG (by omega) hlen ?_
    refine lw_arg (k := 5) dL_law_440 dL_law_441 dL_law_443 dL_law_444 dL_law_445 (by decide) l0 l4 hG (by omega) hlen ?_
    refine r_inv5 dL_law_446 mt_12_54 R rfl (hS _ _ rfl) rfl (lb rfl) (lb rfl) (lb rfl) (lb rfl) rfl (c10_relocation R hS hM.1 hV (fun r8 f2 => ⟨_, rfl, ?_⟩) (fun r8 τ2 f2 => by rw [f1] at f2; cases f2))
    obtain rfl : r9 = r8 := by rw [f1] at f2; cases f2; rfl
    exact w_icmp_eq (t := 907) dL_law_449 rfl (fun _ => next s G τ l L ⟨rx_w R (by omega) (by omega), hS, hV, hC, hM, pz_mono hZ (Nat.le_succ _), rfl, rfl, rfl⟩ hL0) (fun e => absurd rfl e)
  · have hG' : G'.1 b = some (.inl (99, len, .inl xs)) := (R'.2.2.2.2.2.2.2.2 b hlt).trans hb
    have l2' : L 2 = some (.ref (rA s' 0 0)) := by rw [(g1.1 0 0 (hS 0 0 rfl)).2]; exact l2
    refine w_aload_n dL_law_415 l2' ?_
    refine lw_arg (k := 1) dL_law_416 dL_law_417 dL_law_419 dL_law_420 dL_law_421 (by decide) l0 l4 hG' (by omega) hlen ?_
    refine lw_arg (k := 2) dL_law_422 dL_law_423 dL_law_425 dL_law_426 dL_law_427 (by decide) l0 l4 hG' (by omega) hlen ?_
    refine lw_arg (k := 3) dL_law_428 dL_law_429 dL_law_431 dL_law_432 dL_law_433 (by decide) l0 l4 hG' (by omega) hlen ?_
    refine lw_arg (k := 4) dL_law_434 dL_law_435 dL_law_437 dL_law_438 dL_law_439 (by decide) l0 l4 hG' (by omega) hlen ?_
    refine lw_arg (k := 5) dL_law_440 dL_law_441 dL_law_443 dL_law_444 dL_law_445 (by decide) l0 l4 hG' (by omega) hlen ?_
    refine r_inv5 dL_law_446 mt_12_54 R' rfl (g1.inn hS _ _ rfl) rfl (lb rfl) (lb rfl) (lb rfl) (lb rfl) rfl (c10_relocation R' (g1.inn hS) (MR_g hM.1 g1.p) hV (fun r8 f2 => by rw [f1] at f2; cases f2) (fun r8 τ2 f2 s2 G2 R2 m1 MR2 MT2 => ⟨_, rfl, ?_⟩))
    obtain ⟨rfl, rfl⟩ : r9 = r8 ∧ τ' = τ2 := by rw [f1] at f2; cases f2; exact ⟨rfl, rfl⟩
    have hp : pz s2 (i + 1) := pz_mono (pz_e (g1.2.2.2.2.2 i hZ) (mfr_e m1)) (Nat.le_succ _)
    have in2 : rx_in s2 := fun r k hr => by rw [m1.2.1]; exact g1.inn hS r k hr
    exact w_icmp_eq (t := 907) dL_law_449 rfl (fun _ => next s2 G2 τ' none L ⟨rx_w R2 (by omega) (by omega), in2, TV_relocation hV f1, CL_told (CT_e T1 (mfr_e m1)) (GT_e GT1 (mfr_e m1)), ML_told MR2 MT2, hp, by rw [m1.1]; exact (g1.1 2 0 (hS 2 0 rfl)).2, by rw [m1.1]; exact (g1.1 0 0 (hS 0 0 rfl)).2, by rw [m1.1]; exact (g1.1 26 0 (hS 26 0 rfl)).2⟩ hL0) (fun e => absurd rfl e)
set_option maxHeartbeats 2000000 in
theorem lw_root (hE : WE b0 O E) {b len : Nat} {xs : Nat → Int32} (hb : O b = some (.inl (99, len, .inl xs))) (hlt : b < b0) (hlen : len < 2 ^ 31) {n : Nat} (hn : n + 6 ≤ len) {i g0 m0 a0 : Nat} (h : LI b0 O E g0 m0 a0 i s G τ l) {L : mx_L} (hL : LQ b g0 m0 a0 n L) (next : ∀ s' G' τ' l' L', LI b0 O E g0 m0 a0 (i + 1) s' G' τ' l' → LQ b g0 m0 a0 n L' → mx_W (gt_P b0 mi E) mL_law 907 L' [] G' Q) : mx_W (gt_P b0 mi E) mL_law 454 L [] G Q := by
  obtain ⟨R, hS, hV, hC, hM, hZ, rfl, rfl, rfl⟩ := h
  have hL0 := hL
  obtain ⟨l0, l1, l2, l3, l4⟩ := hL
  have hG : G.1 b = some (.inl (99, len, .inl xs)) := (R.2.2.2.2.2.2.2.2 b hlt).trans hb
  refine w_aload_n dL_law_454 l1 ?_
  refine lw_arg (k := 1) dL_law_455 dL_law_456 dL_law_458 dL_law_459 dL_law_460 (by decide) l0 l4 hG (by omega) hlen ?_
  refine r_inv1 dL_law_461 mt_12_55 R rfl (hS _ _ rfl) rfl (lb rfl) (lb rfl) (lb rfl) (lb rfl) rfl (c9_root R hS hC.1 hV (fun r9 f1 => ⟨_, rfl, ?_⟩) (fun r9 τ' f1 s' G' R' g1 T1 GT1 => ⟨_, rfl, ?_⟩))
  · refine w_aload_n dL_law_464 l2 ?_
    refine lw_arg (k := 1) dL_law_465 dL_law_466 dL_law_468 dL_law_469 dL_law_470 (by decide) l0 l4 hG (by omega) hlen ?_
    refine r_inv1 dL_law_471 mt_12_59 R rfl (hS _ _ rfl) rfl (lb rfl) (lb rfl) (lb rfl) (lb rfl) rfl (c10_root R hS hM.1 hV (fun r8 f2 => ⟨_, rfl, ?_⟩) (fun r8 τ2 f2 => by rw [f1] at f2; cases f2))
    obtain rfl : r9 = r8 := by rw [f1] at f2; cases f2; rfl
    exact w_icmp_eq (t := 907) dL_law_474 rfl (fun _ => next s G τ l L ⟨rx_w R (by omega) (by omega), hS, hV, hC, hM, pz_mono hZ (Nat.le_succ _), rfl, rfl, rfl⟩ hL0) (fun e => absurd rfl e)
  · have hG' : G'.1 b = some (.inl (99, len, .inl xs)) := (R'.2.2.2.2.2.2.2.2 b hlt).trans hb
    have l2' : L 2 = some (.ref (rA s' 0 0)) := by rw [(g1.1 0 0 (hS 0 0 rfl)).2]; exact l2
    refine w_aload_n dL_law_464 l2' ?_
    refine lw_arg (k := 1) dL_law_465 dL_law_466 dL_law_468 dL_law_469 dL_law_470 (by decide) l0 l4 hG' (by omega) hlen ?_
    refine r_inv1 dL_law_471 mt_12_59 R' rfl (g1.inn hS _ _ rfl) rfl (lb rfl) (lb rfl) (lb rfl) (lb rfl) rfl (c10_root R' (g1.inn hS) (MR_g hM.1 g1.p) hV (fun r8 f2 => by rw [f1] at f2; cases f2) (fun r8 τ2 f2 s2 G2 R2 m1 MR2 MT2 => ⟨_, rfl, ?_⟩))
    obtain ⟨rfl, rfl⟩ : r9 = r8 ∧ τ' = τ2 := by rw [f1] at f2; cases f2; exact ⟨rfl, rfl⟩
    have hp : pz s2 (i + 1) := pz_mono (pz_e (g1.2.2.2.2.2 i hZ) (mfr_e m1)) (Nat.le_succ _)
    have in2 : rx_in s2 := fun r k hr => by rw [m1.2.1]; exact g1.inn hS r k hr
    exact w_icmp_eq (t := 907) dL_law_474 rfl (fun _ => next s2 G2 τ' none L ⟨rx_w R2 (by omega) (by omega), in2, TV_root hV f1, CL_told (CT_e T1 (mfr_e m1)) (GT_e GT1 (mfr_e m1)), ML_told MR2 MT2, hp, by rw [m1.1]; exact (g1.1 2 0 (hS 2 0 rfl)).2, by rw [m1.1]; exact (g1.1 0 0 (hS 0 0 rfl)).2, by rw [m1.1]; exact (g1.1 26 0 (hS 26 0 rfl)).2⟩ hL0) (fun e => absurd rfl e)
set_option maxHeartbeats 2000000 in
theorem lw_base (hE : WE b0 O E) {b len : Nat} {xs : Nat → Int32} (hb : O b = some (.inl (99, len, .inl xs))) (hlt : b < b0) (hlen : len < 2 ^ 31) {n : Nat} (hn : n + 6 ≤ len) {i g0 m0 a0 : Nat} (h : LI b0 O E g0 m0 a0 i s G τ l) {L : mx_L} (hL : LQ b g0 m0 a0 n L) (next : ∀ s' G' τ' l' L', LI b0 O E g0 m0 a0 (i + 1) s' G' τ' l' → LQ b g0 m0 a0 n L' → mx_W (gt_P b0 mi E) mL_law 907 L' [] G' Q) : mx_W (gt_P b0 mi E) mL_law 479 L [] G Q := by
  obtain ⟨R, hS, hV, hC, hM, hZ, rfl, rfl, rfl⟩ := h
  have hL0 := hL
  obtain ⟨l0, l1, l2, l3, l4⟩ := hL
  have hG : G.1 b = some (.inl (99, len, .inl xs)) := (R.2.2.2.2.2.2.2.2 b hlt).trans hb
  refine w_aload_n dL_law_479 l1 ?_
  refine lw_arg (k := 1) dL_law_480 dL_law_481 dL_law_483 dL_law_484 dL_law_485 (by decide) l0 l4 hG (by omega) hlen ?_
  refine lw_arg (k := 2) dL_law_486 dL_law_487 dL_law_489 dL_law_490 dL_law_491 (by decide) l0 l4 hG (by omega) hlen ?_
  refine r_inv2 dL_law_492 mt_12_60 R rfl (hS _ _ rfl) rfl (lb rfl) (lb rfl) (lb rfl) (lb rfl) rfl (c9_base R hS hC.1 hV (fun r9 f1 => ⟨_, rfl, ?_⟩) (fun r9 τ' f1 s' G' R' g1 T1 GT1 => ⟨_, rfl, ?_⟩))
  · refine w_aload_n dL_law_495 l2 ?_
    refine lw_arg (k := 1) dL_law_496 dL_law_497 dL_law_499 dL_law_500 dL_law_501 (by decide) l0 l4 hG (by omega) hlen ?_
    refine lw_arg (k := 2) dL_law_502 dL_law_503 dL_law_505 dL_law_506 dL_law_507 (by decide) l0 l4 hG (by omega) hlen ?_
    refine r_inv2 dL_law_508 mt_12_64 R rfl (hS _ _ rfl) rfl (lb rfl) (lb rfl) (lb rfl) (lb rfl) rfl (c10_base R hS hM.1 hV (fun r8 f2 => ⟨_, rfl, ?_⟩) (fun r8 τ2 f2 => by rw [f1] at f2; cases f2))
    obtain rfl : r9 = r8 := by rw [f1] at f2; cases f2; rfl
    exact w_icmp_eq (t := 907) dL_law_511 rfl (fun _ => next s G τ l L ⟨rx_w R (by omega) (by omega), hS, hV, hC, hM, pz_mono hZ (Nat.le_succ _), rfl, rfl, rfl⟩ hL0) (fun e => absurd rfl e)
  · have hG' : G'.1 b = some (.inl (99, len, .inl xs)) := (R'.2.2.2.2.2.2.2.2 b hlt).trans hb
    have l2' : L 2 = some (.ref (rA s' 0 0)) := by rw [(g1.1 0 0 (hS 0 0 rfl)).2]; exact l2
    refine w_aload_n dL_law_495 l2' ?_
    refine lw_arg (k := 1) dL_law_496 dL_law_497 dL_law_499 dL_law_500 dL_law_501 (by decide) l0 l4 hG' (by omega) hlen ?_
    refine lw_arg (k := 2) dL_law_502 dL_law_503 dL_law_505 dL_law_506 dL_law_507 (by decide) l0 l4 hG' (by omega) hlen ?_
    refine r_inv2 dL_law_508 mt_12_64 R' rfl (g1.inn hS _ _ rfl) rfl (lb rfl) (lb rfl) (lb rfl) (lb rfl) rfl (c10_base R' (g1.inn hS) (MR_g hM.1 g1.p) hV (fun r8 f2 => by rw [f1] at f2; cases f2) (fun r8 τ2 f2 s2 G2 R2 m1 MR2 MT2 => ⟨_, rfl, ?_⟩))
    obtain ⟨rfl, rfl⟩ : r9 = r8 ∧ τ' = τ2 := by rw [f1] at f2; cases f2; exact ⟨rfl, rfl⟩
    have hp : pz s2 (i + 1) := pz_mono (pz_e (g1.2.2.2.2.2 i hZ) (mfr_e m1)) (Nat.le_succ _)
    have in2 : rx_in s2 := fun r k hr => by rw [m1.2.1]; exact g1.inn hS r k hr
    exact w_icmp_eq (t := 907) dL_law_511 rfl (fun _ => next s2 G2 τ' none L ⟨rx_w R2 (by omega) (by omega), in2, TV_base hV f1, CL_told (CT_e T1 (mfr_e m1)) (GT_e GT1 (mfr_e m1)), ML_told MR2 MT2, hp, by rw [m1.1]; exact (g1.1 2 0 (hS 2 0 rfl)).2, by rw [m1.1]; exact (g1.1 0 0 (hS 0 0 rfl)).2, by rw [m1.1]; exact (g1.1 26 0 (hS 26 0 rfl)).2⟩ hL0) (fun e => absurd rfl e)
set_option maxHeartbeats 2000000 in
theorem lw_link (hE : WE b0 O E) {b len : Nat} {xs : Nat → Int32} (hb : O b = some (.inl (99, len, .inl xs))) (hlt : b < b0) (hlen : len < 2 ^ 31) {n : Nat} (hn : n + 6 ≤ len) {i g0 m0 a0 : Nat} (h : LI b0 O E g0 m0 a0 i s G τ l) {L : mx_L} (hL : LQ b g0 m0 a0 n L) (next : ∀ s' G' τ' l' L', LI b0 O E g0 m0 a0 (i + 1) s' G' τ' l' → LQ b g0 m0 a0 n L' → mx_W (gt_P b0 mi E) mL_law 907 L' [] G' Q) : mx_W (gt_P b0 mi E) mL_law 516 L [] G Q := by
  obtain ⟨R, hS, hV, hC, hM, hZ, rfl, rfl, rfl⟩ := h
  have hL0 := hL
  obtain ⟨l0, l1, l2, l3, l4⟩ := hL
  have hG : G.1 b = some (.inl (99, len, .inl xs)) := (R.2.2.2.2.2.2.2.2 b hlt).trans hb
  refine w_aload_n dL_law_516 l1 ?_
  refine lw_arg (k := 1) dL_law_517 dL_law_518 dL_law_520 dL_law_521 dL_law_522 (by decide) l0 l4 hG (by omega) hlen ?_
  refine lw_bool dL_law_523 dL_law_526 dL_law_527 dL_law_530 ?_
  refine r_inv1 dL_law_531 mt_12_65 R rfl (hS _ _ rfl) rfl (lb rfl) (lb rfl) (lb rfl) (lb rfl) rfl (c9_link R hS hC.1 hV hE (fun s' G' R' g1 C1 => ⟨_, rfl, ?_⟩))
  have hG' : G'.1 b = some (.inl (99, len, .inl xs)) := (R'.2.2.2.2.2.2.2.2 b hlt).trans hb
  have l2' : L 2 = some (.ref (rA s' 0 0)) := by rw [(g1.1 0 0 (hS 0 0 rfl)).2]; exact l2
  refine w_aload_n dL_law_534 l2' ?_
  refine lw_arg (k := 1) dL_law_535 dL_law_536 dL_law_538 dL_law_539 dL_law_540 (by decide) l0 l4 hG' (by omega) hlen ?_
  refine lw_bool dL_law_541 dL_law_544 dL_law_545 dL_law_548 ?_
  refine r_inv1 dL_law_549 mt_12_69 R' rfl (g1.inn hS _ _ rfl) rfl (lb rfl) (lb rfl) (lb rfl) (lb rfl) rfl (c10_link R' (g1.inn hS) (MR_g hM.1 g1.p) hV (fun k hk s2 G2 R2 m1 MR2 e29 e30 e31 e32 => ⟨_, rfl, ?_⟩) (fun hk s2 G2 R2 m1 NF2 e29 e30 e31 e32 hh => ⟨_, rfl, ?_⟩))
  · have hp : pz s2 (i + 1) := pz_mono (pz_e (g1.2.2.2.2.2 i hZ) (mfr_e m1)) (Nat.le_succ _)
    have in2 : rx_in s2 := fun r k hr => by rw [m1.2.1]; exact g1.inn hS r k hr
    exact w_icmp_eq (t := 907) dL_law_552 rfl (fun _ => next s2 G2 τ (some (bz (xs (n + 1)))) L ⟨rx_w R2 (by omega) (by omega), in2, hV, CL_e C1 (mfr_e m1), ML_1 MR2 hk e29 e30 e31 e32, hp, by rw [m1.1]; exact (g1.1 2 0 (hS 2 0 rfl)).2, by rw [m1.1]; exact (g1.1 0 0 (hS 0 0 rfl)).2, by rw [m1.1]; exact (g1.1 26 0 (hS 26 0 rfl)).2⟩ hL0) (fun e => absurd (by unfold a_link; rw [hk]) e)
  · have hp : pz s2 (i + 1) := pz_mono (pz_e (g1.2.2.2.2.2 i hZ) (mfr_e m1)) (Nat.le_succ _)
    have in2 : rx_in s2 := fun r k hr => by rw [m1.2.1]; exact g1.inn hS r k hr
    exact w_icmp_eq (t := 907) dL_law_552 rfl (fun _ => next s2 G2 τ (some (bz (xs (n + 1)))) L ⟨rx_w R2 (by omega) (by omega), in2, hV, CL_e C1 (mfr_e m1), ML_2 NF2 hk e29 e30 e31 e32 hh, hp, by rw [m1.1]; exact (g1.1 2 0 (hS 2 0 rfl)).2, by rw [m1.1]; exact (g1.1 0 0 (hS 0 0 rfl)).2, by rw [m1.1]; exact (g1.1 26 0 (hS 26 0 rfl)).2⟩ hL0) (fun e => absurd (by unfold a_link; rw [hk]) e)
set_option maxHeartbeats 2000000 in
theorem lw_fault (hE : WE b0 O E) {b len : Nat} {xs : Nat → Int32} (hb : O b = some (.inl (99, len, .inl xs))) (hlt : b < b0) (hlen : len < 2 ^ 31) {n : Nat} (hn : n + 6 ≤ len) {i g0 m0 a0 : Nat} (h : LI b0 O E g0 m0 a0 i s G τ l) {L : mx_L} (hL : LQ b g0 m0 a0 n L) (next : ∀ s' G' τ' l' L', LI b0 O E g0 m0 a0 (i + 1) s' G' τ' l' → LQ b g0 m0 a0 n L' → mx_W (gt_P b0 mi E) mL_law 907 L' [] G' Q) : mx_W (gt_P b0 mi E) mL_law 557 L [] G Q := by
  obtain ⟨R, hS, hV, hC, hM, hZ, rfl, rfl, rfl⟩ := h
  have hL0 := hL
  obtain ⟨l0, l1, l2, l3, l4⟩ := hL
  have hG : G.1 b = some (.inl (99, len, .inl xs)) := (R.2.2.2.2.2.2.2.2 b hlt).trans hb
  refine w_aload_n dL_law_557 l1 ?_
  refine r_inv0 dL_law_558 mt_12_70 R rfl (hS _ _ rfl) rfl (lb rfl) (lb rfl) (lb rfl) (lb rfl) rfl (c9_fault R hS hV hC ⟨_, rfl, ?_⟩)
  refine w_aload_n dL_law_561 l2 ?_
  refine r_inv0 dL_law_562 mt_12_73 R rfl (hS _ _ rfl) rfl (lb rfl) (lb rfl) (lb rfl) (lb rfl) rfl (c10_fault R hS hM.2.1 ⟨_, rfl, ?_⟩)
  exact w_icmp_eq (t := 907) dL_law_565 rfl (fun _ => next s G τ l L ⟨rx_w R (by omega) (by omega), hS, hV, hC, hM, pz_mono hZ (Nat.le_succ _), rfl, rfl, rfl⟩ hL0) (fun e => absurd rfl e)
set_option maxHeartbeats 2000000 in
theorem lw_kept (hE : WE b0 O E) {b len : Nat} {xs : Nat → Int32} (hb : O b = some (.inl (99, len, .inl xs))) (hlt : b < b0) (hlen : len < 2 ^ 31) {n : Nat} (hn : n + 6 ≤ len) {i g0 m0 a0 : Nat} (h : LI b0 O E g0 m0 a0 i s G τ l) {L : mx_L} (hL : LQ b g0 m0 a0 n L) (next : ∀ s' G' τ' l' L', LI b0 O E g0 m0 a0 (i + 1) s' G' τ' l' → LQ b g0 m0 a0 n L' → mx_W (gt_P b0 mi E) mL_law 907 L' [] G' Q) : mx_W (gt_P b0 mi E) mL_law 570 L [] G Q := by
  obtain ⟨R, hS, hV, hC, hM, hZ, rfl, rfl, rfl⟩ := h
  have hL0 := hL
  obtain ⟨l0, l1, l2, l3, l4⟩ := hL
  have hG : G.1 b = some (.inl (99, len, .inl xs)) := (R.2.2.2.2.2.2.2.2 b hlt).trans hb
  refine w_aload_n dL_law_570 l1 ?_
  refine lw_arg (k := 1) dL_law_571 dL_law_572 dL_law_574 dL_law_575 dL_law_576 (by decide) l0 l4 hG (by omega) hlen ?_
  refine lw_arg (k := 2) dL_law_577 dL_law_578 dL_law_580 dL_law_581 dL_law_582 (by decide) l0 l4 hG (by omega) hlen ?_
  refine r_inv2 dL_law_583 mt_12_74 R rfl (hS _ _ rfl) rfl (lb rfl) (lb rfl) (lb rfl) (lb rfl) rfl (c9_kept R hS hV hC ⟨_, rfl, ?_⟩)
  refine w_aload_n dL_law_586 l2 ?_
  refine lw_arg (k := 1) dL_law_587 dL_law_588 dL_law_590 dL_law_591 dL_law_592 (by decide) l0 l4 hG (by omega) hlen ?_
  refine lw_arg (k := 2) dL_law_593 dL_law_594 dL_law_596 dL_law_597 dL_law_598 (by decide) l0 l4 hG (by omega) hlen ?_
  refine r_inv2 dL_law_599 mt_12_77 R rfl (hS _ _ rfl) rfl (lb rfl) (lb rfl) (lb rfl) (lb rfl) rfl (c10_kept R hS hV hM ⟨_, rfl, ?_⟩)
  exact w_icmp_eq (t := 907) dL_law_602 rfl (fun _ => next s G τ l L ⟨rx_w R (by omega) (by omega), hS, hV, hC, hM, pz_mono hZ (Nat.le_succ _), rfl, rfl, rfl⟩ hL0) (fun e => absurd rfl e)
set_option maxHeartbeats 2000000 in
theorem lw_veneers (hE : WE b0 O E) {b len : Nat} {xs : Nat → Int32} (hb : O b = some (.inl (99, len, .inl xs))) (hlt : b < b0) (hlen : len < 2 ^ 31) {n : Nat} (hn : n + 6 ≤ len) {i g0 m0 a0 : Nat} (h : LI b0 O E g0 m0 a0 i s G τ l) {L : mx_L} (hL : LQ b g0 m0 a0 n L) (next : ∀ s' G' τ' l' L', LI b0 O E g0 m0 a0 (i + 1) s' G' τ' l' → LQ b g0 m0 a0 n L' → mx_W (gt_P b0 mi E) mL_law 907 L' [] G' Q) : mx_W (gt_P b0 mi E) mL_law 857 L [] G Q := by
  obtain ⟨R, hS, hV, hC, hM, hZ, rfl, rfl, rfl⟩ := h
  have hL0 := hL
  obtain ⟨l0, l1, l2, l3, l4⟩ := hL
  have hG : G.1 b = some (.inl (99, len, .inl xs)) := (R.2.2.2.2.2.2.2.2 b hlt).trans hb
  refine w_aload_n dL_law_857 l1 ?_
  refine lw_arg (k := 1) dL_law_858 dL_law_859 dL_law_861 dL_law_862 dL_law_863 (by decide) l0 l4 hG (by omega) hlen ?_
  refine r_inv1 dL_law_864 mt_12_101 R rfl (hS _ _ rfl) rfl (lb rfl) (lb rfl) (lb rfl) (lb rfl) rfl (c9_veneers R hS hV hC ⟨_, rfl, ?_⟩)
  refine w_aload_n dL_law_867 l2 ?_
  refine lw_arg (k := 1) dL_law_868 dL_law_869 dL_law_871 dL_law_872 dL_law_873 (by decide) l0 l4 hG (by omega) hlen ?_
  refine r_inv1 dL_law_874 mt_12_104 R rfl (hS _ _ rfl) rfl (lb rfl) (lb rfl) (lb rfl) (lb rfl) rfl (c10_veneers R hS hV hM ⟨_, rfl, ?_⟩)
  exact w_icmp_eq (t := 907) dL_law_877 rfl (fun _ => next s G τ l L ⟨rx_w R (by omega) (by omega), hS, hV, hC, hM, pz_mono hZ (Nat.le_succ _), rfl, rfl, rfl⟩ hL0) (fun e => absurd rfl e)
set_option maxHeartbeats 2000000 in
theorem lw_count (hE : WE b0 O E) {b len : Nat} {xs : Nat → Int32} (hb : O b = some (.inl (99, len, .inl xs))) (hlt : b < b0) (hlen : len < 2 ^ 31) {n : Nat} (hn : n + 6 ≤ len) {i g0 m0 a0 : Nat} (h : LI b0 O E g0 m0 a0 i s G τ l) {L : mx_L} (hL : LQ b g0 m0 a0 n L) (next : ∀ s' G' τ' l' L', LI b0 O E g0 m0 a0 (i + 1) s' G' τ' l' → LQ b g0 m0 a0 n L' → mx_W (gt_P b0 mi E) mL_law 907 L' [] G' Q) : mx_W (gt_P b0 mi E) mL_law 882 L [] G Q := by
  obtain ⟨R, hS, hV, hC, hM, hZ, rfl, rfl, rfl⟩ := h
  have hL0 := hL
  obtain ⟨l0, l1, l2, l3, l4⟩ := hL
  have hG : G.1 b = some (.inl (99, len, .inl xs)) := (R.2.2.2.2.2.2.2.2 b hlt).trans hb
  refine w_aload_n dL_law_882 l1 ?_
  refine lw_arg (k := 1) dL_law_883 dL_law_884 dL_law_886 dL_law_887 dL_law_888 (by decide) l0 l4 hG (by omega) hlen ?_
  refine r_inv1 dL_law_889 mt_12_105 R rfl (hS _ _ rfl) rfl (lb rfl) (lb rfl) (lb rfl) (lb rfl) rfl (c9_count R hS hV hC ⟨_, rfl, ?_⟩)
  refine w_aload_n dL_law_892 l2 ?_
  refine lw_arg (k := 1) dL_law_893 dL_law_894 dL_law_896 dL_law_897 dL_law_898 (by decide) l0 l4 hG (by omega) hlen ?_
  refine r_inv1 dL_law_899 mt_12_108 R rfl (hS _ _ rfl) rfl (lb rfl) (lb rfl) (lb rfl) (lb rfl) rfl (c10_count R hS hV hM ⟨_, rfl, ?_⟩)
  exact w_icmp_eq (t := 907) dL_law_902 rfl (fun _ => next s G τ l L ⟨rx_w R (by omega) (by omega), hS, hV, hC, hM, pz_mono hZ (Nat.le_succ _), rfl, rfl, rfl⟩ hL0) (fun e => absurd rfl e)
set_option maxHeartbeats 2000000 in
theorem lw_octet (hE : WE b0 O E) {b len : Nat} {xs : Nat → Int32} (hb : O b = some (.inl (99, len, .inl xs))) (hlt : b < b0) (hlen : len < 2 ^ 31) {n : Nat} (hn : n + 6 ≤ len) {i g0 m0 a0 : Nat} (h : LI b0 O E g0 m0 a0 i s G τ l) {L : mx_L} (hL : LQ b g0 m0 a0 n L) (next : ∀ s' G' τ' l' L', LI b0 O E g0 m0 a0 (i + 1) s' G' τ' l' → LQ b g0 m0 a0 n L' → mx_W (gt_P b0 mi E) mL_law 907 L' [] G' Q) : mx_W (gt_P b0 mi E) mL_law 717 L [] G Q := by
  obtain ⟨R, hS, hV, hC, hM, hZ, rfl, rfl, rfl⟩ := h
  have hL0 := hL
  obtain ⟨l0, l1, l2, l3, l4⟩ := hL
  have hG : G.1 b = some (.inl (99, len, .inl xs)) := (R.2.2.2.2.2.2.2.2 b hlt).trans hb
  refine w_aload_n dL_law_717 l1 ?_
  refine lw_arg (k := 1) dL_law_718 dL_law_719 dL_law_721 dL_law_722 dL_law_723 (by decide) l0 l4 hG (by omega) hlen ?_
  refine w_i2l dL_law_724 ?_
  refine w_bipush (v := nI 32) dL_law_725 (by decide) ?_
  refine w_lshl dL_law_727 ?_
  refine lw_arg (k := 2) dL_law_728 dL_law_729 dL_law_731 dL_law_732 dL_law_733 (by decide) l0 l4 hG (by omega) hlen ?_
  refine w_i2l dL_law_734 ?_
  refine w_ldc2 dL_law_735 ct_12_90 ?_
  refine w_land dL_law_738 ?_
  refine w_lor dL_law_739 ?_
  refine r_inv1 dL_law_740 mt_12_92 R rfl (hS _ _ rfl) rfl (lb rfl) (lb rfl) (lb rfl) (lb rfl) rfl (c9_octet R hS hV hC hE ⟨_, rfl, ?_⟩)
  refine w_aload_n dL_law_743 l2 ?_
  refine lw_arg (k := 1) dL_law_744 dL_law_745 dL_law_747 dL_law_748 dL_law_749 (by decide) l0 l4 hG (by omega) hlen ?_
  refine w_i2l dL_law_750 ?_
  refine w_bipush (v := nI 32) dL_law_751 (by decide) ?_
  refine w_lshl dL_law_753 ?_
  refine lw_arg (k := 2) dL_law_754 dL_law_755 dL_law_757 dL_law_758 dL_law_759 (by decide) l0 l4 hG (by omega) hlen ?_
  refine w_i2l dL_law_760 ?_
  refine w_ldc2 dL_law_761 ct_12_90 ?_
  refine w_land dL_law_764 ?_
  refine w_lor dL_law_765 ?_
  refine r_inv1 dL_law_766 mt_12_96 R rfl (hS _ _ rfl) rfl (lb rfl) (lb rfl) (lb rfl) (lb rfl) rfl (c10_octet R hS hV hM ⟨_, rfl, ?_⟩)
  exact w_icmp_eq (t := 907) dL_law_769 rfl (fun _ => next s G τ l L ⟨rx_w R (by omega) (by omega), hS, hV, hC, hM, pz_mono hZ (Nat.le_succ _), rfl, rfl, rfl⟩ hL0) (fun e => absurd rfl e)
set_option maxHeartbeats 2000000 in
theorem lw_place2 (hE : WE b0 O E) {b len : Nat} {xs : Nat → Int32} (hb : O b = some (.inl (99, len, .inl xs))) (hlt : b < b0) (hlen : len < 2 ^ 31) {n : Nat} (hn : n + 6 ≤ len) {i g0 m0 a0 : Nat} (R : rx_R b0 O (b0 + 61 + 61 * i) (67424 + 6006 * i) s G) (hS : rx_in s) (hV : TV τ) (hC : CL E s τ l) (hM : ML s τ l) (hZ : pz s i) (e2 : rA s 2 0 = g0) (e0 : rA s 0 0 = m0) (e26 : rA s 26 0 = a0) {x : Int32} (hx : x = t_place τ l (xs (n + 1))) (hr : t_place τ l (xs (n + 1)) = 0 → rL s 26 0 0 = a_place τ l (xs (n + 1))) {L : mx_L} (hL : LQ b g0 m0 a0 n L) (next : ∀ s' G' τ' l' L', LI b0 O E g0 m0 a0 (i + 1) s' G' τ' l' → LQ b g0 m0 a0 n L' → mx_W (gt_P b0 mi E) mL_law 907 L' [] G' Q) : mx_W (gt_P b0 mi E) mL_law 618 L [.int x] G Q := by
  subst e2 e0 e26
  obtain ⟨l0, l1, l2, l3, l4⟩ := hL
  have hG : G.1 b = some (.inl (99, len, .inl xs)) := (R.2.2.2.2.2.2.2.2 b hlt).trans hb
  refine w_istore dL_law_618 (lb rfl) ?_
  refine w_aload_n dL_law_620 l2 ?_
  refine lw_arg (k := 1) dL_law_621 dL_law_622 dL_law_624 dL_law_625 dL_law_626 (by decide) l0 l4 hG (by omega) hlen ?_
  refine r_inv1 dL_law_627 mt_12_83 R rfl (hS _ _ rfl) rfl (lb rfl) (lb rfl) (lb rfl) (lb rfl) rfl (c10_place R hS hV hM (fun v G' R' hv => ⟨_, rfl, ?_⟩))
  refine w_lstore dL_law_630 (lb rfl) rfl ?_
  refine w_aload_n dL_law_632 l2 ?_
  refine r_inv0 dL_law_633 mt_12_84 R' rfl (hS _ _ rfl) rfl (lb rfl) (lb rfl) (lb rfl) (lb rfl) rfl (c10_thrown (s := sX s 0 0 0 (.inl (.int (t_place τ l (xs (n + 1)))))) R' hS sX_s ⟨_, rfl, ?_⟩)
  refine w_iload dL_law_636 rfl ?_
  have nx := fun L' hL' => next (sX s 0 0 0 (.inl (.int (t_place τ l (xs (n + 1)))))) G' τ l L' ⟨rx_w R' (show _ ≤ b0 + 60 + 61 * (i + 1) by omega) (show _ ≤ 67418 + 6006 * (i + 1) by omega), hS, hV, CL_e hC sX0_e, ML_0 hM, pz_mono (pz_X hZ) (Nat.le_succ _), rfl, rfl, rfl⟩ hL'
  refine w_icmp_eq (t := 643) dL_law_638 rfl (fun _ => ?_) (fun e => absurd hx.symm e)
  refine w_iload dL_law_643 rfl ?_
  refine r_if_neP (t := 659) dL_law_645 rfl (fun e => ?_) (fun e => ?_)
  · exact w_goto (t := 907) dL_law_659 rfl (nx _ ⟨l0, l1, l2, l3, l4⟩)
  · have ht : t_place τ l (xs (n + 1)) = 0 := hx.symm.trans e
    refine w_aload_n dL_law_648 l3 ?_
    refine w_iconst (v := nI 0) dL_law_649 (by decide) ?_
    refine r_lald (r := 26) (i := 0) dL_law_650 R' rfl (hS _ _ rfl) rfl rfl (lb rfl) (lb rfl) (show rL s 26 0 0 = _ from hr ht) ?_
    refine w_lload dL_law_651 rfl ?_
    rw [hv ht]
    refine r_lc_eq (t := 659) dL_law_653 dL_law_654 rfl (fun _ => ?_) (fun e => absurd rfl e)
    exact w_goto (t := 907) dL_law_659 rfl (nx _ ⟨l0, l1, l2, l3, l4⟩)
set_option maxHeartbeats 2000000 in
theorem lw_place (hE : WE b0 O E) {b len : Nat} {xs : Nat → Int32} (hb : O b = some (.inl (99, len, .inl xs))) (hlt : b < b0) (hlen : len < 2 ^ 31) {n : Nat} (hn : n + 6 ≤ len) {i g0 m0 a0 : Nat} (h : LI b0 O E g0 m0 a0 i s G τ l) {L : mx_L} (hL : LQ b g0 m0 a0 n L) (next : ∀ s' G' τ' l' L', LI b0 O E g0 m0 a0 (i + 1) s' G' τ' l' → LQ b g0 m0 a0 n L' → mx_W (gt_P b0 mi E) mL_law 907 L' [] G' Q) : mx_W (gt_P b0 mi E) mL_law 607 L [] G Q := by
  obtain ⟨R, hS, hV, hC, hM, hZ, rfl, rfl, rfl⟩ := h
  have hL0 := hL
  obtain ⟨l0, l1, l2, l3, l4⟩ := hL
  have hG : G.1 b = some (.inl (99, len, .inl xs)) := (R.2.2.2.2.2.2.2.2 b hlt).trans hb
  refine w_aload_n dL_law_607 l1 ?_
  refine lw_arg (k := 1) dL_law_608 dL_law_609 dL_law_611 dL_law_612 dL_law_613 (by decide) l0 l4 hG (by omega) hlen ?_
  refine w_aload_n dL_law_614 l3 ?_
  refine w_try [xs (n + 1)] dL_law_615 rfl rfl rfl (lb rfl) (R.1 26 0 (hS 26 0 rfl)).2.1 (rx_arr R (hS 26 0 rfl) rfl rfl) rfl mt_12_7 rfl rfl (rx_obj R (hS 2 0 rfl) rfl) (c9_place R hS hV hC (fun e => ⟨_, rx_arr R (hS 26 0 rfl) rfl rfl, ?_⟩) (fun e => ⟨Or.inl rfl, ?_⟩) (fun e => ⟨Or.inr rfl, ?_⟩))
  · have R1 := rx_L (f := 0) (w := a_place τ l (xs (n + 1))) R (hS 26 0 rfl) rfl rfl
    exact lw_place2 (s := sL s 26 0 0 (a_place τ l (xs (n + 1)))) hE hb hlt hlen hn (rx_w R1 (show _ ≤ b0 + 61 + 61 * i by omega) (show _ ≤ 67424 + 6006 * i by omega)) hS hV (CL_e hC sL26_e) (ML_L hM) hZ rfl rfl rfl e.symm (fun _ => sL_at.trans (if_pos rfl)) hL0 next
  · exact lw_place2 hE hb hlt hlen hn (rx_w (rx_pv R) (by omega) (by omega)) hS hV hC hM hZ rfl rfl rfl e.symm (fun z => by rw [e] at z; exact absurd z (by decide)) hL0 next
  · exact lw_place2 hE hb hlt hlen hn (rx_w (rx_pv R) (by omega) (by omega)) hS hV hC hM hZ rfl rfl rfl e.symm (fun z => by rw [e] at z; exact absurd z (by decide)) hL0 next
set_option maxHeartbeats 2000000 in
theorem lw_value2 (hE : WE b0 O E) {b len : Nat} {xs : Nat → Int32} (hb : O b = some (.inl (99, len, .inl xs))) (hlt : b < b0) (hlen : len < 2 ^ 31) {n : Nat} (hn : n + 6 ≤ len) {i g0 m0 a0 : Nat} (R : rx_R b0 O (b0 + 61 + 61 * i) (67424 + 6006 * i) s G) (hS : rx_in s) (hV : TV τ) (hC : CL E s τ l) (hM : ML s τ l) (hZ : pz s i) (e2 : rA s 2 0 = g0) (e0 : rA s 0 0 = m0) (e26 : rA s 26 0 = a0) {x : Int32} (hx : x = t_value τ l (xs (n + 1))) (hr : t_value τ l (xs (n + 1)) = 0 → rL s 26 0 0 = a_value τ l (xs (n + 1))) {L : mx_L} (hL : LQ b g0 m0 a0 n L) (next : ∀ s' G' τ' l' L', LI b0 O E g0 m0 a0 (i + 1) s' G' τ' l' → LQ b g0 m0 a0 n L' → mx_W (gt_P b0 mi E) mL_law 907 L' [] G' Q) : mx_W (gt_P b0 mi E) mL_law 673 L [.int x] G Q := by
  subst e2 e0 e26
  obtain ⟨l0, l1, l2, l3, l4⟩ := hL
  have hG : G.1 b = some (.inl (99, len, .inl xs)) := (R.2.2.2.2.2.2.2.2 b hlt).trans hb
  refine w_istore dL_law_673 (lb rfl) ?_
  refine w_aload_n dL_law_675 l2 ?_
  refine lw_arg (k := 1) dL_law_676 dL_law_677 dL_law_679 dL_law_680 dL_law_681 (by decide) l0 l4 hG (by omega) hlen ?_
  refine r_inv1 dL_law_682 mt_12_89 R rfl (hS _ _ rfl) rfl (lb rfl) (lb rfl) (lb rfl) (lb rfl) rfl (c10_value R hS hV hM (fun v G' R' hv => ⟨_, rfl, ?_⟩))
  refine w_lstore dL_law_685 (lb rfl) rfl ?_
  refine w_aload_n dL_law_687 l2 ?_
  refine r_inv0 dL_law_688 mt_12_84 R' rfl (hS _ _ rfl) rfl (lb rfl) (lb rfl) (lb rfl) (lb rfl) rfl (c10_thrown (s := sX s 0 0 0 (.inl (.int (t_value τ l (xs (n + 1)))))) R' hS sX_s ⟨_, rfl, ?_⟩)
  refine w_iload dL_law_691 rfl ?_
  have nx := fun L' hL' => next (sX s 0 0 0 (.inl (.int (t_value τ l (xs (n + 1)))))) G' τ l L' ⟨rx_w R' (show _ ≤ b0 + 60 + 61 * (i + 1) by omega) (show _ ≤ 67418 + 6006 * (i + 1) by omega), hS, hV, CL_e hC sX0_e, ML_0 hM, pz_mono (pz_X hZ) (Nat.le_succ _), rfl, rfl, rfl⟩ hL'
  refine w_icmp_eq (t := 698) dL_law_693 rfl (fun _ => ?_) (fun e => absurd hx.symm e)
  refine w_iload dL_law_698 rfl ?_
  refine r_if_neP (t := 714) dL_law_700 rfl (fun e => ?_) (fun e => ?_)
  · exact w_goto (t := 907) dL_law_714 rfl (nx _ ⟨l0, l1, l2, l3, l4⟩)
  · have ht : t_value τ l (xs (n + 1)) = 0 := hx.symm.trans e
    refine w_aload_n dL_law_703 l3 ?_
    refine w_iconst (v := nI 0) dL_law_704 (by decide) ?_
    refine r_lald (r := 26) (i := 0) dL_law_705 R' rfl (hS _ _ rfl) rfl rfl (lb rfl) (lb rfl) (show rL s 26 0 0 = _ from hr ht) ?_
    refine w_lload dL_law_706 rfl ?_
    rw [hv ht]
    refine r_lc_eq (t := 714) dL_law_708 dL_law_709 rfl (fun _ => ?_) (fun e => absurd rfl e)
    exact w_goto (t := 907) dL_law_714 rfl (nx _ ⟨l0, l1, l2, l3, l4⟩)
set_option maxHeartbeats 2000000 in
theorem lw_value (hE : WE b0 O E) {b len : Nat} {xs : Nat → Int32} (hb : O b = some (.inl (99, len, .inl xs))) (hlt : b < b0) (hlen : len < 2 ^ 31) {n : Nat} (hn : n + 6 ≤ len) {i g0 m0 a0 : Nat} (h : LI b0 O E g0 m0 a0 i s G τ l) {L : mx_L} (hL : LQ b g0 m0 a0 n L) (next : ∀ s' G' τ' l' L', LI b0 O E g0 m0 a0 (i + 1) s' G' τ' l' → LQ b g0 m0 a0 n L' → mx_W (gt_P b0 mi E) mL_law 907 L' [] G' Q) : mx_W (gt_P b0 mi E) mL_law 662 L [] G Q := by
  obtain ⟨R, hS, hV, hC, hM, hZ, rfl, rfl, rfl⟩ := h
  have hL0 := hL
  obtain ⟨l0, l1, l2, l3, l4⟩ := hL
  have hG : G.1 b = some (.inl (99, len, .inl xs)) := (R.2.2.2.2.2.2.2.2 b hlt).trans hb
  refine w_aload_n dL_law_662 l1 ?_
  refine lw_arg (k := 1) dL_law_663 dL_law_664 dL_law_666 dL_law_667 dL_law_668 (by decide) l0 l4 hG (by omega) hlen ?_
  refine w_aload_n dL_law_669 l3 ?_
  refine w_try [xs (n + 1)] dL_law_670 rfl rfl rfl (lb rfl) (R.1 26 0 (hS 26 0 rfl)).2.1 (rx_arr R (hS 26 0 rfl) rfl rfl) rfl mt_12_17 rfl rfl (rx_obj R (hS 2 0 rfl) rfl) (c9_value R hS hV hC (fun e => ⟨_, rx_arr R (hS 26 0 rfl) rfl rfl, ?_⟩) (fun e => ⟨Or.inl rfl, ?_⟩) (fun e => ⟨Or.inr rfl, ?_⟩))
  · have R1 := rx_L (f := 0) (w := a_value τ l (xs (n + 1))) R (hS 26 0 rfl) rfl rfl
    exact lw_value2 (s := sL s 26 0 0 (a_value τ l (xs (n + 1)))) hE hb hlt hlen hn (rx_w R1 (show _ ≤ b0 + 61 + 61 * i by omega) (show _ ≤ 67424 + 6006 * i by omega)) hS hV (CL_e hC sL26_e) (ML_L hM) hZ rfl rfl rfl e.symm (fun _ => sL_at.trans (if_pos rfl)) hL0 next
  · exact lw_value2 hE hb hlt hlen hn (rx_w (rx_pv R) (by omega) (by omega)) hS hV hC hM hZ rfl rfl rfl e.symm (fun z => by rw [e] at z; exact absurd z (by decide)) hL0 next
  · exact lw_value2 hE hb hlt hlen hn (rx_w (rx_pv R) (by omega) (by omega)) hS hV hC hM hZ rfl rfl rfl e.symm (fun z => by rw [e] at z; exact absurd z (by decide)) hL0 next
set_option maxHeartbeats 2000000 in
theorem lw_range2 (hE : WE b0 O E) {b len : Nat} {xs : Nat → Int32} (hb : O b = some (.inl (99, len, .inl xs))) (hlt : b < b0) (hlen : len < 2 ^ 31) {n : Nat} (hn : n + 6 ≤ len) {i g0 m0 a0 : Nat} (R : rx_R b0 O (b0 + 61 + 61 * i) (67424 + 6006 * i) s G) (hS : rx_in s) (hV : TV τ) (hC : CL E s τ l) (hM : ML s τ l) (hZ : pz s i) (e2 : rA s 2 0 = g0) (e0 : rA s 0 0 = m0) (e26 : rA s 26 0 = a0) {x : Int32} (hx : x = t_range τ l (xs (n + 1))) (hr : t_range τ l (xs (n + 1)) = 0 → rL s 26 0 0 = a_range τ l (xs (n + 1)) (bz (xs (n + 2)))) {L : mx_L} (hL : LQ b g0 m0 a0 n L) (next : ∀ s' G' τ' l' L', LI b0 O E g0 m0 a0 (i + 1) s' G' τ' l' → LQ b g0 m0 a0 n L' → mx_W (gt_P b0 mi E) mL_law 907 L' [] G' Q) : mx_W (gt_P b0 mi E) mL_law 799 L [.int x] G Q := by
  subst e2 e0 e26
  obtain ⟨l0, l1, l2, l3, l4⟩ := hL
  have hG : G.1 b = some (.inl (99, len, .inl xs)) := (R.2.2.2.2.2.2.2.2 b hlt).trans hb
  refine w_istore dL_law_799 (lb rfl) ?_
  refine w_aload_n dL_law_801 l2 ?_
  refine lw_arg (k := 1) dL_law_802 dL_law_803 dL_law_805 dL_law_806 dL_law_807 (by decide) l0 l4 hG (by omega) hlen ?_
  refine lw_arg (k := 2) dL_law_808 dL_law_809 dL_law_811 dL_law_812 dL_law_813 (by decide) l0 l4 hG (by omega) hlen ?_
  refine lw_bool dL_law_814 dL_law_817 dL_law_818 dL_law_821 ?_
  refine r_inv2 dL_law_822 mt_12_100 R rfl (hS _ _ rfl) rfl (lb rfl) (lb rfl) (lb rfl) (lb rfl) rfl (c10_range R hS hV hM (fun v G' R' hv => ⟨_, rfl, ?_⟩))
  refine w_lstore dL_law_825 (lb rfl) rfl ?_
  refine w_aload_n dL_law_827 l2 ?_
  refine r_inv0 dL_law_828 mt_12_84 R' rfl (hS _ _ rfl) rfl (lb rfl) (lb rfl) (lb rfl) (lb rfl) rfl (c10_thrown (s := sX s 0 0 0 (.inl (.int (t_range τ l (xs (n + 1)))))) R' hS sX_s ⟨_, rfl, ?_⟩)
  refine w_iload dL_law_831 rfl ?_
  have nx := fun L' hL' => next (sX s 0 0 0 (.inl (.int (t_range τ l (xs (n + 1)))))) G' τ l L' ⟨rx_w R' (show _ ≤ b0 + 60 + 61 * (i + 1) by omega) (show _ ≤ 67418 + 6006 * (i + 1) by omega), hS, hV, CL_e hC sX0_e, ML_0 hM, pz_mono (pz_X hZ) (Nat.le_succ _), rfl, rfl, rfl⟩ hL'
  refine w_icmp_eq (t := 838) dL_law_833 rfl (fun _ => ?_) (fun e => absurd hx.symm e)
  refine w_iload dL_law_838 rfl ?_
  refine r_if_neP (t := 854) dL_law_840 rfl (fun e => ?_) (fun e => ?_)
  · exact w_goto (t := 907) dL_law_854 rfl (nx _ ⟨l0, l1, l2, l3, l4⟩)
  · have ht : t_range τ l (xs (n + 1)) = 0 := hx.symm.trans e
    refine w_aload_n dL_law_843 l3 ?_
    refine w_iconst (v := nI 0) dL_law_844 (by decide) ?_
    refine r_lald (r := 26) (i := 0) dL_law_845 R' rfl (hS _ _ rfl) rfl rfl (lb rfl) (lb rfl) (show rL s 26 0 0 = _ from hr ht) ?_
    refine w_lload dL_law_846 rfl ?_
    rw [hv ht]
    refine r_lc_eq (t := 854) dL_law_848 dL_law_849 rfl (fun _ => ?_) (fun e => absurd rfl e)
    exact w_goto (t := 907) dL_law_854 rfl (nx _ ⟨l0, l1, l2, l3, l4⟩)
set_option maxHeartbeats 2000000 in
theorem lw_range (hE : WE b0 O E) {b len : Nat} {xs : Nat → Int32} (hb : O b = some (.inl (99, len, .inl xs))) (hlt : b < b0) (hlen : len < 2 ^ 31) {n : Nat} (hn : n + 6 ≤ len) {i g0 m0 a0 : Nat} (h : LI b0 O E g0 m0 a0 i s G τ l) {L : mx_L} (hL : LQ b g0 m0 a0 n L) (next : ∀ s' G' τ' l' L', LI b0 O E g0 m0 a0 (i + 1) s' G' τ' l' → LQ b g0 m0 a0 n L' → mx_W (gt_P b0 mi E) mL_law 907 L' [] G' Q) : mx_W (gt_P b0 mi E) mL_law 774 L [] G Q := by
  obtain ⟨R, hS, hV, hC, hM, hZ, rfl, rfl, rfl⟩ := h
  have hL0 := hL
  obtain ⟨l0, l1, l2, l3, l4⟩ := hL
  have hG : G.1 b = some (.inl (99, len, .inl xs)) := (R.2.2.2.2.2.2.2.2 b hlt).trans hb
  refine w_aload_n dL_law_774 l1 ?_
  refine lw_arg (k := 1) dL_law_775 dL_law_776 dL_law_778 dL_law_779 dL_law_780 (by decide) l0 l4 hG (by omega) hlen ?_
  refine lw_arg (k := 2) dL_law_781 dL_law_782 dL_law_784 dL_law_785 dL_law_786 (by decide) l0 l4 hG (by omega) hlen ?_
  refine lw_bool dL_law_787 dL_law_790 dL_law_791 dL_law_794 ?_
  refine w_aload_n dL_law_795 l3 ?_
  refine w_try [xs (n + 1), b32 (bz (xs (n + 2)))] dL_law_796 rfl rfl rfl (lb rfl) (R.1 26 0 (hS 26 0 rfl)).2.1 (rx_arr R (hS 26 0 rfl) rfl rfl) rfl mt_12_20 rfl rfl (rx_obj R (hS 2 0 rfl) rfl) (c9_range R hS hV hC (fun e => ⟨_, rx_arr R (hS 26 0 rfl) rfl rfl, ?_⟩) (fun e => ⟨Or.inl rfl, ?_⟩) (fun e => ⟨Or.inr rfl, ?_⟩))
  · have R1 := rx_L (f := 0) (w := a_range τ l (xs (n + 1)) (bz (xs (n + 2)))) R (hS 26 0 rfl) rfl rfl
    exact lw_range2 (s := sL s 26 0 0 (a_range τ l (xs (n + 1)) (bz (xs (n + 2))))) hE hb hlt hlen hn (rx_w R1 (show _ ≤ b0 + 61 + 61 * i by omega) (show _ ≤ 67424 + 6006 * i by omega)) hS hV (CL_e hC sL26_e) (ML_L hM) hZ rfl rfl rfl e.symm (fun _ => sL_at.trans (if_pos rfl)) hL0 next
  · exact lw_range2 hE hb hlt hlen hn (rx_w (rx_pv R) (by omega) (by omega)) hS hV hC hM hZ rfl rfl rfl e.symm (fun z => by rw [e] at z; exact absurd z (by decide)) hL0 next
  · exact lw_range2 hE hb hlt hlen hn (rx_w (rx_pv R) (by omega) (by omega)) hS hV hC hM hZ rfl rfl rfl e.symm (fun z => by rw [e] at z; exact absurd z (by decide)) hL0 next
end
