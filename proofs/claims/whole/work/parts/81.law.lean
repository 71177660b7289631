set_option maxHeartbeats 8000000 in
set_option maxRecDepth 100000 in
theorem law_loop {K : Kx} {Am : Nat → Nat} {b L : Nat} {xs : Nat → Int32} {Rl : Mm → Mm → Prop} (C : CxL K Am cL_law RL 4 10 (some .boolean)) (hX : va_X b L xs (ks K) (ks K).heap) (hbl : b < (ks K).heap.size) (hbA : ¬ kA K b) (hL : L ≤ 2560) (hSim : SimOK Rl) (hRt : ∀ ρ, kRt K (some (.int 1)) ρ) :
    ∀ (n j : Nat) (σ τ : Mm), Rl σ τ → j ≤ L + 5 → L + 6 ≤ j + n → Gj K (mx σ τ) 18 [(0, .ref b), (1, .ref (kAd K 0)), (2, .ref (Am 0)), (3, .int (nI j))] [] := by
  have B := C.1
  intro n
  induction n with
  | zero =>
    intro j σ τ hR h1 h2
    omega
  | succ n ih =>
    intro j σ τ hR h1 h2
    refine g_iload_n B dL_law_18 rfl 3 rfl ?_
    refine g_aload_n B dL_law_19 rfl 0 rfl ?_
    refine g_slen B hX hbl hbA dL_law_20 ?_
    refine g_iconst (v := 5) B dL_law_21 (by decide) ?_
    refine g_isub B dL_law_22 ?_
    refine g_icmp_gt (tgt := 706) B dL_law_23 (by decide) (fun c0 => ?_) (fun c0 => ?_)
    · refine g_iconst (v := 1) B dL_law_706 (by decide) ?_
      exact g_iret B rfl rfl dL_law_707 (hRt _)
    · have hj5 : j + 5 ≤ L := law_le hL (by omega) c0
      have hend : ∀ σ9 τ9 : Mm, Rl σ9 τ9 → Gj K (mx σ9 τ9) 700 [(0, .ref b), (1, .ref (kAd K 0)), (2, .ref (Am 0)), (3, .int (nI j))] [] := by
        intro σ9 τ9 hR9
        refine g_iinc B (nI j + 5) [(0, .ref b), (1, .ref (kAd K 0)), (2, .ref (Am 0)), (3, .int (nI j + 5))] dL_law_700 3 rfl rfl (by decide) [1, 2, 3, 0] rfl ?_
        refine g_goto (tgt := 18) B dL_law_703 (by decide) ?_
        have e5 : nI j + 5 = nI (j + 5) := nI_add j 5
        rw [e5]
        exact ih (j + 5) σ9 τ9 hR9 (by omega) (by omega)
      have hv0 : vp_in (nI j) L := vp_in_nI (by omega) (by omega)
      have hv1 : vp_in (nI j + 1) L := by rw [show nI j + 1 = nI (j + 1) from nI_add j 1]; exact vp_in_nI (by omega) (by omega)
      have hv2 : vp_in (nI j + 2) L := by rw [show nI j + 2 = nI (j + 2) from nI_add j 2]; exact vp_in_nI (by omega) (by omega)
      have hv3 : vp_in (nI j + 3) L := by rw [show nI j + 3 = nI (j + 3) from nI_add j 3]; exact vp_in_nI (by omega) (by omega)
      have hv4 : vp_in (nI j + 4) L := by rw [show nI j + 4 = nI (j + 4) from nI_add j 4]; exact vp_in_nI (by omega) (by omega)
      refine g_aload_n B dL_law_26 rfl 0 rfl ?_
      refine g_iload_n B dL_law_27 rfl 3 rfl ?_
      refine g_sld B hX hbl hbA hv0 dL_law_28 ?_
      refine g_bipush (v := 15) B dL_law_29 (by decide) ?_
      refine g_iand B dL_law_31 ?_
      obtain ⟨cN, hcN, ec⟩ := pk_andE (xs (nI j).toNatClampNeg) (m := 15) 4 (by decide)
      match cN, hcN, ec with
      | 0, _, ec =>
        refine g_tabIn (v := 0) (tgt := 112) (off := 80) B ec dL_law_32 (by decide) (by decide) (by decide) (by decide) ?_
        obtain ⟨σ9, τ9, r9, hc1, hc2, hR9⟩ := hSim.1 σ τ (xs (nI j + 1).toNatClampNeg) (xs (nI j + 2).toNatClampNeg) hR
        refine g_aload_n B dL_law_112 rfl 1 rfl ?_
        refine g_aload_n B dL_law_113 rfl 0 rfl ?_
        refine g_iload_n B dL_law_114 rfl 3 rfl ?_
        refine g_iconst (v := 1) B dL_law_115 (by decide) ?_
        refine g_iadd B dL_law_116 ?_
        refine g_sld B hX hbl hbA hv1 dL_law_117 ?_
        refine g_aload_n B dL_law_118 rfl 0 rfl ?_
        refine g_iload_n B dL_law_119 rfl 3 rfl ?_
        refine g_iconst (v := 2) B dL_law_120 (by decide) ?_
        refine g_iadd B dL_law_121 ?_
        refine g_sld B hX hbl hbA hv2 dL_law_122 ?_
        refine gl_cC (rest := []) C (c_X5_tune _ _ _ _ _ _ hc1) mo_X5_tune wm_RL_13 (by decide) rfl rfl rfl (Nat.le_of_ble_eq_true rfl) dL_law_123 ?_
        refine g_aload_n B dL_law_126 rfl 2 rfl ?_
        refine g_aload_n B dL_law_127 rfl 0 rfl ?_
        refine g_iload_n B dL_law_128 rfl 3 rfl ?_
        refine g_iconst (v := 1) B dL_law_129 (by decide) ?_
        refine g_iadd B dL_law_130 ?_
        refine g_sld B hX hbl hbA hv1 dL_law_131 ?_
        refine g_aload_n B dL_law_132 rfl 0 rfl ?_
        refine g_iload_n B dL_law_133 rfl 3 rfl ?_
        refine g_iconst (v := 2) B dL_law_134 (by decide) ?_
        refine g_iadd B dL_law_135 ?_
        refine g_sld B hX hbl hbA hv2 dL_law_136 ?_
        refine gl_cM (rest := [.int r9]) C (c_X6_tune _ _ _ _ hc2) mo_X6_tune wm_RL_17 (by decide) rfl rfl rfl (Nat.le_of_ble_eq_true rfl) dL_law_137 ?_
        refine g_icmp_eq (tgt := 700) B dL_law_140 (by decide) (fun c9 => ?_) (fun c9 => absurd rfl c9)
        exact hend σ9 τ9 hR9
      | 1, _, ec =>
        refine g_tabIn (v := 1) (tgt := 145) (off := 113) B ec dL_law_32 (by decide) (by decide) (by decide) (by decide) ?_
        obtain ⟨σ9, τ9, r9, hc1, hc2, hR9⟩ := hSim.2.1 σ τ (xs (nI j + 1).toNatClampNeg) (xs (nI j + 2).toNatClampNeg) (xs (nI j + 3).toNatClampNeg) (xs (nI j + 4).toNatClampNeg) hR
        refine g_aload_n B dL_law_145 rfl 1 rfl ?_
        refine g_aload_n B dL_law_146 rfl 0 rfl ?_
        refine g_iload_n B dL_law_147 rfl 3 rfl ?_
        refine g_iconst (v := 1) B dL_law_148 (by decide) ?_
        refine g_iadd B dL_law_149 ?_
        refine g_sld B hX hbl hbA hv1 dL_law_150 ?_
        refine g_aload_n B dL_law_151 rfl 0 rfl ?_
        refine g_iload_n B dL_law_152 rfl 3 rfl ?_
        refine g_iconst (v := 2) B dL_law_153 (by decide) ?_
        refine g_iadd B dL_law_154 ?_
        refine g_sld B hX hbl hbA hv2 dL_law_155 ?_
        refine g_aload_n B dL_law_156 rfl 0 rfl ?_
        refine g_iload_n B dL_law_157 rfl 3 rfl ?_
        refine g_iconst (v := 3) B dL_law_158 (by decide) ?_
        refine g_iadd B dL_law_159 ?_
        refine g_sld B hX hbl hbA hv3 dL_law_160 ?_
        refine g_aload_n B dL_law_161 rfl 0 rfl ?_
        refine g_iload_n B dL_law_162 rfl 3 rfl ?_
        refine g_iconst (v := 4) B dL_law_163 (by decide) ?_
        refine g_iadd B dL_law_164 ?_
        refine g_sld B hX hbl hbA hv4 dL_law_165 ?_
        refine gl_cC (rest := []) C (c_X5_note _ _ _ _ _ _ hc1) mo_X5_note wm_RL_18 (by decide) rfl rfl rfl (Nat.le_of_ble_eq_true rfl) dL_law_166 ?_
        refine g_aload_n B dL_law_169 rfl 2 rfl ?_
        refine g_aload_n B dL_law_170 rfl 0 rfl ?_
        refine g_iload_n B dL_law_171 rfl 3 rfl ?_
        refine g_iconst (v := 1) B dL_law_172 (by decide) ?_
        refine g_iadd B dL_law_173 ?_
        refine g_sld B hX hbl hbA hv1 dL_law_174 ?_
        refine g_aload_n B dL_law_175 rfl 0 rfl ?_
        refine g_iload_n B dL_law_176 rfl 3 rfl ?_
        refine g_iconst (v := 2) B dL_law_177 (by decide) ?_
        refine g_iadd B dL_law_178 ?_
        refine g_sld B hX hbl hbA hv2 dL_law_179 ?_
        refine g_aload_n B dL_law_180 rfl 0 rfl ?_
        refine g_iload_n B dL_law_181 rfl 3 rfl ?_
        refine g_iconst (v := 3) B dL_law_182 (by decide) ?_
        refine g_iadd B dL_law_183 ?_
        refine g_sld B hX hbl hbA hv3 dL_law_184 ?_
        refine g_aload_n B dL_law_185 rfl 0 rfl ?_
        refine g_iload_n B dL_law_186 rfl 3 rfl ?_
        refine g_iconst (v := 4) B dL_law_187 (by decide) ?_
        refine g_iadd B dL_law_188 ?_
        refine g_sld B hX hbl hbA hv4 dL_law_189 ?_
        refine gl_cM (rest := [.int r9]) C (c_X6_note _ _ _ _ hc2) mo_X6_note wm_RL_22 (by decide) rfl rfl rfl (Nat.le_of_ble_eq_true rfl) dL_law_190 ?_
        refine g_icmp_eq (tgt := 700) B dL_law_193 (by decide) (fun c9 => ?_) (fun c9 => absurd rfl c9)
        exact hend σ9 τ9 hR9
      | 2, _, ec =>
        refine g_tabIn (v := 2) (tgt := 198) (off := 166) B ec dL_law_32 (by decide) (by decide) (by decide) (by decide) ?_
        obtain ⟨σ9, τ9, r9, hc1, hc2, hR9⟩ := hSim.2.2.1 σ τ (xs (nI j + 1).toNatClampNeg) (xs (nI j + 2).toNatClampNeg) (xs (nI j + 3).toNatClampNeg) hR
        refine g_aload_n B dL_law_198 rfl 1 rfl ?_
        refine g_aload_n B dL_law_199 rfl 0 rfl ?_
        refine g_iload_n B dL_law_200 rfl 3 rfl ?_
        refine g_iconst (v := 1) B dL_law_201 (by decide) ?_
        refine g_iadd B dL_law_202 ?_
        refine g_sld B hX hbl hbA hv1 dL_law_203 ?_
        refine g_aload_n B dL_law_204 rfl 0 rfl ?_
        refine g_iload_n B dL_law_205 rfl 3 rfl ?_
        refine g_iconst (v := 2) B dL_law_206 (by decide) ?_
        refine g_iadd B dL_law_207 ?_
        refine g_sld B hX hbl hbA hv2 dL_law_208 ?_
        refine g_aload_n B dL_law_209 rfl 0 rfl ?_
        refine g_iload_n B dL_law_210 rfl 3 rfl ?_
        refine g_iconst (v := 3) B dL_law_211 (by decide) ?_
        refine g_iadd B dL_law_212 ?_
        refine g_sld B hX hbl hbA hv3 dL_law_213 ?_
        refine gl_cC (rest := []) C (c_X5_stop _ _ _ _ _ _ hc1) mo_X5_stop wm_RL_23 (by decide) rfl rfl rfl (Nat.le_of_ble_eq_true rfl) dL_law_214 ?_
        refine g_aload_n B dL_law_217 rfl 2 rfl ?_
        refine g_aload_n B dL_law_218 rfl 0 rfl ?_
        refine g_iload_n B dL_law_219 rfl 3 rfl ?_
        refine g_iconst (v := 1) B dL_law_220 (by decide) ?_
        refine g_iadd B dL_law_221 ?_
        refine g_sld B hX hbl hbA hv1 dL_law_222 ?_
        refine g_aload_n B dL_law_223 rfl 0 rfl ?_
        refine g_iload_n B dL_law_224 rfl 3 rfl ?_
        refine g_iconst (v := 2) B dL_law_225 (by decide) ?_
        refine g_iadd B dL_law_226 ?_
        refine g_sld B hX hbl hbA hv2 dL_law_227 ?_
        refine g_aload_n B dL_law_228 rfl 0 rfl ?_
        refine g_iload_n B dL_law_229 rfl 3 rfl ?_
        refine g_iconst (v := 3) B dL_law_230 (by decide) ?_
        refine g_iadd B dL_law_231 ?_
        refine g_sld B hX hbl hbA hv3 dL_law_232 ?_
        refine gl_cM (rest := [.int r9]) C (c_X6_stop _ _ _ _ hc2) mo_X6_stop wm_RL_27 (by decide) rfl rfl rfl (Nat.le_of_ble_eq_true rfl) dL_law_233 ?_
        refine g_icmp_eq (tgt := 700) B dL_law_236 (by decide) (fun c9 => ?_) (fun c9 => absurd rfl c9)
        exact hend σ9 τ9 hR9
      | 3, _, ec =>
        refine g_tabIn (v := 3) (tgt := 241) (off := 209) B ec dL_law_32 (by decide) (by decide) (by decide) (by decide) ?_
        obtain ⟨σ9, τ9, r9, hc1, hc2, hR9⟩ := hSim.2.2.2.1 σ τ (xs (nI j + 1).toNatClampNeg) (xs (nI j + 2).toNatClampNeg) (xs (nI j + 3).toNatClampNeg) hR
        refine g_aload_n B dL_law_241 rfl 1 rfl ?_
        refine g_aload_n B dL_law_242 rfl 0 rfl ?_
        refine g_iload_n B dL_law_243 rfl 3 rfl ?_
        refine g_iconst (v := 1) B dL_law_244 (by decide) ?_
        refine g_iadd B dL_law_245 ?_
        refine g_sld B hX hbl hbA hv1 dL_law_246 ?_
        refine g_aload_n B dL_law_247 rfl 0 rfl ?_
        refine g_iload_n B dL_law_248 rfl 3 rfl ?_
        refine g_iconst (v := 2) B dL_law_249 (by decide) ?_
        refine g_iadd B dL_law_250 ?_
        refine g_sld B hX hbl hbA hv2 dL_law_251 ?_
        refine g_aload_n B dL_law_252 rfl 0 rfl ?_
        refine g_iload_n B dL_law_253 rfl 3 rfl ?_
        refine g_iconst (v := 3) B dL_law_254 (by decide) ?_
        refine g_iadd B dL_law_255 ?_
        refine g_sld B hX hbl hbA hv3 dL_law_256 ?_
        refine gl_cC (rest := []) C (c_X5_mark _ _ _ _ _ _ hc1) mo_X5_mark wm_RL_28 (by decide) rfl rfl rfl (Nat.le_of_ble_eq_true rfl) dL_law_257 ?_
        refine g_aload_n B dL_law_260 rfl 2 rfl ?_
        refine g_aload_n B dL_law_261 rfl 0 rfl ?_
        refine g_iload_n B dL_law_262 rfl 3 rfl ?_
        refine g_iconst (v := 1) B dL_law_263 (by decide) ?_
        refine g_iadd B dL_law_264 ?_
        refine g_sld B hX hbl hbA hv1 dL_law_265 ?_
        refine g_aload_n B dL_law_266 rfl 0 rfl ?_
        refine g_iload_n B dL_law_267 rfl 3 rfl ?_
        refine g_iconst (v := 2) B dL_law_268 (by decide) ?_
        refine g_iadd B dL_law_269 ?_
        refine g_sld B hX hbl hbA hv2 dL_law_270 ?_
        refine g_aload_n B dL_law_271 rfl 0 rfl ?_
        refine g_iload_n B dL_law_272 rfl 3 rfl ?_
        refine g_iconst (v := 3) B dL_law_273 (by decide) ?_
        refine g_iadd B dL_law_274 ?_
        refine g_sld B hX hbl hbA hv3 dL_law_275 ?_
        refine gl_cM (rest := [.int r9]) C (c_X6_mark _ _ _ _ hc2) mo_X6_mark wm_RL_31 (by decide) rfl rfl rfl (Nat.le_of_ble_eq_true rfl) dL_law_276 ?_
        refine g_icmp_eq (tgt := 700) B dL_law_279 (by decide) (fun c9 => ?_) (fun c9 => absurd rfl c9)
        exact hend σ9 τ9 hR9
      | 4, _, ec =>
        refine g_tabIn (v := 4) (tgt := 284) (off := 252) B ec dL_law_32 (by decide) (by decide) (by decide) (by decide) ?_
        obtain ⟨σ9, τ9, r9, hc1, hc2, hR9⟩ := hSim.2.2.2.2.1 σ τ (xs (nI j + 1).toNatClampNeg) hR
        refine g_aload_n B dL_law_284 rfl 1 rfl ?_
        refine g_aload_n B dL_law_285 rfl 0 rfl ?_
        refine g_iload_n B dL_law_286 rfl 3 rfl ?_
        refine g_iconst (v := 1) B dL_law_287 (by decide) ?_
        refine g_iadd B dL_law_288 ?_
        refine g_sld B hX hbl hbA hv1 dL_law_289 ?_
        refine gl_cC (rest := []) C (c_X5_cut _ _ _ _ _ _ hc1) mo_X5_cut wm_RL_32 (by decide) rfl rfl rfl (Nat.le_of_ble_eq_true rfl) dL_law_290 ?_
        refine g_aload_n B dL_law_293 rfl 2 rfl ?_
        refine g_aload_n B dL_law_294 rfl 0 rfl ?_
        refine g_iload_n B dL_law_295 rfl 3 rfl ?_
        refine g_iconst (v := 1) B dL_law_296 (by decide) ?_
        refine g_iadd B dL_law_297 ?_
        refine g_sld B hX hbl hbA hv1 dL_law_298 ?_
        refine gl_cM (rest := [.int r9]) C (c_X6_cut _ _ _ _ hc2) mo_X6_cut wm_RL_36 (by decide) rfl rfl rfl (Nat.le_of_ble_eq_true rfl) dL_law_299 ?_
        refine g_icmp_eq (tgt := 700) B dL_law_302 (by decide) (fun c9 => ?_) (fun c9 => absurd rfl c9)
        exact hend σ9 τ9 hR9
      | 5, _, ec =>
        refine g_tabIn (v := 5) (tgt := 307) (off := 275) B ec dL_law_32 (by decide) (by decide) (by decide) (by decide) ?_
        obtain ⟨σ9, τ9, r9, hc1, hc2, hR9⟩ := hSim.2.2.2.2.2.1 σ τ (xs (nI j + 1).toNatClampNeg) (xs (nI j + 2).toNatClampNeg) (xs (nI j + 3).toNatClampNeg) hR
        refine g_aload_n B dL_law_307 rfl 1 rfl ?_
        refine g_aload_n B dL_law_308 rfl 0 rfl ?_
        refine g_iload_n B dL_law_309 rfl 3 rfl ?_
        refine g_iconst (v := 1) B dL_law_310 (by decide) ?_
        refine g_iadd B dL_law_311 ?_
        refine g_sld B hX hbl hbA hv1 dL_law_312 ?_
        refine g_aload_n B dL_law_313 rfl 0 rfl ?_
        refine g_iload_n B dL_law_314 rfl 3 rfl ?_
        refine g_iconst (v := 2) B dL_law_315 (by decide) ?_
        refine g_iadd B dL_law_316 ?_
        refine g_sld B hX hbl hbA hv2 dL_law_317 ?_
        refine g_aload_n B dL_law_318 rfl 0 rfl ?_
        refine g_iload_n B dL_law_319 rfl 3 rfl ?_
        refine g_iconst (v := 3) B dL_law_320 (by decide) ?_
        refine g_iadd B dL_law_321 ?_
        refine g_sld B hX hbl hbA hv3 dL_law_322 ?_
        refine gl_cC (rest := []) C (c_X5_of _ _ _ _ _ _ hc1) mo_X5_of wm_RL_37 (by decide) rfl rfl rfl (Nat.le_of_ble_eq_true rfl) dL_law_323 ?_
        refine g_aload_n B dL_law_326 rfl 2 rfl ?_
        refine g_aload_n B dL_law_327 rfl 0 rfl ?_
        refine g_iload_n B dL_law_328 rfl 3 rfl ?_
        refine g_iconst (v := 1) B dL_law_329 (by decide) ?_
        refine g_iadd B dL_law_330 ?_
        refine g_sld B hX hbl hbA hv1 dL_law_331 ?_
        refine g_aload_n B dL_law_332 rfl 0 rfl ?_
        refine g_iload_n B dL_law_333 rfl 3 rfl ?_
        refine g_iconst (v := 2) B dL_law_334 (by decide) ?_
        refine g_iadd B dL_law_335 ?_
        refine g_sld B hX hbl hbA hv2 dL_law_336 ?_
        refine g_aload_n B dL_law_337 rfl 0 rfl ?_
        refine g_iload_n B dL_law_338 rfl 3 rfl ?_
        refine g_iconst (v := 3) B dL_law_339 (by decide) ?_
        refine g_iadd B dL_law_340 ?_
        refine g_sld B hX hbl hbA hv3 dL_law_341 ?_
        refine gl_cM (rest := [.int r9]) C (c_X6_of _ _ _ _ hc2) mo_X6_of wm_RL_40 (by decide) rfl rfl rfl (Nat.le_of_ble_eq_true rfl) dL_law_342 ?_
        refine g_icmp_eq (tgt := 700) B dL_law_345 (by decide) (fun c9 => ?_) (fun c9 => absurd rfl c9)
        exact hend σ9 τ9 hR9
      | 6, _, ec =>
        refine g_tabIn (v := 6) (tgt := 350) (off := 318) B ec dL_law_32 (by decide) (by decide) (by decide) (by decide) ?_
        obtain ⟨σ9, τ9, r9, hc1, hc2, hR9⟩ := hSim.2.2.2.2.2.2.1 σ τ (xs (nI j + 1).toNatClampNeg) (xs (nI j + 2).toNatClampNeg) (xs (nI j + 3).toNatClampNeg) hR
        refine g_aload_n B dL_law_350 rfl 1 rfl ?_
        refine g_aload_n B dL_law_351 rfl 0 rfl ?_
        refine g_iload_n B dL_law_352 rfl 3 rfl ?_
        refine g_iconst (v := 1) B dL_law_353 (by decide) ?_
        refine g_iadd B dL_law_354 ?_
        refine g_sld B hX hbl hbA hv1 dL_law_355 ?_
        refine g_aload_n B dL_law_356 rfl 0 rfl ?_
        refine g_iload_n B dL_law_357 rfl 3 rfl ?_
        refine g_iconst (v := 2) B dL_law_358 (by decide) ?_
        refine g_iadd B dL_law_359 ?_
        refine g_sld B hX hbl hbA hv2 dL_law_360 ?_
        refine g_aload_n B dL_law_361 rfl 0 rfl ?_
        refine g_iload_n B dL_law_362 rfl 3 rfl ?_
        refine g_iconst (v := 3) B dL_law_363 (by decide) ?_
        refine g_iadd B dL_law_364 ?_
        refine g_sld B hX hbl hbA hv3 dL_law_365 ?_
        refine gl_cC (rest := []) C (c_X5_hold _ _ _ _ _ _ hc1) mo_X5_hold wm_RL_41 (by decide) rfl rfl rfl (Nat.le_of_ble_eq_true rfl) dL_law_366 ?_
        refine g_aload_n B dL_law_369 rfl 2 rfl ?_
        refine g_aload_n B dL_law_370 rfl 0 rfl ?_
        refine g_iload_n B dL_law_371 rfl 3 rfl ?_
        refine g_iconst (v := 1) B dL_law_372 (by decide) ?_
        refine g_iadd B dL_law_373 ?_
        refine g_sld B hX hbl hbA hv1 dL_law_374 ?_
        refine g_aload_n B dL_law_375 rfl 0 rfl ?_
        refine g_iload_n B dL_law_376 rfl 3 rfl ?_
        refine g_iconst (v := 2) B dL_law_377 (by decide) ?_
        refine g_iadd B dL_law_378 ?_
        refine g_sld B hX hbl hbA hv2 dL_law_379 ?_
        refine g_aload_n B dL_law_380 rfl 0 rfl ?_
        refine g_iload_n B dL_law_381 rfl 3 rfl ?_
        refine g_iconst (v := 3) B dL_law_382 (by decide) ?_
        refine g_iadd B dL_law_383 ?_
        refine g_sld B hX hbl hbA hv3 dL_law_384 ?_
        refine gl_cM (rest := [.int r9]) C (c_X6_hold _ _ _ _ hc2) mo_X6_hold wm_RL_44 (by decide) rfl rfl rfl (Nat.le_of_ble_eq_true rfl) dL_law_385 ?_
        refine g_icmp_eq (tgt := 700) B dL_law_388 (by decide) (fun c9 => ?_) (fun c9 => absurd rfl c9)
        exact hend σ9 τ9 hR9
      | 7, _, ec =>
        refine g_tabIn (v := 7) (tgt := 393) (off := 361) B ec dL_law_32 (by decide) (by decide) (by decide) (by decide) ?_
        obtain ⟨σ9, τ9, r9, hc1, hc2, hR9⟩ := hSim.2.2.2.2.2.2.2.1 σ τ (xs (nI j + 1).toNatClampNeg) hR
        refine g_aload_n B dL_law_393 rfl 1 rfl ?_
        refine g_aload_n B dL_law_394 rfl 0 rfl ?_
        refine g_iload_n B dL_law_395 rfl 3 rfl ?_
        refine g_iconst (v := 1) B dL_law_396 (by decide) ?_
        refine g_iadd B dL_law_397 ?_
        refine g_sld B hX hbl hbA hv1 dL_law_398 ?_
        refine gl_cC (rest := []) C (c_X5_hard _ _ _ _ _ _ hc1) mo_X5_hard wm_RL_45 (by decide) rfl rfl rfl (Nat.le_of_ble_eq_true rfl) dL_law_399 ?_
        refine g_aload_n B dL_law_402 rfl 2 rfl ?_
        refine g_aload_n B dL_law_403 rfl 0 rfl ?_
        refine g_iload_n B dL_law_404 rfl 3 rfl ?_
        refine g_iconst (v := 1) B dL_law_405 (by decide) ?_
        refine g_iadd B dL_law_406 ?_
        refine g_sld B hX hbl hbA hv1 dL_law_407 ?_
        refine gl_cM (rest := [.int r9]) C (c_X6_hard _ _ _ _ hc2) mo_X6_hard wm_RL_48 (by decide) rfl rfl rfl (Nat.le_of_ble_eq_true rfl) dL_law_408 ?_
        refine g_icmp_eq (tgt := 700) B dL_law_411 (by decide) (fun c9 => ?_) (fun c9 => absurd rfl c9)
        exact hend σ9 τ9 hR9
      | 8, _, ec =>
        refine g_tabIn (v := 8) (tgt := 416) (off := 384) B ec dL_law_32 (by decide) (by decide) (by decide) (by decide) ?_
        obtain ⟨σ9, τ9, r9, hc1, hc2, hR9⟩ := hSim.2.2.2.2.2.2.2.2.1 σ τ (xs (nI j + 1).toNatClampNeg) (xs (nI j + 2).toNatClampNeg) (xs (nI j + 3).toNatClampNeg) hR
        refine g_aload_n B dL_law_416 rfl 1 rfl ?_
        refine g_aload_n B dL_law_417 rfl 0 rfl ?_
        refine g_iload_n B dL_law_418 rfl 3 rfl ?_
        refine g_iconst (v := 1) B dL_law_419 (by decide) ?_
        refine g_iadd B dL_law_420 ?_
        refine g_sld B hX hbl hbA hv1 dL_law_421 ?_
        refine g_aload_n B dL_law_422 rfl 0 rfl ?_
        refine g_iload_n B dL_law_423 rfl 3 rfl ?_
        refine g_iconst (v := 2) B dL_law_424 (by decide) ?_
        refine g_iadd B dL_law_425 ?_
        refine g_sld B hX hbl hbA hv2 dL_law_426 ?_
        refine g_aload_n B dL_law_427 rfl 0 rfl ?_
        refine g_iload_n B dL_law_428 rfl 3 rfl ?_
        refine g_iconst (v := 3) B dL_law_429 (by decide) ?_
        refine g_iadd B dL_law_430 ?_
        refine g_sld B hX hbl hbA hv3 dL_law_431 ?_
        refine gl_cC (rest := []) C (c_X5_finger _ _ _ _ _ _ hc1) mo_X5_finger wm_RL_49 (by decide) rfl rfl rfl (Nat.le_of_ble_eq_true rfl) dL_law_432 ?_
        refine g_aload_n B dL_law_435 rfl 2 rfl ?_
        refine g_aload_n B dL_law_436 rfl 0 rfl ?_
        refine g_iload_n B dL_law_437 rfl 3 rfl ?_
        refine g_iconst (v := 1) B dL_law_438 (by decide) ?_
        refine g_iadd B dL_law_439 ?_
        refine g_sld B hX hbl hbA hv1 dL_law_440 ?_
        refine g_aload_n B dL_law_441 rfl 0 rfl ?_
        refine g_iload_n B dL_law_442 rfl 3 rfl ?_
        refine g_iconst (v := 2) B dL_law_443 (by decide) ?_
        refine g_iadd B dL_law_444 ?_
        refine g_sld B hX hbl hbA hv2 dL_law_445 ?_
        refine g_aload_n B dL_law_446 rfl 0 rfl ?_
        refine g_iload_n B dL_law_447 rfl 3 rfl ?_
        refine g_iconst (v := 3) B dL_law_448 (by decide) ?_
        refine g_iadd B dL_law_449 ?_
        refine g_sld B hX hbl hbA hv3 dL_law_450 ?_
        refine gl_cM (rest := [.int r9]) C (c_X6_finger _ _ _ _ hc2) mo_X6_finger wm_RL_52 (by decide) rfl rfl rfl (Nat.le_of_ble_eq_true rfl) dL_law_451 ?_
        refine g_icmp_eq (tgt := 700) B dL_law_454 (by decide) (fun c9 => ?_) (fun c9 => absurd rfl c9)
        exact hend σ9 τ9 hR9
      | 9, _, ec =>
        refine g_tabIn (v := 9) (tgt := 459) (off := 427) B ec dL_law_32 (by decide) (by decide) (by decide) (by decide) ?_
        obtain ⟨σ9, τ9, r9, hc1, hc2, hR9⟩ := hSim.2.2.2.2.2.2.2.2.2.1 σ τ (xs (nI j + 1).toNatClampNeg) hR
        refine g_aload_n B dL_law_459 rfl 1 rfl ?_
        refine g_aload_n B dL_law_460 rfl 0 rfl ?_
        refine g_iload_n B dL_law_461 rfl 3 rfl ?_
        refine g_iconst (v := 1) B dL_law_462 (by decide) ?_
        refine g_iadd B dL_law_463 ?_
        refine g_sld B hX hbl hbA hv1 dL_law_464 ?_
        refine gl_cC (rest := []) C (c_X5_shifts _ _ _ _ _ _ hc1) mo_X5_shifts wm_RL_53 (by decide) rfl rfl rfl (Nat.le_of_ble_eq_true rfl) dL_law_465 ?_
        refine g_aload_n B dL_law_468 rfl 2 rfl ?_
        refine g_aload_n B dL_law_469 rfl 0 rfl ?_
        refine g_iload_n B dL_law_470 rfl 3 rfl ?_
        refine g_iconst (v := 1) B dL_law_471 (by decide) ?_
        refine g_iadd B dL_law_472 ?_
        refine g_sld B hX hbl hbA hv1 dL_law_473 ?_
        refine gl_cM (rest := [.int r9]) C (c_X6_shifts _ _ _ _ hc2) mo_X6_shifts wm_RL_56 (by decide) rfl rfl rfl (Nat.le_of_ble_eq_true rfl) dL_law_474 ?_
        refine g_icmp_eq (tgt := 700) B dL_law_477 (by decide) (fun c9 => ?_) (fun c9 => absurd rfl c9)
        exact hend σ9 τ9 hR9
      | 10, _, ec =>
        refine g_tabIn (v := 10) (tgt := 482) (off := 450) B ec dL_law_32 (by decide) (by decide) (by decide) (by decide) ?_
        obtain ⟨σ9, τ9, r9, hc1, hc2, hR9⟩ := hSim.2.2.2.2.2.2.2.2.2.2.1 σ τ (xs (nI j + 1).toNatClampNeg) (xs (nI j + 2).toNatClampNeg) hR
        refine g_aload_n B dL_law_482 rfl 1 rfl ?_
        refine g_aload_n B dL_law_483 rfl 0 rfl ?_
        refine g_iload_n B dL_law_484 rfl 3 rfl ?_
        refine g_iconst (v := 1) B dL_law_485 (by decide) ?_
        refine g_iadd B dL_law_486 ?_
        refine g_sld B hX hbl hbA hv1 dL_law_487 ?_
        refine g_aload_n B dL_law_488 rfl 0 rfl ?_
        refine g_iload_n B dL_law_489 rfl 3 rfl ?_
        refine g_iconst (v := 2) B dL_law_490 (by decide) ?_
        refine g_iadd B dL_law_491 ?_
        refine g_sld B hX hbl hbA hv2 dL_law_492 ?_
        refine gl_cC (rest := []) C (c_X5_bow _ _ _ _ _ _ hc1) mo_X5_bow wm_RL_57 (by decide) rfl rfl rfl (Nat.le_of_ble_eq_true rfl) dL_law_493 ?_
        refine g_aload_n B dL_law_496 rfl 2 rfl ?_
        refine g_aload_n B dL_law_497 rfl 0 rfl ?_
        refine g_iload_n B dL_law_498 rfl 3 rfl ?_
        refine g_iconst (v := 1) B dL_law_499 (by decide) ?_
        refine g_iadd B dL_law_500 ?_
        refine g_sld B hX hbl hbA hv1 dL_law_501 ?_
        refine g_aload_n B dL_law_502 rfl 0 rfl ?_
        refine g_iload_n B dL_law_503 rfl 3 rfl ?_
        refine g_iconst (v := 2) B dL_law_504 (by decide) ?_
        refine g_iadd B dL_law_505 ?_
        refine g_sld B hX hbl hbA hv2 dL_law_506 ?_
        refine gl_cM (rest := [.int r9]) C (c_X6_bow _ _ _ _ hc2) mo_X6_bow wm_RL_60 (by decide) rfl rfl rfl (Nat.le_of_ble_eq_true rfl) dL_law_507 ?_
        refine g_icmp_eq (tgt := 700) B dL_law_510 (by decide) (fun c9 => ?_) (fun c9 => absurd rfl c9)
        exact hend σ9 τ9 hR9
      | 11, _, ec =>
        refine g_tabIn (v := 11) (tgt := 515) (off := 483) B ec dL_law_32 (by decide) (by decide) (by decide) (by decide) ?_
        obtain ⟨σ9, τ9, r9, hc1, hc2, hR9⟩ := hSim.2.2.2.2.2.2.2.2.2.2.2.1 σ τ (xs (nI j + 1).toNatClampNeg) (xs (nI j + 2).toNatClampNeg) (xs (nI j + 3).toNatClampNeg) hR
        refine g_aload_n B dL_law_515 rfl 1 rfl ?_
        refine g_aload_n B dL_law_516 rfl 0 rfl ?_
        refine g_iload_n B dL_law_517 rfl 3 rfl ?_
        refine g_iconst (v := 1) B dL_law_518 (by decide) ?_
        refine g_iadd B dL_law_519 ?_
        refine g_sld B hX hbl hbA hv1 dL_law_520 ?_
        refine g_aload_n B dL_law_521 rfl 0 rfl ?_
        refine g_iload_n B dL_law_522 rfl 3 rfl ?_
        refine g_iconst (v := 2) B dL_law_523 (by decide) ?_
        refine g_iadd B dL_law_524 ?_
        refine g_sld B hX hbl hbA hv2 dL_law_525 ?_
        refine g_aload_n B dL_law_526 rfl 0 rfl ?_
        refine g_iload_n B dL_law_527 rfl 3 rfl ?_
        refine g_iconst (v := 3) B dL_law_528 (by decide) ?_
        refine g_iadd B dL_law_529 ?_
        refine g_sld B hX hbl hbA hv3 dL_law_530 ?_
        refine gl_cC (rest := []) C (c_X5_stroke _ _ _ _ _ _ hc1) mo_X5_stroke wm_RL_61 (by decide) rfl rfl rfl (Nat.le_of_ble_eq_true rfl) dL_law_531 ?_
        refine g_aload_n B dL_law_534 rfl 2 rfl ?_
        refine g_aload_n B dL_law_535 rfl 0 rfl ?_
        refine g_iload_n B dL_law_536 rfl 3 rfl ?_
        refine g_iconst (v := 1) B dL_law_537 (by decide) ?_
        refine g_iadd B dL_law_538 ?_
        refine g_sld B hX hbl hbA hv1 dL_law_539 ?_
        refine g_aload_n B dL_law_540 rfl 0 rfl ?_
        refine g_iload_n B dL_law_541 rfl 3 rfl ?_
        refine g_iconst (v := 2) B dL_law_542 (by decide) ?_
        refine g_iadd B dL_law_543 ?_
        refine g_sld B hX hbl hbA hv2 dL_law_544 ?_
        refine g_aload_n B dL_law_545 rfl 0 rfl ?_
        refine g_iload_n B dL_law_546 rfl 3 rfl ?_
        refine g_iconst (v := 3) B dL_law_547 (by decide) ?_
        refine g_iadd B dL_law_548 ?_
        refine g_sld B hX hbl hbA hv3 dL_law_549 ?_
        refine gl_cM (rest := [.int r9]) C (c_X6_stroke _ _ _ _ hc2) mo_X6_stroke wm_RL_64 (by decide) rfl rfl rfl (Nat.le_of_ble_eq_true rfl) dL_law_550 ?_
        refine g_icmp_eq (tgt := 700) B dL_law_553 (by decide) (fun c9 => ?_) (fun c9 => absurd rfl c9)
        exact hend σ9 τ9 hR9
      | 12, _, ec =>
        refine g_tabIn (v := 12) (tgt := 558) (off := 526) B ec dL_law_32 (by decide) (by decide) (by decide) (by decide) ?_
        obtain ⟨σ9, τ9, r9, hc1, hc2, hR9⟩ := hSim.2.2.2.2.2.2.2.2.2.2.2.2.1 σ τ (xs (nI j + 1).toNatClampNeg) (xs (nI j + 2).toNatClampNeg) (xs (nI j + 3).toNatClampNeg) hR
        refine g_aload_n B dL_law_558 rfl 1 rfl ?_
        refine g_aload_n B dL_law_559 rfl 0 rfl ?_
        refine g_iload_n B dL_law_560 rfl 3 rfl ?_
        refine g_iconst (v := 1) B dL_law_561 (by decide) ?_
        refine g_iadd B dL_law_562 ?_
        refine g_sld B hX hbl hbA hv1 dL_law_563 ?_
        refine g_aload_n B dL_law_564 rfl 0 rfl ?_
        refine g_iload_n B dL_law_565 rfl 3 rfl ?_
        refine g_iconst (v := 2) B dL_law_566 (by decide) ?_
        refine g_iadd B dL_law_567 ?_
        refine g_sld B hX hbl hbA hv2 dL_law_568 ?_
        refine g_aload_n B dL_law_569 rfl 0 rfl ?_
        refine g_iload_n B dL_law_570 rfl 3 rfl ?_
        refine g_iconst (v := 3) B dL_law_571 (by decide) ?_
        refine g_iadd B dL_law_572 ?_
        refine g_sld B hX hbl hbA hv3 dL_law_573 ?_
        refine gl_cC (rest := []) C (c_X5_strokes _ _ _ _ _ _ hc1) mo_X5_strokes wm_RL_65 (by decide) rfl rfl rfl (Nat.le_of_ble_eq_true rfl) dL_law_574 ?_
        refine g_aload_n B dL_law_577 rfl 2 rfl ?_
        refine g_aload_n B dL_law_578 rfl 0 rfl ?_
        refine g_iload_n B dL_law_579 rfl 3 rfl ?_
        refine g_iconst (v := 1) B dL_law_580 (by decide) ?_
        refine g_iadd B dL_law_581 ?_
        refine g_sld B hX hbl hbA hv1 dL_law_582 ?_
        refine g_aload_n B dL_law_583 rfl 0 rfl ?_
        refine g_iload_n B dL_law_584 rfl 3 rfl ?_
        refine g_iconst (v := 2) B dL_law_585 (by decide) ?_
        refine g_iadd B dL_law_586 ?_
        refine g_sld B hX hbl hbA hv2 dL_law_587 ?_
        refine g_aload_n B dL_law_588 rfl 0 rfl ?_
        refine g_iload_n B dL_law_589 rfl 3 rfl ?_
        refine g_iconst (v := 3) B dL_law_590 (by decide) ?_
        refine g_iadd B dL_law_591 ?_
        refine g_sld B hX hbl hbA hv3 dL_law_592 ?_
        refine gl_cM (rest := [.int r9]) C (c_X6_strokes _ _ _ _ hc2) mo_X6_strokes wm_RL_68 (by decide) rfl rfl rfl (Nat.le_of_ble_eq_true rfl) dL_law_593 ?_
        refine g_icmp_eq (tgt := 700) B dL_law_596 (by decide) (fun c9 => ?_) (fun c9 => absurd rfl c9)
        exact hend σ9 τ9 hR9
      | 13, _, ec =>
        refine g_tabIn (v := 13) (tgt := 601) (off := 569) B ec dL_law_32 (by decide) (by decide) (by decide) (by decide) ?_
        obtain ⟨σ9, τ9, r9, hc1, hc2, hR9⟩ := hSim.2.2.2.2.2.2.2.2.2.2.2.2.2.1 σ τ (xs (nI j + 1).toNatClampNeg) (xs (nI j + 2).toNatClampNeg) (xs (nI j + 3).toNatClampNeg) (xs (nI j + 4).toNatClampNeg) hR
        refine g_aload_n B dL_law_601 rfl 1 rfl ?_
        refine g_aload_n B dL_law_602 rfl 0 rfl ?_
        refine g_iload_n B dL_law_603 rfl 3 rfl ?_
        refine g_iconst (v := 1) B dL_law_604 (by decide) ?_
        refine g_iadd B dL_law_605 ?_
        refine g_sld B hX hbl hbA hv1 dL_law_606 ?_
        refine g_aload_n B dL_law_607 rfl 0 rfl ?_
        refine g_iload_n B dL_law_608 rfl 3 rfl ?_
        refine g_iconst (v := 2) B dL_law_609 (by decide) ?_
        refine g_iadd B dL_law_610 ?_
        refine g_sld B hX hbl hbA hv2 dL_law_611 ?_
        refine g_aload_n B dL_law_612 rfl 0 rfl ?_
        refine g_iload_n B dL_law_613 rfl 3 rfl ?_
        refine g_iconst (v := 3) B dL_law_614 (by decide) ?_
        refine g_iadd B dL_law_615 ?_
        refine g_sld B hX hbl hbA hv3 dL_law_616 ?_
        refine g_aload_n B dL_law_617 rfl 0 rfl ?_
        refine g_iload_n B dL_law_618 rfl 3 rfl ?_
        refine g_iconst (v := 4) B dL_law_619 (by decide) ?_
        refine g_iadd B dL_law_620 ?_
        refine g_sld B hX hbl hbA hv4 dL_law_621 ?_
        refine gl_cC (rest := []) C (c_X5_alike _ _ _ _ _ _ hc1) mo_X5_alike wm_RL_69 (by decide) rfl rfl rfl (Nat.le_of_ble_eq_true rfl) dL_law_622 ?_
        refine g_aload_n B dL_law_625 rfl 2 rfl ?_
        refine g_aload_n B dL_law_626 rfl 0 rfl ?_
        refine g_iload_n B dL_law_627 rfl 3 rfl ?_
        refine g_iconst (v := 1) B dL_law_628 (by decide) ?_
        refine g_iadd B dL_law_629 ?_
        refine g_sld B hX hbl hbA hv1 dL_law_630 ?_
        refine g_aload_n B dL_law_631 rfl 0 rfl ?_
        refine g_iload_n B dL_law_632 rfl 3 rfl ?_
        refine g_iconst (v := 2) B dL_law_633 (by decide) ?_
        refine g_iadd B dL_law_634 ?_
        refine g_sld B hX hbl hbA hv2 dL_law_635 ?_
        refine g_aload_n B dL_law_636 rfl 0 rfl ?_
        refine g_iload_n B dL_law_637 rfl 3 rfl ?_
        refine g_iconst (v := 3) B dL_law_638 (by decide) ?_
        refine g_iadd B dL_law_639 ?_
        refine g_sld B hX hbl hbA hv3 dL_law_640 ?_
        refine g_aload_n B dL_law_641 rfl 0 rfl ?_
        refine g_iload_n B dL_law_642 rfl 3 rfl ?_
        refine g_iconst (v := 4) B dL_law_643 (by decide) ?_
        refine g_iadd B dL_law_644 ?_
        refine g_sld B hX hbl hbA hv4 dL_law_645 ?_
        refine gl_cM (rest := [.int r9]) C (c_X6_alike _ _ _ _ hc2) mo_X6_alike wm_RL_72 (by decide) rfl rfl rfl (Nat.le_of_ble_eq_true rfl) dL_law_646 ?_
        refine g_icmp_eq (tgt := 700) B dL_law_649 (by decide) (fun c9 => ?_) (fun c9 => absurd rfl c9)
        exact hend σ9 τ9 hR9
      | 14, _, ec =>
        refine g_tabIn (v := 14) (tgt := 654) (off := 622) B ec dL_law_32 (by decide) (by decide) (by decide) (by decide) ?_
        obtain ⟨σ9, τ9, r9, hc1, hc2, hR9⟩ := hSim.2.2.2.2.2.2.2.2.2.2.2.2.2.2.1 σ τ (xs (nI j + 1).toNatClampNeg) hR
        refine g_aload_n B dL_law_654 rfl 1 rfl ?_
        refine g_aload_n B dL_law_655 rfl 0 rfl ?_
        refine g_iload_n B dL_law_656 rfl 3 rfl ?_
        refine g_iconst (v := 1) B dL_law_657 (by decide) ?_
        refine g_iadd B dL_law_658 ?_
        refine g_sld B hX hbl hbA hv1 dL_law_659 ?_
        refine gl_cC (rest := []) C (c_X5_union _ _ _ _ _ _ hc1) mo_X5_union wm_RL_73 (by decide) rfl rfl rfl (Nat.le_of_ble_eq_true rfl) dL_law_660 ?_
        refine g_aload_n B dL_law_663 rfl 2 rfl ?_
        refine g_aload_n B dL_law_664 rfl 0 rfl ?_
        refine g_iload_n B dL_law_665 rfl 3 rfl ?_
        refine g_iconst (v := 1) B dL_law_666 (by decide) ?_
        refine g_iadd B dL_law_667 ?_
        refine g_sld B hX hbl hbA hv1 dL_law_668 ?_
        refine gl_cM (rest := [.int r9]) C (c_X6_union _ _ _ _ hc2) mo_X6_union wm_RL_76 (by decide) rfl rfl rfl (Nat.le_of_ble_eq_true rfl) dL_law_669 ?_
        refine g_icmp_eq (tgt := 700) B dL_law_672 (by decide) (fun c9 => ?_) (fun c9 => absurd rfl c9)
        exact hend σ9 τ9 hR9
      | 15, _, ec =>
        refine g_tabIn (v := 15) (tgt := 677) (off := 645) B ec dL_law_32 (by decide) (by decide) (by decide) (by decide) ?_
        obtain ⟨σ9, τ9, r9, hc1, hc2, hR9⟩ := hSim.2.2.2.2.2.2.2.2.2.2.2.2.2.2.2 σ τ (xs (nI j + 1).toNatClampNeg) hR
        refine g_aload_n B dL_law_677 rfl 1 rfl ?_
        refine g_aload_n B dL_law_678 rfl 0 rfl ?_
        refine g_iload_n B dL_law_679 rfl 3 rfl ?_
        refine g_iconst (v := 1) B dL_law_680 (by decide) ?_
        refine g_iadd B dL_law_681 ?_
        refine g_sld B hX hbl hbA hv1 dL_law_682 ?_
        refine gl_cC (rest := []) C (c_X5_many _ _ _ _ _ _ hc1) mo_X5_many wm_RL_77 (by decide) rfl rfl rfl (Nat.le_of_ble_eq_true rfl) dL_law_683 ?_
        refine g_aload_n B dL_law_686 rfl 2 rfl ?_
        refine g_aload_n B dL_law_687 rfl 0 rfl ?_
        refine g_iload_n B dL_law_688 rfl 3 rfl ?_
        refine g_iconst (v := 1) B dL_law_689 (by decide) ?_
        refine g_iadd B dL_law_690 ?_
        refine g_sld B hX hbl hbA hv1 dL_law_691 ?_
        refine gl_cM (rest := [.int r9]) C (c_X6_many _ _ _ _ hc2) mo_X6_many wm_RL_80 (by decide) rfl rfl rfl (Nat.le_of_ble_eq_true rfl) dL_law_692 ?_
        refine g_icmp_eq (tgt := 700) B dL_law_695 (by decide) (fun c9 => ?_) (fun c9 => absurd rfl c9)
        exact hend σ9 τ9 hR9
      | n + 16, h, _ => exact absurd h (by omega)
