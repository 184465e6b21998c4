abbrev YLw (nm : String) : Yt := (⟨RL, nm, "([I)Z"⟩, cL_law, 8, ret)
abbrev BLw : Bt := (1312, 601024, 7293034)
set_option maxHeartbeats 600000 in
set_option maxRecDepth 100000 in
theorem jl_0 (l : Launch) (hl : l.stackTraces = false) (G : Gt) (nm : String) (M : Mt) (Q : State → Prop) (b L : Nat) (xs : Nat → Int32) (hSX : SX G M b L xs) (hX : KX G M.2.2.2.1) (k cells slots : Nat) (hk : 8 * k + 8 ≤ L) (hcl : cells + 8 ≤ 601024) (hsl : slots + 64 ≤ 7293034) (x : Nat) (Z : Zt) (hV : LV x Z) (o5 o6 : Option Value) (kk : ∀ Z' o5 o6, LV x Z' → Jd l G (YLw nm) BLw M Z' (cells + 4) (slots + 29) Q 1343 [some (.ref b), some (.ref x), some (.ref (x + 30)), some (.ref (x + 60)), some (.int (nI (8 * k))), o5, o6, none] []) : Jd l G (YLw nm) BLw M Z cells slots Q 136 [some (.ref b), some (.ref x), some (.ref (x + 30)), some (.ref (x + 60)), some (.int (nI (8 * k))), o5, o6, none] [] := by
  obtain ⟨σ, e, af, as, nf, ns, hC, hM, ho, hP⟩ := hV
  first | refine q_aload_n dL_law_136 rfl ?_ | refine q_aload_nN dL_law_136 rfl ?_
  first | refine q_aload_n dL_law_137 rfl ?_ | refine q_aload_nN dL_law_137 rfl ?_
  refine q_iload dL_law_138 rfl ?_
  refine q_iconst (v := 1) dL_law_140 (by decide) ?_
  refine q_iadd dL_law_141 ?_
  refine q_sld (8 * k + 1) hSX dL_law_142 (nI_add _ 1) (by omega) ?_
  first | refine q_aload_n dL_law_143 rfl ?_ | refine q_aload_nN dL_law_143 rfl ?_
  refine q_iload dL_law_144 rfl ?_
  refine q_iconst (v := 2) dL_law_146 (by decide) ?_
  refine q_iadd dL_law_147 ?_
  refine q_sld (8 * k + 2) hSX dL_law_148 (nI_add _ 2) (by omega) ?_
  first | refine q_aload_n dL_law_149 rfl ?_ | refine q_aload_nN dL_law_149 rfl ?_
  refine q_iload dL_law_150 rfl ?_
  refine q_iconst (v := 3) dL_law_152 (by decide) ?_
  refine q_iadd dL_law_153 ?_
  refine q_sld (8 * k + 3) hSX dL_law_154 (nI_add _ 3) (by omega) ?_
  refine q_callV 10 dL_law_155 mk_L_26 rfl hC.1.1.1.1 (cc_shelf l G Z x nf ns af as σ hC _ _ _) rfl np_X11_shelf (by decide) (show cells + 0 ≤ 601024 by omega) (show slots + 0 ≤ 7293034 by omega) (Nat.le_of_ble_eq_true rfl) (kI (fun r1 Z1 h1 => ?_))
  obtain ⟨e1, c1, km⟩ := h1
  have m1 := km.mr hM
  have o1 := km.ou ho
  first | refine q_aload_n dL_law_158 rfl ?_ | refine q_aload_nN dL_law_158 rfl ?_
  first | refine q_aload_n dL_law_159 rfl ?_ | refine q_aload_nN dL_law_159 rfl ?_
  refine q_iload dL_law_160 rfl ?_
  refine q_iconst (v := 1) dL_law_162 (by decide) ?_
  refine q_iadd dL_law_163 ?_
  refine q_sld (8 * k + 1) hSX dL_law_164 (nI_add _ 1) (by omega) ?_
  first | refine q_aload_n dL_law_165 rfl ?_ | refine q_aload_nN dL_law_165 rfl ?_
  refine q_iload dL_law_166 rfl ?_
  refine q_iconst (v := 2) dL_law_168 (by decide) ?_
  refine q_iadd dL_law_169 ?_
  refine q_sld (8 * k + 2) hSX dL_law_170 (nI_add _ 2) (by omega) ?_
  first | refine q_aload_n dL_law_171 rfl ?_ | refine q_aload_nN dL_law_171 rfl ?_
  refine q_iload dL_law_172 rfl ?_
  refine q_iconst (v := 3) dL_law_174 (by decide) ?_
  refine q_iadd dL_law_175 ?_
  refine q_sld (8 * k + 3) hSX dL_law_176 (nI_add _ 3) (by omega) ?_
  refine q_callV 11 dL_law_177 mk_L_30 rfl m1.K (mc_shelf l G Z1 (x + 30) σ e m1 _ _ _) rfl np_X12_shelf (by decide) (show cells + 0 + 0 ≤ 601024 by omega) (show slots + 0 + 0 ≤ 7293034 by omega) (Nat.le_of_ble_eq_true rfl) (kI (fun r2 Z2 h2 => ?_))
  obtain ⟨e2, f2, e9, m2⟩ := h2
  refine q_icmp_eq 1343 dL_law_180 (by decide) (fun c180 => ?_) (fun c180 => absurd c180 (not_not_intro (e1.trans e2.symm)))
  refine q_widen (show cells + 0 + 0 ≤ cells + 4 by omega) (show slots + 0 + 0 ≤ slots + 29 by omega) ?_
  exact kk _ _ _ (LV_end c1 o1 f2 m2 (PX_shelf hP _ _ _))
set_option maxHeartbeats 600000 in
set_option maxRecDepth 100000 in
theorem jl_1 (l : Launch) (hl : l.stackTraces = false) (G : Gt) (nm : String) (M : Mt) (Q : State → Prop) (b L : Nat) (xs : Nat → Int32) (hSX : SX G M b L xs) (hX : KX G M.2.2.2.1) (k cells slots : Nat) (hk : 8 * k + 8 ≤ L) (hcl : cells + 8 ≤ 601024) (hsl : slots + 64 ≤ 7293034) (x : Nat) (Z : Zt) (hV : LV x Z) (o5 o6 : Option Value) (kk : ∀ Z' o5 o6, LV x Z' → Jd l G (YLw nm) BLw M Z' (cells + 4) (slots + 29) Q 1343 [some (.ref b), some (.ref x), some (.ref (x + 30)), some (.ref (x + 60)), some (.int (nI (8 * k))), o5, o6, none] []) : Jd l G (YLw nm) BLw M Z cells slots Q 185 [some (.ref b), some (.ref x), some (.ref (x + 30)), some (.ref (x + 60)), some (.int (nI (8 * k))), o5, o6, none] [] := by
  obtain ⟨σ, e, af, as, nf, ns, hC, hM, ho, hP⟩ := hV
  first | refine q_aload_n dL_law_185 rfl ?_ | refine q_aload_nN dL_law_185 rfl ?_
  first | refine q_aload_n dL_law_186 rfl ?_ | refine q_aload_nN dL_law_186 rfl ?_
  refine q_iload dL_law_187 rfl ?_
  refine q_iconst (v := 1) dL_law_189 (by decide) ?_
  refine q_iadd dL_law_190 ?_
  refine q_sld (8 * k + 1) hSX dL_law_191 (nI_add _ 1) (by omega) ?_
  first | refine q_aload_n dL_law_192 rfl ?_ | refine q_aload_nN dL_law_192 rfl ?_
  refine q_iload dL_law_193 rfl ?_
  refine q_iconst (v := 2) dL_law_195 (by decide) ?_
  refine q_iadd dL_law_196 ?_
  refine q_sld (8 * k + 2) hSX dL_law_197 (nI_add _ 2) (by omega) ?_
  first | refine q_aload_n dL_law_198 rfl ?_ | refine q_aload_nN dL_law_198 rfl ?_
  refine q_iload dL_law_199 rfl ?_
  refine q_iconst (v := 3) dL_law_201 (by decide) ?_
  refine q_iadd dL_law_202 ?_
  refine q_sld (8 * k + 3) hSX dL_law_203 (nI_add _ 3) (by omega) ?_
  refine q_i2l dL_law_204 ?_
  refine q_bipush (v := 32) dL_law_205 (by decide) ?_
  refine q_lshl dL_law_207 ?_
  first | refine q_aload_n dL_law_208 rfl ?_ | refine q_aload_nN dL_law_208 rfl ?_
  refine q_iload dL_law_209 rfl ?_
  refine q_iconst (v := 4) dL_law_211 (by decide) ?_
  refine q_iadd dL_law_212 ?_
  refine q_sld (8 * k + 4) hSX dL_law_213 (nI_add _ 4) (by omega) ?_
  refine q_i2l dL_law_214 ?_
  refine q_ldc2 dL_law_215 kl_L_31 ?_
  refine q_land dL_law_218 ?_
  refine q_lor dL_law_219 ?_
  refine q_callV 10 dL_law_220 mk_L_33 rfl hC.1.1.1.1 (cc_item l G Z x nf ns af as σ hC _ _ _) rfl np_X11_item (by decide) (show cells + 0 ≤ 601024 by omega) (show slots + 0 ≤ 7293034 by omega) (Nat.le_of_ble_eq_true rfl) (kI (fun r1 Z1 h1 => ?_))
  obtain ⟨e1, c1, km⟩ := h1
  have m1 := km.mr hM
  have o1 := km.ou ho
  first | refine q_aload_n dL_law_223 rfl ?_ | refine q_aload_nN dL_law_223 rfl ?_
  first | refine q_aload_n dL_law_224 rfl ?_ | refine q_aload_nN dL_law_224 rfl ?_
  refine q_iload dL_law_225 rfl ?_
  refine q_iconst (v := 1) dL_law_227 (by decide) ?_
  refine q_iadd dL_law_228 ?_
  refine q_sld (8 * k + 1) hSX dL_law_229 (nI_add _ 1) (by omega) ?_
  first | refine q_aload_n dL_law_230 rfl ?_ | refine q_aload_nN dL_law_230 rfl ?_
  refine q_iload dL_law_231 rfl ?_
  refine q_iconst (v := 2) dL_law_233 (by decide) ?_
  refine q_iadd dL_law_234 ?_
  refine q_sld (8 * k + 2) hSX dL_law_235 (nI_add _ 2) (by omega) ?_
  first | refine q_aload_n dL_law_236 rfl ?_ | refine q_aload_nN dL_law_236 rfl ?_
  refine q_iload dL_law_237 rfl ?_
  refine q_iconst (v := 3) dL_law_239 (by decide) ?_
  refine q_iadd dL_law_240 ?_
  refine q_sld (8 * k + 3) hSX dL_law_241 (nI_add _ 3) (by omega) ?_
  refine q_i2l dL_law_242 ?_
  refine q_bipush (v := 32) dL_law_243 (by decide) ?_
  refine q_lshl dL_law_245 ?_
  first | refine q_aload_n dL_law_246 rfl ?_ | refine q_aload_nN dL_law_246 rfl ?_
  refine q_iload dL_law_247 rfl ?_
  refine q_iconst (v := 4) dL_law_249 (by decide) ?_
  refine q_iadd dL_law_250 ?_
  refine q_sld (8 * k + 4) hSX dL_law_251 (nI_add _ 4) (by omega) ?_
  refine q_i2l dL_law_252 ?_
  refine q_ldc2 dL_law_253 kl_L_31 ?_
  refine q_land dL_law_256 ?_
  refine q_lor dL_law_257 ?_
  refine q_callV 11 dL_law_258 mk_L_37 rfl m1.K (mc_item l G Z1 (x + 30) σ e m1 hC.sh2 _ _ _) rfl np_X12_item (by decide) (show cells + 0 + 0 ≤ 601024 by omega) (show slots + 0 + 0 ≤ 7293034 by omega) (Nat.le_of_ble_eq_true rfl) (kI (fun r2 Z2 h2 => ?_))
  obtain ⟨e2, f2, e9, m2⟩ := h2
  refine q_icmp_eq 1343 dL_law_261 (by decide) (fun c261 => ?_) (fun c261 => absurd c261 (not_not_intro (e1.trans e2.symm)))
  refine q_widen (show cells + 0 + 0 ≤ cells + 4 by omega) (show slots + 0 + 0 ≤ slots + 29 by omega) ?_
  exact kk _ _ _ (LV_end c1 o1 f2 m2 (PX_item hP _ _ _))
set_option maxHeartbeats 600000 in
set_option maxRecDepth 100000 in
theorem jl_2 (l : Launch) (hl : l.stackTraces = false) (G : Gt) (nm : String) (M : Mt) (Q : State → Prop) (b L : Nat) (xs : Nat → Int32) (hSX : SX G M b L xs) (hX : KX G M.2.2.2.1) (k cells slots : Nat) (hk : 8 * k + 8 ≤ L) (hcl : cells + 8 ≤ 601024) (hsl : slots + 64 ≤ 7293034) (x : Nat) (Z : Zt) (hV : LV x Z) (o5 o6 : Option Value) (kk : ∀ Z' o5 o6, LV x Z' → Jd l G (YLw nm) BLw M Z' (cells + 4) (slots + 29) Q 1343 [some (.ref b), some (.ref x), some (.ref (x + 30)), some (.ref (x + 60)), some (.int (nI (8 * k))), o5, o6, none] []) : Jd l G (YLw nm) BLw M Z cells slots Q 266 [some (.ref b), some (.ref x), some (.ref (x + 30)), some (.ref (x + 60)), some (.int (nI (8 * k))), o5, o6, none] [] := by
  obtain ⟨σ, e, af, as, nf, ns, hC, hM, ho, hP⟩ := hV
  first | refine q_aload_n dL_law_266 rfl ?_ | refine q_aload_nN dL_law_266 rfl ?_
  first | refine q_aload_n dL_law_267 rfl ?_ | refine q_aload_nN dL_law_267 rfl ?_
  refine q_iload dL_law_268 rfl ?_
  refine q_iconst (v := 1) dL_law_270 (by decide) ?_
  refine q_iadd dL_law_271 ?_
  refine q_sld (8 * k + 1) hSX dL_law_272 (nI_add _ 1) (by omega) ?_
  first | refine q_aload_n dL_law_273 rfl ?_ | refine q_aload_nN dL_law_273 rfl ?_
  refine q_iload dL_law_274 rfl ?_
  refine q_iconst (v := 2) dL_law_276 (by decide) ?_
  refine q_iadd dL_law_277 ?_
  refine q_sld (8 * k + 2) hSX dL_law_278 (nI_add _ 2) (by omega) ?_
  refine q_callV 10 dL_law_279 mk_L_38 rfl hC.1.1.1.1 (cc_box l G Z x nf ns af as σ hC _ _) rfl np_X11_box (by decide) (show cells + 0 ≤ 601024 by omega) (show slots + 0 ≤ 7293034 by omega) (Nat.le_of_ble_eq_true rfl) (kI (fun r1 Z1 h1 => ?_))
  obtain ⟨e0, e1⟩ := h1
  rw [e0]
  have m1 := hM
  first | refine q_aload_n dL_law_282 rfl ?_ | refine q_aload_nN dL_law_282 rfl ?_
  first | refine q_aload_n dL_law_283 rfl ?_ | refine q_aload_nN dL_law_283 rfl ?_
  refine q_iload dL_law_284 rfl ?_
  refine q_iconst (v := 1) dL_law_286 (by decide) ?_
  refine q_iadd dL_law_287 ?_
  refine q_sld (8 * k + 1) hSX dL_law_288 (nI_add _ 1) (by omega) ?_
  first | refine q_aload_n dL_law_289 rfl ?_ | refine q_aload_nN dL_law_289 rfl ?_
  refine q_iload dL_law_290 rfl ?_
  refine q_iconst (v := 2) dL_law_292 (by decide) ?_
  refine q_iadd dL_law_293 ?_
  refine q_sld (8 * k + 2) hSX dL_law_294 (nI_add _ 2) (by omega) ?_
  refine q_callV 11 dL_law_295 mk_L_42 rfl m1.K (mc_box l G Z (x + 30) σ e m1 _ _) rfl np_X12_box (by decide) (show cells + 0 + 0 ≤ 601024 by omega) (show slots + 0 + 0 ≤ 7293034 by omega) (Nat.le_of_ble_eq_true rfl) (kI (fun r2 Z2 h2 => ?_))
  obtain ⟨e2, f2, e9, m2⟩ := h2
  refine q_icmp_eq 1343 dL_law_298 (by decide) (fun c298 => ?_) (fun c298 => absurd c298 (not_not_intro (e1.trans e2.symm)))
  refine q_widen (show cells + 0 + 0 ≤ cells + 4 by omega) (show slots + 0 + 0 ≤ slots + 29 by omega) ?_
  exact kk _ _ _ (LV_end hC ho f2 m2 hP)
set_option maxHeartbeats 600000 in
set_option maxRecDepth 100000 in
theorem jl_3 (l : Launch) (hl : l.stackTraces = false) (G : Gt) (nm : String) (M : Mt) (Q : State → Prop) (b L : Nat) (xs : Nat → Int32) (hSX : SX G M b L xs) (hX : KX G M.2.2.2.1) (k cells slots : Nat) (hk : 8 * k + 8 ≤ L) (hcl : cells + 8 ≤ 601024) (hsl : slots + 64 ≤ 7293034) (x : Nat) (Z : Zt) (hV : LV x Z) (o5 o6 : Option Value) (kk : ∀ Z' o5 o6, LV x Z' → Jd l G (YLw nm) BLw M Z' (cells + 4) (slots + 29) Q 1343 [some (.ref b), some (.ref x), some (.ref (x + 30)), some (.ref (x + 60)), some (.int (nI (8 * k))), o5, o6, none] []) : Jd l G (YLw nm) BLw M Z cells slots Q 303 [some (.ref b), some (.ref x), some (.ref (x + 30)), some (.ref (x + 60)), some (.int (nI (8 * k))), o5, o6, none] [] := by
  obtain ⟨σ, e, af, as, nf, ns, hC, hM, ho, hP⟩ := hV
  first | refine q_aload_n dL_law_303 rfl ?_ | refine q_aload_nN dL_law_303 rfl ?_
  first | refine q_aload_n dL_law_304 rfl ?_ | refine q_aload_nN dL_law_304 rfl ?_
  refine q_iload dL_law_305 rfl ?_
  refine q_iconst (v := 1) dL_law_307 (by decide) ?_
  refine q_iadd dL_law_308 ?_
  refine q_sld (8 * k + 1) hSX dL_law_309 (nI_add _ 1) (by omega) ?_
  first | refine q_aload_n dL_law_310 rfl ?_ | refine q_aload_nN dL_law_310 rfl ?_
  refine q_iload dL_law_311 rfl ?_
  refine q_iconst (v := 2) dL_law_313 (by decide) ?_
  refine q_iadd dL_law_314 ?_
  refine q_sld (8 * k + 2) hSX dL_law_315 (nI_add _ 2) (by omega) ?_
  first | refine q_aload_n dL_law_316 rfl ?_ | refine q_aload_nN dL_law_316 rfl ?_
  refine q_iload dL_law_317 rfl ?_
  refine q_iconst (v := 3) dL_law_319 (by decide) ?_
  refine q_iadd dL_law_320 ?_
  refine q_sld (8 * k + 3) hSX dL_law_321 (nI_add _ 3) (by omega) ?_
  first | refine q_aload_n dL_law_322 rfl ?_ | refine q_aload_nN dL_law_322 rfl ?_
  refine q_iload dL_law_323 rfl ?_
  refine q_iconst (v := 4) dL_law_325 (by decide) ?_
  refine q_iadd dL_law_326 ?_
  refine q_sld (8 * k + 4) hSX dL_law_327 (nI_add _ 4) (by omega) ?_
  refine q_i2l dL_law_328 ?_
  refine q_bipush (v := 32) dL_law_329 (by decide) ?_
  refine q_lshl dL_law_331 ?_
  first | refine q_aload_n dL_law_332 rfl ?_ | refine q_aload_nN dL_law_332 rfl ?_
  refine q_iload dL_law_333 rfl ?_
  refine q_iconst (v := 5) dL_law_335 (by decide) ?_
  refine q_iadd dL_law_336 ?_
  refine q_sld (8 * k + 5) hSX dL_law_337 (nI_add _ 5) (by omega) ?_
  refine q_i2l dL_law_338 ?_
  refine q_ldc2 dL_law_339 kl_L_31 ?_
  refine q_land dL_law_342 ?_
  refine q_lor dL_law_343 ?_
  refine q_callV 10 dL_law_344 mk_L_43 rfl hC.1.1.1.1 (cc_filter l G Z x nf ns af as σ hC _ _ _ _) rfl np_X11_filter (by decide) (show cells + 1 ≤ 601024 by omega) (show slots + 6 ≤ 7293034 by omega) (Nat.le_of_ble_eq_true rfl) (kI (fun r1 Z1 h1 => ?_))
  obtain ⟨af1, nf1, e1, c1, km⟩ := h1
  have m1 := km.mr hM
  have o1 := km.ou ho
  first | refine q_aload_n dL_law_347 rfl ?_ | refine q_aload_nN dL_law_347 rfl ?_
  first | refine q_aload_n dL_law_348 rfl ?_ | refine q_aload_nN dL_law_348 rfl ?_
  refine q_iload dL_law_349 rfl ?_
  refine q_iconst (v := 1) dL_law_351 (by decide) ?_
  refine q_iadd dL_law_352 ?_
  refine q_sld (8 * k + 1) hSX dL_law_353 (nI_add _ 1) (by omega) ?_
  first | refine q_aload_n dL_law_354 rfl ?_ | refine q_aload_nN dL_law_354 rfl ?_
  refine q_iload dL_law_355 rfl ?_
  refine q_iconst (v := 2) dL_law_357 (by decide) ?_
  refine q_iadd dL_law_358 ?_
  refine q_sld (8 * k + 2) hSX dL_law_359 (nI_add _ 2) (by omega) ?_
  first | refine q_aload_n dL_law_360 rfl ?_ | refine q_aload_nN dL_law_360 rfl ?_
  refine q_iload dL_law_361 rfl ?_
  refine q_iconst (v := 3) dL_law_363 (by decide) ?_
  refine q_iadd dL_law_364 ?_
  refine q_sld (8 * k + 3) hSX dL_law_365 (nI_add _ 3) (by omega) ?_
  first | refine q_aload_n dL_law_366 rfl ?_ | refine q_aload_nN dL_law_366 rfl ?_
  refine q_iload dL_law_367 rfl ?_
  refine q_iconst (v := 4) dL_law_369 (by decide) ?_
  refine q_iadd dL_law_370 ?_
  refine q_sld (8 * k + 4) hSX dL_law_371 (nI_add _ 4) (by omega) ?_
  refine q_i2l dL_law_372 ?_
  refine q_bipush (v := 32) dL_law_373 (by decide) ?_
  refine q_lshl dL_law_375 ?_
  first | refine q_aload_n dL_law_376 rfl ?_ | refine q_aload_nN dL_law_376 rfl ?_
  refine q_iload dL_law_377 rfl ?_
  refine q_iconst (v := 5) dL_law_379 (by decide) ?_
  refine q_iadd dL_law_380 ?_
  refine q_sld (8 * k + 5) hSX dL_law_381 (nI_add _ 5) (by omega) ?_
  refine q_i2l dL_law_382 ?_
  refine q_ldc2 dL_law_383 kl_L_31 ?_
  refine q_land dL_law_386 ?_
  refine q_lor dL_law_387 ?_
  refine q_callV 11 dL_law_388 mk_L_47 rfl m1.K (mc_filter l G Z1 (x + 30) σ e m1 nf hC.h6 hC.hnf _ _ _ _) rfl np_X12_filter (by decide) (show cells + 1 + 0 ≤ 601024 by omega) (show slots + 6 + 0 ≤ 7293034 by omega) (Nat.le_of_ble_eq_true rfl) (kI (fun r2 Z2 h2 => ?_))
  obtain ⟨e2, f2, e9, m2⟩ := h2
  refine q_icmp_eq 1343 dL_law_391 (by decide) (fun c391 => ?_) (fun c391 => absurd c391 (not_not_intro (e1.trans e2.symm)))
  refine q_widen (show cells + 1 + 0 ≤ cells + 4 by omega) (show slots + 6 + 0 ≤ slots + 29 by omega) ?_
  exact kk _ _ _ (LV_end c1 o1 f2 m2 (PX_filter hP hC.h6 hC.hnf _ _ _ _))
set_option maxHeartbeats 600000 in
set_option maxRecDepth 100000 in
theorem jl_4 (l : Launch) (hl : l.stackTraces = false) (G : Gt) (nm : String) (M : Mt) (Q : State → Prop) (b L : Nat) (xs : Nat → Int32) (hSX : SX G M b L xs) (hX : KX G M.2.2.2.1) (k cells slots : Nat) (hk : 8 * k + 8 ≤ L) (hcl : cells + 8 ≤ 601024) (hsl : slots + 64 ≤ 7293034) (x : Nat) (Z : Zt) (hV : LV x Z) (o5 o6 : Option Value) (kk : ∀ Z' o5 o6, LV x Z' → Jd l G (YLw nm) BLw M Z' (cells + 4) (slots + 29) Q 1343 [some (.ref b), some (.ref x), some (.ref (x + 30)), some (.ref (x + 60)), some (.int (nI (8 * k))), o5, o6, none] []) : Jd l G (YLw nm) BLw M Z cells slots Q 396 [some (.ref b), some (.ref x), some (.ref (x + 30)), some (.ref (x + 60)), some (.int (nI (8 * k))), o5, o6, none] [] := by
  obtain ⟨σ, e, af, as, nf, ns, hC, hM, ho, hP⟩ := hV
  first | refine q_aload_n dL_law_396 rfl ?_ | refine q_aload_nN dL_law_396 rfl ?_
  first | refine q_aload_n dL_law_397 rfl ?_ | refine q_aload_nN dL_law_397 rfl ?_
  refine q_iload dL_law_398 rfl ?_
  refine q_iconst (v := 1) dL_law_400 (by decide) ?_
  refine q_iadd dL_law_401 ?_
  refine q_sld (8 * k + 1) hSX dL_law_402 (nI_add _ 1) (by omega) ?_
  first | refine q_aload_n dL_law_403 rfl ?_ | refine q_aload_nN dL_law_403 rfl ?_
  refine q_iload dL_law_404 rfl ?_
  refine q_iconst (v := 2) dL_law_406 (by decide) ?_
  refine q_iadd dL_law_407 ?_
  refine q_sld (8 * k + 2) hSX dL_law_408 (nI_add _ 2) (by omega) ?_
  refine q_i2l dL_law_409 ?_
  refine q_bipush (v := 32) dL_law_410 (by decide) ?_
  refine q_lshl dL_law_412 ?_
  first | refine q_aload_n dL_law_413 rfl ?_ | refine q_aload_nN dL_law_413 rfl ?_
  refine q_iload dL_law_414 rfl ?_
  refine q_iconst (v := 3) dL_law_416 (by decide) ?_
  refine q_iadd dL_law_417 ?_
  refine q_sld (8 * k + 3) hSX dL_law_418 (nI_add _ 3) (by omega) ?_
  refine q_i2l dL_law_419 ?_
  refine q_ldc2 dL_law_420 kl_L_31 ?_
  refine q_land dL_law_423 ?_
  refine q_lor dL_law_424 ?_
  refine q_callV 10 dL_law_425 mk_L_48 rfl hC.1.1.1.1 (cc_ask l G Z x nf ns af as σ hC (MK_of hM ho) _ _) rfl np_X11_ask (by decide) (show cells + 0 ≤ 601024 by omega) (show slots + 0 ≤ 7293034 by omega) (Nat.le_of_ble_eq_true rfl) (kI (fun r1 Z1 h1 => ?_))
  obtain ⟨e1, c1, km⟩ := h1
  have m1 := km.mr hM
  have o1 := km.ou ho
  first | refine q_aload_n dL_law_428 rfl ?_ | refine q_aload_nN dL_law_428 rfl ?_
  first | refine q_aload_n dL_law_429 rfl ?_ | refine q_aload_nN dL_law_429 rfl ?_
  refine q_iload dL_law_430 rfl ?_
  refine q_iconst (v := 1) dL_law_432 (by decide) ?_
  refine q_iadd dL_law_433 ?_
  refine q_sld (8 * k + 1) hSX dL_law_434 (nI_add _ 1) (by omega) ?_
  first | refine q_aload_n dL_law_435 rfl ?_ | refine q_aload_nN dL_law_435 rfl ?_
  refine q_iload dL_law_436 rfl ?_
  refine q_iconst (v := 2) dL_law_438 (by decide) ?_
  refine q_iadd dL_law_439 ?_
  refine q_sld (8 * k + 2) hSX dL_law_440 (nI_add _ 2) (by omega) ?_
  refine q_i2l dL_law_441 ?_
  refine q_bipush (v := 32) dL_law_442 (by decide) ?_
  refine q_lshl dL_law_444 ?_
  first | refine q_aload_n dL_law_445 rfl ?_ | refine q_aload_nN dL_law_445 rfl ?_
  refine q_iload dL_law_446 rfl ?_
  refine q_iconst (v := 3) dL_law_448 (by decide) ?_
  refine q_iadd dL_law_449 ?_
  refine q_sld (8 * k + 3) hSX dL_law_450 (nI_add _ 3) (by omega) ?_
  refine q_i2l dL_law_451 ?_
  refine q_ldc2 dL_law_452 kl_L_31 ?_
  refine q_land dL_law_455 ?_
  refine q_lor dL_law_456 ?_
  refine q_callV 11 dL_law_457 mk_L_52 rfl m1.K (mc_ask l G Z1 (x + 30) σ e m1 nf hC.h6 (hC.pff hP) _ _) rfl np_X12_ask (by decide) (show cells + 0 + 0 ≤ 601024 by omega) (show slots + 0 + 0 ≤ 7293034 by omega) (Nat.le_of_ble_eq_true rfl) (kI (fun r2 Z2 h2 => ?_))
  obtain ⟨e2, f2, e9, m2⟩ := h2
  refine q_icmp_eq 1343 dL_law_460 (by decide) (fun c460 => ?_) (fun c460 => absurd c460 (not_not_intro (e1.trans e2.symm)))
  refine q_widen (show cells + 0 + 0 ≤ cells + 4 by omega) (show slots + 0 + 0 ≤ slots + 29 by omega) ?_
  exact kk _ _ _ (LV_end c1 o1 f2 m2 (PX_ask hP _ _))
set_option maxHeartbeats 600000 in
set_option maxRecDepth 100000 in
theorem jl_5 (l : Launch) (hl : l.stackTraces = false) (G : Gt) (nm : String) (M : Mt) (Q : State → Prop) (b L : Nat) (xs : Nat → Int32) (hSX : SX G M b L xs) (hX : KX G M.2.2.2.1) (k cells slots : Nat) (hk : 8 * k + 8 ≤ L) (hcl : cells + 8 ≤ 601024) (hsl : slots + 64 ≤ 7293034) (x : Nat) (Z : Zt) (hV : LV x Z) (o5 o6 : Option Value) (kk : ∀ Z' o5 o6, LV x Z' → Jd l G (YLw nm) BLw M Z' (cells + 4) (slots + 29) Q 1343 [some (.ref b), some (.ref x), some (.ref (x + 30)), some (.ref (x + 60)), some (.int (nI (8 * k))), o5, o6, none] []) : Jd l G (YLw nm) BLw M Z cells slots Q 465 [some (.ref b), some (.ref x), some (.ref (x + 30)), some (.ref (x + 60)), some (.int (nI (8 * k))), o5, o6, none] [] := by
  obtain ⟨σ, e, af, as, nf, ns, hC, hM, ho, hP⟩ := hV
  first | refine q_aload_n dL_law_465 rfl ?_ | refine q_aload_nN dL_law_465 rfl ?_
  first | refine q_aload_n dL_law_466 rfl ?_ | refine q_aload_nN dL_law_466 rfl ?_
  refine q_iload dL_law_467 rfl ?_
  refine q_iconst (v := 1) dL_law_469 (by decide) ?_
  refine q_iadd dL_law_470 ?_
  refine q_sld (8 * k + 1) hSX dL_law_471 (nI_add _ 1) (by omega) ?_
  refine q_callV 10 dL_law_472 mk_L_53 rfl hC.1.1.1.1 (cc_asked l G Z x nf ns af as σ hC _) rfl np_X11_asked (by decide) (show cells + 0 ≤ 601024 by omega) (show slots + 0 ≤ 7293034 by omega) (Nat.le_of_ble_eq_true rfl) (kI (fun r1 Z1 h1 => ?_))
  obtain ⟨e0, e1⟩ := h1
  rw [e0]
  have m1 := hM
  first | refine q_aload_n dL_law_475 rfl ?_ | refine q_aload_nN dL_law_475 rfl ?_
  first | refine q_aload_n dL_law_476 rfl ?_ | refine q_aload_nN dL_law_476 rfl ?_
  refine q_iload dL_law_477 rfl ?_
  refine q_iconst (v := 1) dL_law_479 (by decide) ?_
  refine q_iadd dL_law_480 ?_
  refine q_sld (8 * k + 1) hSX dL_law_481 (nI_add _ 1) (by omega) ?_
  refine q_callV 11 dL_law_482 mk_L_57 rfl m1.K (mc_asked l G Z (x + 30) σ e m1 nf hC.h6 hC.hnf _) rfl np_X12_asked (by decide) (show cells + 0 + 0 ≤ 601024 by omega) (show slots + 0 + 0 ≤ 7293034 by omega) (Nat.le_of_ble_eq_true rfl) (kI (fun r2 Z2 h2 => ?_))
  obtain ⟨e2, f2, e9, m2⟩ := h2
  refine q_icmp_eq 1343 dL_law_485 (by decide) (fun c485 => ?_) (fun c485 => absurd c485 (not_not_intro (e1.trans e2.symm)))
  refine q_widen (show cells + 0 + 0 ≤ cells + 4 by omega) (show slots + 0 + 0 ≤ slots + 29 by omega) ?_
  exact kk _ _ _ (LV_end hC ho f2 m2 hP)
set_option maxHeartbeats 600000 in
set_option maxRecDepth 100000 in
theorem jl_6 (l : Launch) (hl : l.stackTraces = false) (G : Gt) (nm : String) (M : Mt) (Q : State → Prop) (b L : Nat) (xs : Nat → Int32) (hSX : SX G M b L xs) (hX : KX G M.2.2.2.1) (k cells slots : Nat) (hk : 8 * k + 8 ≤ L) (hcl : cells + 8 ≤ 601024) (hsl : slots + 64 ≤ 7293034) (x : Nat) (Z : Zt) (hV : LV x Z) (o5 o6 : Option Value) (kk : ∀ Z' o5 o6, LV x Z' → Jd l G (YLw nm) BLw M Z' (cells + 4) (slots + 29) Q 1343 [some (.ref b), some (.ref x), some (.ref (x + 30)), some (.ref (x + 60)), some (.int (nI (8 * k))), o5, o6, none] []) : Jd l G (YLw nm) BLw M Z cells slots Q 490 [some (.ref b), some (.ref x), some (.ref (x + 30)), some (.ref (x + 60)), some (.int (nI (8 * k))), o5, o6, none] [] := by
  obtain ⟨σ, e, af, as, nf, ns, hC, hM, ho, hP⟩ := hV
  first | refine q_aload_n dL_law_490 rfl ?_ | refine q_aload_nN dL_law_490 rfl ?_
  first | refine q_aload_n dL_law_491 rfl ?_ | refine q_aload_nN dL_law_491 rfl ?_
  refine q_iload dL_law_492 rfl ?_
  refine q_iconst (v := 1) dL_law_494 (by decide) ?_
  refine q_iadd dL_law_495 ?_
  refine q_sld (8 * k + 1) hSX dL_law_496 (nI_add _ 1) (by omega) ?_
  refine q_i2l dL_law_497 ?_
  refine q_bipush (v := 32) dL_law_498 (by decide) ?_
  refine q_lshl dL_law_500 ?_
  first | refine q_aload_n dL_law_501 rfl ?_ | refine q_aload_nN dL_law_501 rfl ?_
  refine q_iload dL_law_502 rfl ?_
  refine q_iconst (v := 2) dL_law_504 (by decide) ?_
  refine q_iadd dL_law_505 ?_
  refine q_sld (8 * k + 2) hSX dL_law_506 (nI_add _ 2) (by omega) ?_
  refine q_i2l dL_law_507 ?_
  refine q_ldc2 dL_law_508 kl_L_31 ?_
  refine q_land dL_law_511 ?_
  refine q_lor dL_law_512 ?_
  first | refine q_aload_n dL_law_513 rfl ?_ | refine q_aload_nN dL_law_513 rfl ?_
  refine q_iload dL_law_514 rfl ?_
  refine q_iconst (v := 3) dL_law_516 (by decide) ?_
  refine q_iadd dL_law_517 ?_
  refine q_sld (8 * k + 3) hSX dL_law_518 (nI_add _ 3) (by omega) ?_
  refine q_i2l dL_law_519 ?_
  refine q_bipush (v := 32) dL_law_520 (by decide) ?_
  refine q_lshl dL_law_522 ?_
  first | refine q_aload_n dL_law_523 rfl ?_ | refine q_aload_nN dL_law_523 rfl ?_
  refine q_iload dL_law_524 rfl ?_
  refine q_iconst (v := 4) dL_law_526 (by decide) ?_
  refine q_iadd dL_law_527 ?_
  refine q_sld (8 * k + 4) hSX dL_law_528 (nI_add _ 4) (by omega) ?_
  refine q_i2l dL_law_529 ?_
  refine q_ldc2 dL_law_530 kl_L_31 ?_
  refine q_land dL_law_533 ?_
  refine q_lor dL_law_534 ?_
  first | refine q_aload_n dL_law_535 rfl ?_ | refine q_aload_nN dL_law_535 rfl ?_
  refine q_iload dL_law_536 rfl ?_
  refine q_iconst (v := 5) dL_law_538 (by decide) ?_
  refine q_iadd dL_law_539 ?_
  refine q_sld (8 * k + 5) hSX dL_law_540 (nI_add _ 5) (by omega) ?_
  refine q_i2l dL_law_541 ?_
  refine q_bipush (v := 32) dL_law_542 (by decide) ?_
  refine q_lshl dL_law_544 ?_
  first | refine q_aload_n dL_law_545 rfl ?_ | refine q_aload_nN dL_law_545 rfl ?_
  refine q_iload dL_law_546 rfl ?_
  refine q_bipush (v := 6) dL_law_548 (by decide) ?_
  refine q_iadd dL_law_550 ?_
  refine q_sld (8 * k + 6) hSX dL_law_551 (nI_add _ 6) (by omega) ?_
  refine q_i2l dL_law_552 ?_
  refine q_ldc2 dL_law_553 kl_L_31 ?_
  refine q_land dL_law_556 ?_
  refine q_lor dL_law_557 ?_
  refine q_callV 10 dL_law_558 mk_L_58 rfl hC.1.1.1.1 (cc_span l G Z x nf ns af as σ hC _ _ _) rfl np_X11_span (by decide) (show cells + 2 ≤ 601024 by omega) (show slots + 13 ≤ 7293034 by omega) (Nat.le_of_ble_eq_true rfl) (kI (fun r1 Z1 h1 => ?_))
  obtain ⟨af1, nf1, e1, c1, km⟩ := h1
  have m1 := km.mr hM
  have o1 := km.ou ho
  first | refine q_aload_n dL_law_561 rfl ?_ | refine q_aload_nN dL_law_561 rfl ?_
  first | refine q_aload_n dL_law_562 rfl ?_ | refine q_aload_nN dL_law_562 rfl ?_
  refine q_iload dL_law_563 rfl ?_
  refine q_iconst (v := 1) dL_law_565 (by decide) ?_
  refine q_iadd dL_law_566 ?_
  refine q_sld (8 * k + 1) hSX dL_law_567 (nI_add _ 1) (by omega) ?_
  refine q_i2l dL_law_568 ?_
  refine q_bipush (v := 32) dL_law_569 (by decide) ?_
  refine q_lshl dL_law_571 ?_
  first | refine q_aload_n dL_law_572 rfl ?_ | refine q_aload_nN dL_law_572 rfl ?_
  refine q_iload dL_law_573 rfl ?_
  refine q_iconst (v := 2) dL_law_575 (by decide) ?_
  refine q_iadd dL_law_576 ?_
  refine q_sld (8 * k + 2) hSX dL_law_577 (nI_add _ 2) (by omega) ?_
  refine q_i2l dL_law_578 ?_
  refine q_ldc2 dL_law_579 kl_L_31 ?_
  refine q_land dL_law_582 ?_
  refine q_lor dL_law_583 ?_
  first | refine q_aload_n dL_law_584 rfl ?_ | refine q_aload_nN dL_law_584 rfl ?_
  refine q_iload dL_law_585 rfl ?_
  refine q_iconst (v := 3) dL_law_587 (by decide) ?_
  refine q_iadd dL_law_588 ?_
  refine q_sld (8 * k + 3) hSX dL_law_589 (nI_add _ 3) (by omega) ?_
  refine q_i2l dL_law_590 ?_
  refine q_bipush (v := 32) dL_law_591 (by decide) ?_
  refine q_lshl dL_law_593 ?_
  first | refine q_aload_n dL_law_594 rfl ?_ | refine q_aload_nN dL_law_594 rfl ?_
  refine q_iload dL_law_595 rfl ?_
  refine q_iconst (v := 4) dL_law_597 (by decide) ?_
  refine q_iadd dL_law_598 ?_
  refine q_sld (8 * k + 4) hSX dL_law_599 (nI_add _ 4) (by omega) ?_
  refine q_i2l dL_law_600 ?_
  refine q_ldc2 dL_law_601 kl_L_31 ?_
  refine q_land dL_law_604 ?_
  refine q_lor dL_law_605 ?_
  first | refine q_aload_n dL_law_606 rfl ?_ | refine q_aload_nN dL_law_606 rfl ?_
  refine q_iload dL_law_607 rfl ?_
  refine q_iconst (v := 5) dL_law_609 (by decide) ?_
  refine q_iadd dL_law_610 ?_
  refine q_sld (8 * k + 5) hSX dL_law_611 (nI_add _ 5) (by omega) ?_
  refine q_i2l dL_law_612 ?_
  refine q_bipush (v := 32) dL_law_613 (by decide) ?_
  refine q_lshl dL_law_615 ?_
  first | refine q_aload_n dL_law_616 rfl ?_ | refine q_aload_nN dL_law_616 rfl ?_
  refine q_iload dL_law_617 rfl ?_
  refine q_bipush (v := 6) dL_law_619 (by decide) ?_
  refine q_iadd dL_law_621 ?_
  refine q_sld (8 * k + 6) hSX dL_law_622 (nI_add _ 6) (by omega) ?_
  refine q_i2l dL_law_623 ?_
  refine q_ldc2 dL_law_624 kl_L_31 ?_
  refine q_land dL_law_627 ?_
  refine q_lor dL_law_628 ?_
  refine q_callV 11 dL_law_629 mk_L_62 rfl m1.K (mc_span l G Z1 (x + 30) σ e m1 ns hC.h16 hC.hns _ _ _) rfl np_X12_span (by decide) (show cells + 2 + 0 ≤ 601024 by omega) (show slots + 13 + 0 ≤ 7293034 by omega) (Nat.le_of_ble_eq_true rfl) (kI (fun r2 Z2 h2 => ?_))
  obtain ⟨e2, f2, e9, m2⟩ := h2
  refine q_icmp_eq 1343 dL_law_632 (by decide) (fun c632 => ?_) (fun c632 => absurd c632 (not_not_intro (e1.trans e2.symm)))
  refine q_widen (show cells + 2 + 0 ≤ cells + 4 by omega) (show slots + 13 + 0 ≤ slots + 29 by omega) ?_
  exact kk _ _ _ (LV_end c1 o1 f2 m2 (PX_span hP _ _ _))
set_option maxHeartbeats 600000 in
set_option maxRecDepth 100000 in
theorem jl_7 (l : Launch) (hl : l.stackTraces = false) (G : Gt) (nm : String) (M : Mt) (Q : State → Prop) (b L : Nat) (xs : Nat → Int32) (hSX : SX G M b L xs) (hX : KX G M.2.2.2.1) (k cells slots : Nat) (hk : 8 * k + 8 ≤ L) (hcl : cells + 8 ≤ 601024) (hsl : slots + 64 ≤ 7293034) (x : Nat) (Z : Zt) (hV : LV x Z) (o5 o6 : Option Value) (kk : ∀ Z' o5 o6, LV x Z' → Jd l G (YLw nm) BLw M Z' (cells + 4) (slots + 29) Q 1343 [some (.ref b), some (.ref x), some (.ref (x + 30)), some (.ref (x + 60)), some (.int (nI (8 * k))), o5, o6, none] []) : Jd l G (YLw nm) BLw M Z cells slots Q 637 [some (.ref b), some (.ref x), some (.ref (x + 30)), some (.ref (x + 60)), some (.int (nI (8 * k))), o5, o6, none] [] := by
  obtain ⟨σ, e, af, as, nf, ns, hC, hM, ho, hP⟩ := hV
  first | refine q_aload_n dL_law_637 rfl ?_ | refine q_aload_nN dL_law_637 rfl ?_
  refine q_callV 10 dL_law_638 mk_L_63 rfl hC.1.1.1.1 (cc_list l G Z x nf ns af as σ hC) rfl np_X11_list (by decide) (show cells + 4 ≤ 601024 by omega) (show slots + 29 ≤ 7293034 by omega) (Nat.le_of_ble_eq_true rfl) (kI (fun r1 Z1 h1 => ?_))
  obtain ⟨af1, nf1, e1, c1, km⟩ := h1
  have m1 := km.mr hM
  have o1 := km.ou ho
  first | refine q_aload_n dL_law_641 rfl ?_ | refine q_aload_nN dL_law_641 rfl ?_
  refine q_callV 11 dL_law_642 mk_L_67 rfl m1.K (mc_list l G Z1 (x + 30) σ e m1 ns hC.h16 hC.hns) rfl np_X12_list (by decide) (show cells + 4 + 0 ≤ 601024 by omega) (show slots + 29 + 0 ≤ 7293034 by omega) (Nat.le_of_ble_eq_true rfl) (kI (fun r2 Z2 h2 => ?_))
  obtain ⟨e2, f2, e9, m2⟩ := h2
  refine q_icmp_eq 1343 dL_law_645 (by decide) (fun c645 => ?_) (fun c645 => absurd c645 (not_not_intro (e1.trans e2.symm)))
  refine q_widen (show cells + 4 + 0 ≤ cells + 4 by omega) (show slots + 29 + 0 ≤ slots + 29 by omega) ?_
  exact kk _ _ _ (LV_end c1 o1 f2 m2 (PX_list hP))
set_option maxHeartbeats 600000 in
set_option maxRecDepth 100000 in
theorem jl_8 (l : Launch) (hl : l.stackTraces = false) (G : Gt) (nm : String) (M : Mt) (Q : State → Prop) (b L : Nat) (xs : Nat → Int32) (hSX : SX G M b L xs) (hX : KX G M.2.2.2.1) (k cells slots : Nat) (hk : 8 * k + 8 ≤ L) (hcl : cells + 8 ≤ 601024) (hsl : slots + 64 ≤ 7293034) (x : Nat) (Z : Zt) (hV : LV x Z) (o5 o6 : Option Value) (kk : ∀ Z' o5 o6, LV x Z' → Jd l G (YLw nm) BLw M Z' (cells + 4) (slots + 29) Q 1343 [some (.ref b), some (.ref x), some (.ref (x + 30)), some (.ref (x + 60)), some (.int (nI (8 * k))), o5, o6, none] []) : Jd l G (YLw nm) BLw M Z cells slots Q 650 [some (.ref b), some (.ref x), some (.ref (x + 30)), some (.ref (x + 60)), some (.int (nI (8 * k))), o5, o6, none] [] := by
  obtain ⟨σ, e, af, as, nf, ns, hC, hM, ho, hP⟩ := hV
  first | refine q_aload_n dL_law_650 rfl ?_ | refine q_aload_nN dL_law_650 rfl ?_
  first | refine q_aload_n dL_law_651 rfl ?_ | refine q_aload_nN dL_law_651 rfl ?_
  refine q_iload dL_law_652 rfl ?_
  refine q_iconst (v := 1) dL_law_654 (by decide) ?_
  refine q_iadd dL_law_655 ?_
  refine q_sld (8 * k + 1) hSX dL_law_656 (nI_add _ 1) (by omega) ?_
  first | refine q_aload_n dL_law_657 rfl ?_ | refine q_aload_nN dL_law_657 rfl ?_
  refine q_iload dL_law_658 rfl ?_
  refine q_iconst (v := 2) dL_law_660 (by decide) ?_
  refine q_iadd dL_law_661 ?_
  refine q_sld (8 * k + 2) hSX dL_law_662 (nI_add _ 2) (by omega) ?_
  refine q_i2l dL_law_663 ?_
  refine q_bipush (v := 32) dL_law_664 (by decide) ?_
  refine q_lshl dL_law_666 ?_
  first | refine q_aload_n dL_law_667 rfl ?_ | refine q_aload_nN dL_law_667 rfl ?_
  refine q_iload dL_law_668 rfl ?_
  refine q_iconst (v := 3) dL_law_670 (by decide) ?_
  refine q_iadd dL_law_671 ?_
  refine q_sld (8 * k + 3) hSX dL_law_672 (nI_add _ 3) (by omega) ?_
  refine q_i2l dL_law_673 ?_
  refine q_ldc2 dL_law_674 kl_L_31 ?_
  refine q_land dL_law_677 ?_
  refine q_lor dL_law_678 ?_
  refine q_callV 10 dL_law_679 mk_L_68 rfl hC.1.1.1.1 (cc_add l G Z x nf ns af as σ hC _ _) rfl np_X11_add (by decide) (show cells + 0 ≤ 601024 by omega) (show slots + 0 ≤ 7293034 by omega) (Nat.le_of_ble_eq_true rfl) (kI (fun r1 Z1 h1 => ?_))
  obtain ⟨e1, c1, km⟩ := h1
  have m1 := km.mr hM
  have o1 := km.ou ho
  first | refine q_aload_n dL_law_682 rfl ?_ | refine q_aload_nN dL_law_682 rfl ?_
  first | refine q_aload_n dL_law_683 rfl ?_ | refine q_aload_nN dL_law_683 rfl ?_
  refine q_iload dL_law_684 rfl ?_
  refine q_iconst (v := 1) dL_law_686 (by decide) ?_
  refine q_iadd dL_law_687 ?_
  refine q_sld (8 * k + 1) hSX dL_law_688 (nI_add _ 1) (by omega) ?_
  first | refine q_aload_n dL_law_689 rfl ?_ | refine q_aload_nN dL_law_689 rfl ?_
  refine q_iload dL_law_690 rfl ?_
  refine q_iconst (v := 2) dL_law_692 (by decide) ?_
  refine q_iadd dL_law_693 ?_
  refine q_sld (8 * k + 2) hSX dL_law_694 (nI_add _ 2) (by omega) ?_
  refine q_i2l dL_law_695 ?_
  refine q_bipush (v := 32) dL_law_696 (by decide) ?_
  refine q_lshl dL_law_698 ?_
  first | refine q_aload_n dL_law_699 rfl ?_ | refine q_aload_nN dL_law_699 rfl ?_
  refine q_iload dL_law_700 rfl ?_
  refine q_iconst (v := 3) dL_law_702 (by decide) ?_
  refine q_iadd dL_law_703 ?_
  refine q_sld (8 * k + 3) hSX dL_law_704 (nI_add _ 3) (by omega) ?_
  refine q_i2l dL_law_705 ?_
  refine q_ldc2 dL_law_706 kl_L_31 ?_
  refine q_land dL_law_709 ?_
  refine q_lor dL_law_710 ?_
  refine q_callV 11 dL_law_711 mk_L_71 rfl m1.K (mc_add l G Z1 (x + 30) σ e m1 ns hC.h16 hC.hns hC.hl _ _) rfl np_X12_add (by decide) (show cells + 0 + 0 ≤ 601024 by omega) (show slots + 0 + 0 ≤ 7293034 by omega) (Nat.le_of_ble_eq_true rfl) (kI (fun r2 Z2 h2 => ?_))
  obtain ⟨e2, f2, e9, m2⟩ := h2
  refine q_icmp_eq 1343 dL_law_714 (by decide) (fun c714 => ?_) (fun c714 => absurd c714 (not_not_intro (e1.trans e2.symm)))
  refine q_widen (show cells + 0 + 0 ≤ cells + 4 by omega) (show slots + 0 + 0 ≤ slots + 29 by omega) ?_
  exact kk _ _ _ (LV_end c1 o1 f2 m2 (PX_add hP _ _))
set_option maxHeartbeats 600000 in
set_option maxRecDepth 100000 in
theorem jl_9 (l : Launch) (hl : l.stackTraces = false) (G : Gt) (nm : String) (M : Mt) (Q : State → Prop) (b L : Nat) (xs : Nat → Int32) (hSX : SX G M b L xs) (hX : KX G M.2.2.2.1) (k cells slots : Nat) (hk : 8 * k + 8 ≤ L) (hcl : cells + 8 ≤ 601024) (hsl : slots + 64 ≤ 7293034) (x : Nat) (Z : Zt) (hV : LV x Z) (o5 o6 : Option Value) (kk : ∀ Z' o5 o6, LV x Z' → Jd l G (YLw nm) BLw M Z' (cells + 4) (slots + 29) Q 1343 [some (.ref b), some (.ref x), some (.ref (x + 30)), some (.ref (x + 60)), some (.int (nI (8 * k))), o5, o6, none] []) : Jd l G (YLw nm) BLw M Z cells slots Q 719 [some (.ref b), some (.ref x), some (.ref (x + 30)), some (.ref (x + 60)), some (.int (nI (8 * k))), o5, o6, none] [] := by
  obtain ⟨σ, e, af, as, nf, ns, hC, hM, ho, hP⟩ := hV
  first | refine q_aload_n dL_law_719 rfl ?_ | refine q_aload_nN dL_law_719 rfl ?_
  first | refine q_aload_n dL_law_720 rfl ?_ | refine q_aload_nN dL_law_720 rfl ?_
  refine q_iload dL_law_721 rfl ?_
  refine q_iconst (v := 1) dL_law_723 (by decide) ?_
  refine q_iadd dL_law_724 ?_
  refine q_sld (8 * k + 1) hSX dL_law_725 (nI_add _ 1) (by omega) ?_
  first | refine q_aload_n dL_law_726 rfl ?_ | refine q_aload_nN dL_law_726 rfl ?_
  refine q_iload dL_law_727 rfl ?_
  refine q_iconst (v := 2) dL_law_729 (by decide) ?_
  refine q_iadd dL_law_730 ?_
  refine q_sld (8 * k + 2) hSX dL_law_731 (nI_add _ 2) (by omega) ?_
  first | refine q_aload_n dL_law_732 rfl ?_ | refine q_aload_nN dL_law_732 rfl ?_
  refine q_iload dL_law_733 rfl ?_
  refine q_iconst (v := 3) dL_law_735 (by decide) ?_
  refine q_iadd dL_law_736 ?_
  refine q_sld (8 * k + 3) hSX dL_law_737 (nI_add _ 3) (by omega) ?_
  first | refine q_aload_n dL_law_738 rfl ?_ | refine q_aload_nN dL_law_738 rfl ?_
  refine q_iload dL_law_739 rfl ?_
  refine q_iconst (v := 4) dL_law_741 (by decide) ?_
  refine q_iadd dL_law_742 ?_
  refine q_sld (8 * k + 4) hSX dL_law_743 (nI_add _ 4) (by omega) ?_
  first | refine q_aload_n dL_law_744 rfl ?_ | refine q_aload_nN dL_law_744 rfl ?_
  refine q_iload dL_law_745 rfl ?_
  refine q_iconst (v := 5) dL_law_747 (by decide) ?_
  refine q_iadd dL_law_748 ?_
  refine q_sld (8 * k + 5) hSX dL_law_749 (nI_add _ 5) (by omega) ?_
  first | refine q_aload_n dL_law_750 rfl ?_ | refine q_aload_nN dL_law_750 rfl ?_
  refine q_iload dL_law_751 rfl ?_
  refine q_bipush (v := 6) dL_law_753 (by decide) ?_
  refine q_iadd dL_law_755 ?_
  refine q_sld (8 * k + 6) hSX dL_law_756 (nI_add _ 6) (by omega) ?_
  refine q_i2l dL_law_757 ?_
  refine q_bipush (v := 32) dL_law_758 (by decide) ?_
  refine q_lshl dL_law_760 ?_
  first | refine q_aload_n dL_law_761 rfl ?_ | refine q_aload_nN dL_law_761 rfl ?_
  refine q_iload dL_law_762 rfl ?_
  refine q_bipush (v := 7) dL_law_764 (by decide) ?_
  refine q_iadd dL_law_766 ?_
  refine q_sld (8 * k + 7) hSX dL_law_767 (nI_add _ 7) (by omega) ?_
  refine q_i2l dL_law_768 ?_
  refine q_ldc2 dL_law_769 kl_L_31 ?_
  refine q_land dL_law_772 ?_
  refine q_lor dL_law_773 ?_
  refine q_callV 10 dL_law_774 mk_L_72 rfl hC.1.1.1.1 (cc_source l G Z x nf ns af as σ hC _ _ _ _ _ _) rfl np_X11_source (by decide) (show cells + 2 ≤ 601024 by omega) (show slots + 13 ≤ 7293034 by omega) (Nat.le_of_ble_eq_true rfl) (kI (fun r1 Z1 h1 => ?_))
  obtain ⟨af1, nf1, e1, c1, km⟩ := h1
  have m1 := km.mr hM
  have o1 := km.ou ho
  first | refine q_aload_n dL_law_777 rfl ?_ | refine q_aload_nN dL_law_777 rfl ?_
  first | refine q_aload_n dL_law_778 rfl ?_ | refine q_aload_nN dL_law_778 rfl ?_
  refine q_iload dL_law_779 rfl ?_
  refine q_iconst (v := 1) dL_law_781 (by decide) ?_
  refine q_iadd dL_law_782 ?_
  refine q_sld (8 * k + 1) hSX dL_law_783 (nI_add _ 1) (by omega) ?_
  first | refine q_aload_n dL_law_784 rfl ?_ | refine q_aload_nN dL_law_784 rfl ?_
  refine q_iload dL_law_785 rfl ?_
  refine q_iconst (v := 2) dL_law_787 (by decide) ?_
  refine q_iadd dL_law_788 ?_
  refine q_sld (8 * k + 2) hSX dL_law_789 (nI_add _ 2) (by omega) ?_
  first | refine q_aload_n dL_law_790 rfl ?_ | refine q_aload_nN dL_law_790 rfl ?_
  refine q_iload dL_law_791 rfl ?_
  refine q_iconst (v := 3) dL_law_793 (by decide) ?_
  refine q_iadd dL_law_794 ?_
  refine q_sld (8 * k + 3) hSX dL_law_795 (nI_add _ 3) (by omega) ?_
  first | refine q_aload_n dL_law_796 rfl ?_ | refine q_aload_nN dL_law_796 rfl ?_
  refine q_iload dL_law_797 rfl ?_
  refine q_iconst (v := 4) dL_law_799 (by decide) ?_
  refine q_iadd dL_law_800 ?_
  refine q_sld (8 * k + 4) hSX dL_law_801 (nI_add _ 4) (by omega) ?_
  first | refine q_aload_n dL_law_802 rfl ?_ | refine q_aload_nN dL_law_802 rfl ?_
  refine q_iload dL_law_803 rfl ?_
  refine q_iconst (v := 5) dL_law_805 (by decide) ?_
  refine q_iadd dL_law_806 ?_
  refine q_sld (8 * k + 5) hSX dL_law_807 (nI_add _ 5) (by omega) ?_
  first | refine q_aload_n dL_law_808 rfl ?_ | refine q_aload_nN dL_law_808 rfl ?_
  refine q_iload dL_law_809 rfl ?_
  refine q_bipush (v := 6) dL_law_811 (by decide) ?_
  refine q_iadd dL_law_813 ?_
  refine q_sld (8 * k + 6) hSX dL_law_814 (nI_add _ 6) (by omega) ?_
  refine q_i2l dL_law_815 ?_
  refine q_bipush (v := 32) dL_law_816 (by decide) ?_
  refine q_lshl dL_law_818 ?_
  first | refine q_aload_n dL_law_819 rfl ?_ | refine q_aload_nN dL_law_819 rfl ?_
  refine q_iload dL_law_820 rfl ?_
  refine q_bipush (v := 7) dL_law_822 (by decide) ?_
  refine q_iadd dL_law_824 ?_
  refine q_sld (8 * k + 7) hSX dL_law_825 (nI_add _ 7) (by omega) ?_
  refine q_i2l dL_law_826 ?_
  refine q_ldc2 dL_law_827 kl_L_31 ?_
  refine q_land dL_law_830 ?_
  refine q_lor dL_law_831 ?_
  refine q_callV 11 dL_law_832 mk_L_76 rfl m1.K (mc_source l G Z1 (x + 30) σ e m1 ns hC.h16 hC.hns nf hC.h6 hC.hnf hC.h24 _ _ _ _ _ _) rfl np_X12_source (by decide) (show cells + 2 + 0 ≤ 601024 by omega) (show slots + 13 + 0 ≤ 7293034 by omega) (Nat.le_of_ble_eq_true rfl) (kI (fun r2 Z2 h2 => ?_))
  obtain ⟨e2, f2, e9, m2⟩ := h2
  refine q_icmp_eq 1343 dL_law_835 (by decide) (fun c835 => ?_) (fun c835 => absurd c835 (not_not_intro (e1.trans e2.symm)))
  refine q_widen (show cells + 2 + 0 ≤ cells + 4 by omega) (show slots + 13 + 0 ≤ slots + 29 by omega) ?_
  exact kk _ _ _ (LV_end c1 o1 f2 m2 (PX_source hP _ _ _ _ _ _))
set_option maxHeartbeats 600000 in
set_option maxRecDepth 100000 in
theorem jl_10 (l : Launch) (hl : l.stackTraces = false) (G : Gt) (nm : String) (M : Mt) (Q : State → Prop) (b L : Nat) (xs : Nat → Int32) (hSX : SX G M b L xs) (hX : KX G M.2.2.2.1) (k cells slots : Nat) (hk : 8 * k + 8 ≤ L) (hcl : cells + 8 ≤ 601024) (hsl : slots + 64 ≤ 7293034) (x : Nat) (Z : Zt) (hV : LV x Z) (o5 o6 : Option Value) (kk : ∀ Z' o5 o6, LV x Z' → Jd l G (YLw nm) BLw M Z' (cells + 4) (slots + 29) Q 1343 [some (.ref b), some (.ref x), some (.ref (x + 30)), some (.ref (x + 60)), some (.int (nI (8 * k))), o5, o6, none] []) : Jd l G (YLw nm) BLw M Z cells slots Q 840 [some (.ref b), some (.ref x), some (.ref (x + 30)), some (.ref (x + 60)), some (.int (nI (8 * k))), o5, o6, none] [] := by
  obtain ⟨σ, e, af, as, nf, ns, hC, hM, ho, hP⟩ := hV
  first | refine q_aload_n dL_law_840 rfl ?_ | refine q_aload_nN dL_law_840 rfl ?_
  first | refine q_aload_n dL_law_841 rfl ?_ | refine q_aload_nN dL_law_841 rfl ?_
  refine q_iload dL_law_842 rfl ?_
  refine q_iconst (v := 1) dL_law_844 (by decide) ?_
  refine q_iadd dL_law_845 ?_
  refine q_sld (8 * k + 1) hSX dL_law_846 (nI_add _ 1) (by omega) ?_
  refine q_callV 10 dL_law_847 mk_L_77 rfl hC.1.1.1.1 (cc_range l G Z x nf ns af as σ hC (MK_of hM ho) _) rfl np_X11_range (by decide) (show cells + 0 ≤ 601024 by omega) (show slots + 0 ≤ 7293034 by omega) (Nat.le_of_ble_eq_true rfl) (kI (fun r1 Z1 h1 => ?_))
  obtain ⟨e1, c1, km⟩ := h1
  have m1 := km.mr hM
  have o1 := km.ou ho
  first | refine q_aload_n dL_law_850 rfl ?_ | refine q_aload_nN dL_law_850 rfl ?_
  first | refine q_aload_n dL_law_851 rfl ?_ | refine q_aload_nN dL_law_851 rfl ?_
  refine q_iload dL_law_852 rfl ?_
  refine q_iconst (v := 1) dL_law_854 (by decide) ?_
  refine q_iadd dL_law_855 ?_
  refine q_sld (8 * k + 1) hSX dL_law_856 (nI_add _ 1) (by omega) ?_
  refine q_callV 11 dL_law_857 mk_L_80 rfl m1.K (mc_range l G Z1 (x + 30) σ e m1 ns nf hC.h16 hC.pfs (hC.pff hP) _) rfl np_X12_range (by decide) (show cells + 0 + 0 ≤ 601024 by omega) (show slots + 0 + 0 ≤ 7293034 by omega) (Nat.le_of_ble_eq_true rfl) (kI (fun r2 Z2 h2 => ?_))
  obtain ⟨e2, f2, e9, m2⟩ := h2
  refine q_icmp_eq 1343 dL_law_860 (by decide) (fun c860 => ?_) (fun c860 => absurd c860 (not_not_intro (e1.trans e2.symm)))
  refine q_widen (show cells + 0 + 0 ≤ cells + 4 by omega) (show slots + 0 + 0 ≤ slots + 29 by omega) ?_
  exact kk _ _ _ (LV_end c1 o1 f2 m2 (PX_range hP _))
set_option maxHeartbeats 600000 in
set_option maxRecDepth 100000 in
theorem jl_11 (l : Launch) (hl : l.stackTraces = false) (G : Gt) (nm : String) (M : Mt) (Q : State → Prop) (b L : Nat) (xs : Nat → Int32) (hSX : SX G M b L xs) (hX : KX G M.2.2.2.1) (k cells slots : Nat) (hk : 8 * k + 8 ≤ L) (hcl : cells + 8 ≤ 601024) (hsl : slots + 64 ≤ 7293034) (x : Nat) (Z : Zt) (hV : LV x Z) (o5 o6 : Option Value) (kk : ∀ Z' o5 o6, LV x Z' → Jd l G (YLw nm) BLw M Z' (cells + 4) (slots + 29) Q 1343 [some (.ref b), some (.ref x), some (.ref (x + 30)), some (.ref (x + 60)), some (.int (nI (8 * k))), o5, o6, none] []) : Jd l G (YLw nm) BLw M Z cells slots Q 865 [some (.ref b), some (.ref x), some (.ref (x + 30)), some (.ref (x + 60)), some (.int (nI (8 * k))), o5, o6, none] [] := by
  obtain ⟨σ, e, af, as, nf, ns, hC, hM, ho, hP⟩ := hV
  first | refine q_aload_n dL_law_865 rfl ?_ | refine q_aload_nN dL_law_865 rfl ?_
  refine q_callV 10 dL_law_866 mk_L_81 rfl hC.1.1.1.1 (cc_size l G Z x nf ns af as σ hC) rfl np_X11_size (by decide) (show cells + 0 ≤ 601024 by omega) (show slots + 0 ≤ 7293034 by omega) (Nat.le_of_ble_eq_true rfl) (kL (fun r1 Z1 h1 => ?_))
  obtain ⟨e0, e1⟩ := h1
  rw [e0]
  have m1 := hM
  first | refine q_aload_n dL_law_869 rfl ?_ | refine q_aload_nN dL_law_869 rfl ?_
  refine q_callV 11 dL_law_870 mk_L_85 rfl m1.K (mc_size l G Z (x + 30) σ e m1) rfl np_X12_size (by decide) (show cells + 0 + 0 ≤ 601024 by omega) (show slots + 0 + 0 ≤ 7293034 by omega) (Nat.le_of_ble_eq_true rfl) (kL (fun r2 Z2 h2 => ?_))
  obtain ⟨e2, f2, e9, m2⟩ := h2
  refine q_lcmp_eq 1343 dL_law_873 dL_law_874 (by decide) (fun c873 => ?_) (fun c873 => absurd c873 (not_not_intro (e1.trans e2.symm)))
  refine q_widen (show cells + 0 + 0 ≤ cells + 4 by omega) (show slots + 0 + 0 ≤ slots + 29 by omega) ?_
  exact kk _ _ _ (LV_end hC ho f2 m2 hP)
set_option maxHeartbeats 600000 in
set_option maxRecDepth 100000 in
theorem jl_13 (l : Launch) (hl : l.stackTraces = false) (G : Gt) (nm : String) (M : Mt) (Q : State → Prop) (b L : Nat) (xs : Nat → Int32) (hSX : SX G M b L xs) (hX : KX G M.2.2.2.1) (k cells slots : Nat) (hk : 8 * k + 8 ≤ L) (hcl : cells + 8 ≤ 601024) (hsl : slots + 64 ≤ 7293034) (x : Nat) (Z : Zt) (hV : LV x Z) (o5 o6 : Option Value) (kk : ∀ Z' o5 o6, LV x Z' → Jd l G (YLw nm) BLw M Z' (cells + 4) (slots + 29) Q 1343 [some (.ref b), some (.ref x), some (.ref (x + 30)), some (.ref (x + 60)), some (.int (nI (8 * k))), o5, o6, none] []) : Jd l G (YLw nm) BLw M Z cells slots Q 966 [some (.ref b), some (.ref x), some (.ref (x + 30)), some (.ref (x + 60)), some (.int (nI (8 * k))), o5, o6, none] [] := by
  obtain ⟨σ, e, af, as, nf, ns, hC, hM, ho, hP⟩ := hV
  first | refine q_aload_n dL_law_966 rfl ?_ | refine q_aload_nN dL_law_966 rfl ?_
  first | refine q_aload_n dL_law_967 rfl ?_ | refine q_aload_nN dL_law_967 rfl ?_
  refine q_iload dL_law_968 rfl ?_
  refine q_iconst (v := 1) dL_law_970 (by decide) ?_
  refine q_iadd dL_law_971 ?_
  refine q_sld (8 * k + 1) hSX dL_law_972 (nI_add _ 1) (by omega) ?_
  refine q_i2l dL_law_973 ?_
  refine q_bipush (v := 32) dL_law_974 (by decide) ?_
  refine q_lshl dL_law_976 ?_
  first | refine q_aload_n dL_law_977 rfl ?_ | refine q_aload_nN dL_law_977 rfl ?_
  refine q_iload dL_law_978 rfl ?_
  refine q_iconst (v := 2) dL_law_980 (by decide) ?_
  refine q_iadd dL_law_981 ?_
  refine q_sld (8 * k + 2) hSX dL_law_982 (nI_add _ 2) (by omega) ?_
  refine q_i2l dL_law_983 ?_
  refine q_ldc2 dL_law_984 kl_L_31 ?_
  refine q_land dL_law_987 ?_
  refine q_lor dL_law_988 ?_
  refine q_callV 10 dL_law_989 mk_L_95 rfl hC.1.1.1.1 (cc_place l G Z x nf ns af as σ hC _) rfl np_X11_place (by decide) (show cells + 0 ≤ 601024 by omega) (show slots + 0 ≤ 7293034 by omega) (Nat.le_of_ble_eq_true rfl) (kL (fun r1 Z1 h1 => ?_))
  obtain ⟨e0, e1⟩ := h1
  rw [e0]
  have m1 := hM
  first | refine q_aload_n dL_law_992 rfl ?_ | refine q_aload_nN dL_law_992 rfl ?_
  first | refine q_aload_n dL_law_993 rfl ?_ | refine q_aload_nN dL_law_993 rfl ?_
  refine q_iload dL_law_994 rfl ?_
  refine q_iconst (v := 1) dL_law_996 (by decide) ?_
  refine q_iadd dL_law_997 ?_
  refine q_sld (8 * k + 1) hSX dL_law_998 (nI_add _ 1) (by omega) ?_
  refine q_i2l dL_law_999 ?_
  refine q_bipush (v := 32) dL_law_1000 (by decide) ?_
  refine q_lshl dL_law_1002 ?_
  first | refine q_aload_n dL_law_1003 rfl ?_ | refine q_aload_nN dL_law_1003 rfl ?_
  refine q_iload dL_law_1004 rfl ?_
  refine q_iconst (v := 2) dL_law_1006 (by decide) ?_
  refine q_iadd dL_law_1007 ?_
  refine q_sld (8 * k + 2) hSX dL_law_1008 (nI_add _ 2) (by omega) ?_
  refine q_i2l dL_law_1009 ?_
  refine q_ldc2 dL_law_1010 kl_L_31 ?_
  refine q_land dL_law_1013 ?_
  refine q_lor dL_law_1014 ?_
  refine q_callV 11 dL_law_1015 mk_L_98 rfl m1.K (mc_place l G Z (x + 30) σ e m1 hC.pl _) rfl np_X12_place (by decide) (show cells + 0 + 0 ≤ 601024 by omega) (show slots + 0 + 0 ≤ 7293034 by omega) (Nat.le_of_ble_eq_true rfl) (kL (fun r2 Z2 h2 => ?_))
  obtain ⟨p2, f2, m2⟩ := h2
  have e2 := fstP_fun p2 e1
  replace e1 : r1 = r1 := rfl
  refine q_lcmp_eq 1343 dL_law_1018 dL_law_1019 (by decide) (fun c1018 => ?_) (fun c1018 => absurd c1018 (not_not_intro (e1.trans e2.symm)))
  refine q_widen (show cells + 0 + 0 ≤ cells + 4 by omega) (show slots + 0 + 0 ≤ slots + 29 by omega) ?_
  exact kk _ _ _ (LV_end hC ho f2 m2 hP)
set_option maxHeartbeats 600000 in
set_option maxRecDepth 100000 in
theorem jl_15 (l : Launch) (hl : l.stackTraces = false) (G : Gt) (nm : String) (M : Mt) (Q : State → Prop) (b L : Nat) (xs : Nat → Int32) (hSX : SX G M b L xs) (hX : KX G M.2.2.2.1) (k cells slots : Nat) (hk : 8 * k + 8 ≤ L) (hcl : cells + 8 ≤ 601024) (hsl : slots + 64 ≤ 7293034) (x : Nat) (Z : Zt) (hV : LV x Z) (o5 o6 : Option Value) (kk : ∀ Z' o5 o6, LV x Z' → Jd l G (YLw nm) BLw M Z' (cells + 4) (slots + 29) Q 1343 [some (.ref b), some (.ref x), some (.ref (x + 30)), some (.ref (x + 60)), some (.int (nI (8 * k))), o5, o6, none] []) : Jd l G (YLw nm) BLw M Z cells slots Q 1111 [some (.ref b), some (.ref x), some (.ref (x + 30)), some (.ref (x + 60)), some (.int (nI (8 * k))), o5, o6, none] [] := by
  obtain ⟨σ, e, af, as, nf, ns, hC, hM, ho, hP⟩ := hV
  first | refine q_aload_n dL_law_1111 rfl ?_ | refine q_aload_nN dL_law_1111 rfl ?_
  refine q_callV 10 dL_law_1112 mk_L_102 rfl hC.1.1.1.1 (cc_barred l G Z x nf ns af as σ hC) rfl np_X11_barred (by decide) (show cells + 0 ≤ 601024 by omega) (show slots + 0 ≤ 7293034 by omega) (Nat.le_of_ble_eq_true rfl) (kI (fun r1 Z1 h1 => ?_))
  obtain ⟨e0, e1⟩ := h1
  rw [e0]
  have m1 := hM
  first | refine q_aload_n dL_law_1115 rfl ?_ | refine q_aload_nN dL_law_1115 rfl ?_
  refine q_callV 11 dL_law_1116 mk_L_105 rfl m1.K (mc_barred l G Z (x + 30) σ e m1) rfl np_X12_barred (by decide) (show cells + 0 + 0 ≤ 601024 by omega) (show slots + 0 + 0 ≤ 7293034 by omega) (Nat.le_of_ble_eq_true rfl) (kI (fun r2 Z2 h2 => ?_))
  obtain ⟨e2, f2, e9, m2⟩ := h2
  refine q_icmp_eq 1343 dL_law_1119 (by decide) (fun c1119 => ?_) (fun c1119 => absurd c1119 (not_not_intro (e1.trans e2.symm)))
  refine q_widen (show cells + 0 + 0 ≤ cells + 4 by omega) (show slots + 0 + 0 ≤ slots + 29 by omega) ?_
  exact kk _ _ _ (LV_end hC ho f2 m2 hP)
set_option maxHeartbeats 600000 in
set_option maxRecDepth 100000 in
theorem jl_16 (l : Launch) (hl : l.stackTraces = false) (G : Gt) (nm : String) (M : Mt) (Q : State → Prop) (b L : Nat) (xs : Nat → Int32) (hSX : SX G M b L xs) (hX : KX G M.2.2.2.1) (k cells slots : Nat) (hk : 8 * k + 8 ≤ L) (hcl : cells + 8 ≤ 601024) (hsl : slots + 64 ≤ 7293034) (x : Nat) (Z : Zt) (hV : LV x Z) (o5 o6 : Option Value) (kk : ∀ Z' o5 o6, LV x Z' → Jd l G (YLw nm) BLw M Z' (cells + 4) (slots + 29) Q 1343 [some (.ref b), some (.ref x), some (.ref (x + 30)), some (.ref (x + 60)), some (.int (nI (8 * k))), o5, o6, none] []) : Jd l G (YLw nm) BLw M Z cells slots Q 1124 [some (.ref b), some (.ref x), some (.ref (x + 30)), some (.ref (x + 60)), some (.int (nI (8 * k))), o5, o6, none] [] := by
  obtain ⟨σ, e, af, as, nf, ns, hC, hM, ho, hP⟩ := hV
  obtain ⟨nb, hnb, h32⟩ := hC.h32
  first | refine q_aload_n dL_law_1124 rfl ?_ | refine q_aload_nN dL_law_1124 rfl ?_
  first | refine q_aload_n dL_law_1125 rfl ?_ | refine q_aload_nN dL_law_1125 rfl ?_
  refine q_iload dL_law_1126 rfl ?_
  refine q_iconst (v := 1) dL_law_1128 (by decide) ?_
  refine q_iadd dL_law_1129 ?_
  refine q_sld (8 * k + 1) hSX dL_law_1130 (nI_add _ 1) (by omega) ?_
  first | refine q_aload_n dL_law_1131 rfl ?_ | refine q_aload_nN dL_law_1131 rfl ?_
  refine q_iload dL_law_1132 rfl ?_
  refine q_iconst (v := 2) dL_law_1134 (by decide) ?_
  refine q_iadd dL_law_1135 ?_
  refine q_sld (8 * k + 2) hSX dL_law_1136 (nI_add _ 2) (by omega) ?_
  refine q_callV 10 dL_law_1137 mk_L_106 rfl hC.1.1.1.1 (cc_bar l G Z x nf ns af as σ hC _ _) rfl np_X11_bar (by decide) (show cells + 0 ≤ 601024 by omega) (show slots + 0 ≤ 7293034 by omega) (Nat.le_of_ble_eq_true rfl) (kI (fun r1 Z1 h1 => ?_))
  obtain ⟨e0, e1⟩ := h1
  rw [e0]
  have m1 := hM
  first | refine q_aload_n dL_law_1140 rfl ?_ | refine q_aload_nN dL_law_1140 rfl ?_
  first | refine q_aload_n dL_law_1141 rfl ?_ | refine q_aload_nN dL_law_1141 rfl ?_
  refine q_iload dL_law_1142 rfl ?_
  refine q_iconst (v := 1) dL_law_1144 (by decide) ?_
  refine q_iadd dL_law_1145 ?_
  refine q_sld (8 * k + 1) hSX dL_law_1146 (nI_add _ 1) (by omega) ?_
  first | refine q_aload_n dL_law_1147 rfl ?_ | refine q_aload_nN dL_law_1147 rfl ?_
  refine q_iload dL_law_1148 rfl ?_
  refine q_iconst (v := 2) dL_law_1150 (by decide) ?_
  refine q_iadd dL_law_1151 ?_
  refine q_sld (8 * k + 2) hSX dL_law_1152 (nI_add _ 2) (by omega) ?_
  refine q_callV 11 dL_law_1153 mk_L_109 rfl m1.K (mc_bar l G Z (x + 30) σ e m1 nb h32 hnb _ _) rfl np_X12_bar (by decide) (show cells + 0 + 0 ≤ 601024 by omega) (show slots + 0 + 0 ≤ 7293034 by omega) (Nat.le_of_ble_eq_true rfl) (kI (fun r2 Z2 h2 => ?_))
  obtain ⟨e2, f2, e9, m2⟩ := h2
  refine q_icmp_eq 1343 dL_law_1156 (by decide) (fun c1156 => ?_) (fun c1156 => absurd c1156 (not_not_intro (e1.trans e2.symm)))
  refine q_widen (show cells + 0 + 0 ≤ cells + 4 by omega) (show slots + 0 + 0 ≤ slots + 29 by omega) ?_
  exact kk _ _ _ (LV_end hC ho f2 m2 hP)
set_option maxHeartbeats 600000 in
set_option maxRecDepth 100000 in
theorem jl_18 (l : Launch) (hl : l.stackTraces = false) (G : Gt) (nm : String) (M : Mt) (Q : State → Prop) (b L : Nat) (xs : Nat → Int32) (hSX : SX G M b L xs) (hX : KX G M.2.2.2.1) (k cells slots : Nat) (hk : 8 * k + 8 ≤ L) (hcl : cells + 8 ≤ 601024) (hsl : slots + 64 ≤ 7293034) (x : Nat) (Z : Zt) (hV : LV x Z) (o5 o6 : Option Value) (kk : ∀ Z' o5 o6, LV x Z' → Jd l G (YLw nm) BLw M Z' (cells + 4) (slots + 29) Q 1343 [some (.ref b), some (.ref x), some (.ref (x + 30)), some (.ref (x + 60)), some (.int (nI (8 * k))), o5, o6, none] []) : Jd l G (YLw nm) BLw M Z cells slots Q 1216 [some (.ref b), some (.ref x), some (.ref (x + 30)), some (.ref (x + 60)), some (.int (nI (8 * k))), o5, o6, none] [] := by
  obtain ⟨σ, e, af, as, nf, ns, hC, hM, ho, hP⟩ := hV
  first | refine q_aload_n dL_law_1216 rfl ?_ | refine q_aload_nN dL_law_1216 rfl ?_
  first | refine q_aload_n dL_law_1217 rfl ?_ | refine q_aload_nN dL_law_1217 rfl ?_
  refine q_iload dL_law_1218 rfl ?_
  refine q_iconst (v := 1) dL_law_1220 (by decide) ?_
  refine q_iadd dL_law_1221 ?_
  refine q_sld (8 * k + 1) hSX dL_law_1222 (nI_add _ 1) (by omega) ?_
  refine q_i2l dL_law_1223 ?_
  refine q_bipush (v := 32) dL_law_1224 (by decide) ?_
  refine q_lshl dL_law_1226 ?_
  first | refine q_aload_n dL_law_1227 rfl ?_ | refine q_aload_nN dL_law_1227 rfl ?_
  refine q_iload dL_law_1228 rfl ?_
  refine q_iconst (v := 2) dL_law_1230 (by decide) ?_
  refine q_iadd dL_law_1231 ?_
  refine q_sld (8 * k + 2) hSX dL_law_1232 (nI_add _ 2) (by omega) ?_
  refine q_i2l dL_law_1233 ?_
  refine q_ldc2 dL_law_1234 kl_L_31 ?_
  refine q_land dL_law_1237 ?_
  refine q_lor dL_law_1238 ?_
  first | refine q_aload_n dL_law_1239 rfl ?_ | refine q_aload_nN dL_law_1239 rfl ?_
  refine q_iload dL_law_1240 rfl ?_
  refine q_iconst (v := 3) dL_law_1242 (by decide) ?_
  refine q_iadd dL_law_1243 ?_
  refine q_sld (8 * k + 3) hSX dL_law_1244 (nI_add _ 3) (by omega) ?_
  refine q_i2l dL_law_1245 ?_
  refine q_bipush (v := 32) dL_law_1246 (by decide) ?_
  refine q_lshl dL_law_1248 ?_
  first | refine q_aload_n dL_law_1249 rfl ?_ | refine q_aload_nN dL_law_1249 rfl ?_
  refine q_iload dL_law_1250 rfl ?_
  refine q_iconst (v := 4) dL_law_1252 (by decide) ?_
  refine q_iadd dL_law_1253 ?_
  refine q_sld (8 * k + 4) hSX dL_law_1254 (nI_add _ 4) (by omega) ?_
  refine q_i2l dL_law_1255 ?_
  refine q_ldc2 dL_law_1256 kl_L_31 ?_
  refine q_land dL_law_1259 ?_
  refine q_lor dL_law_1260 ?_
  refine q_callV 10 dL_law_1261 mk_L_114 rfl hC.1.1.1.1 (cc_distance l G Z x _ _) rfl np_X11_distance (by decide) (show cells + 0 ≤ 601024 by omega) (show slots + 0 ≤ 7293034 by omega) (Nat.le_of_ble_eq_true rfl) (kL (fun r1 Z1 h1 => ?_))
  obtain ⟨e0, e1⟩ := h1
  rw [e0]
  have m1 := hM
  first | refine q_aload_n dL_law_1264 rfl ?_ | refine q_aload_nN dL_law_1264 rfl ?_
  first | refine q_aload_n dL_law_1265 rfl ?_ | refine q_aload_nN dL_law_1265 rfl ?_
  refine q_iload dL_law_1266 rfl ?_
  refine q_iconst (v := 1) dL_law_1268 (by decide) ?_
  refine q_iadd dL_law_1269 ?_
  refine q_sld (8 * k + 1) hSX dL_law_1270 (nI_add _ 1) (by omega) ?_
  refine q_i2l dL_law_1271 ?_
  refine q_bipush (v := 32) dL_law_1272 (by decide) ?_
  refine q_lshl dL_law_1274 ?_
  first | refine q_aload_n dL_law_1275 rfl ?_ | refine q_aload_nN dL_law_1275 rfl ?_
  refine q_iload dL_law_1276 rfl ?_
  refine q_iconst (v := 2) dL_law_1278 (by decide) ?_
  refine q_iadd dL_law_1279 ?_
  refine q_sld (8 * k + 2) hSX dL_law_1280 (nI_add _ 2) (by omega) ?_
  refine q_i2l dL_law_1281 ?_
  refine q_ldc2 dL_law_1282 kl_L_31 ?_
  refine q_land dL_law_1285 ?_
  refine q_lor dL_law_1286 ?_
  first | refine q_aload_n dL_law_1287 rfl ?_ | refine q_aload_nN dL_law_1287 rfl ?_
  refine q_iload dL_law_1288 rfl ?_
  refine q_iconst (v := 3) dL_law_1290 (by decide) ?_
  refine q_iadd dL_law_1291 ?_
  refine q_sld (8 * k + 3) hSX dL_law_1292 (nI_add _ 3) (by omega) ?_
  refine q_i2l dL_law_1293 ?_
  refine q_bipush (v := 32) dL_law_1294 (by decide) ?_
  refine q_lshl dL_law_1296 ?_
  first | refine q_aload_n dL_law_1297 rfl ?_ | refine q_aload_nN dL_law_1297 rfl ?_
  refine q_iload dL_law_1298 rfl ?_
  refine q_iconst (v := 4) dL_law_1300 (by decide) ?_
  refine q_iadd dL_law_1301 ?_
  refine q_sld (8 * k + 4) hSX dL_law_1302 (nI_add _ 4) (by omega) ?_
  refine q_i2l dL_law_1303 ?_
  refine q_ldc2 dL_law_1304 kl_L_31 ?_
  refine q_land dL_law_1307 ?_
  refine q_lor dL_law_1308 ?_
  refine q_callV 11 dL_law_1309 mk_L_118 rfl m1.K (mc_distance l G Z (x + 30) σ e m1 _ _) rfl np_X12_distance (by decide) (show cells + 0 + 0 ≤ 601024 by omega) (show slots + 0 + 0 ≤ 7293034 by omega) (Nat.le_of_ble_eq_true rfl) (kL (fun r2 Z2 h2 => ?_))
  obtain ⟨e2, f2, e9, m2⟩ := h2
  refine q_lcmp_eq 1343 dL_law_1312 dL_law_1313 (by decide) (fun c1312 => ?_) (fun c1312 => absurd c1312 (not_not_intro (e1.trans e2.symm)))
  refine q_widen (show cells + 0 + 0 ≤ cells + 4 by omega) (show slots + 0 + 0 ≤ slots + 29 by omega) ?_
  exact kk _ _ _ (LV_end hC ho f2 m2 hP)
set_option maxHeartbeats 600000 in
set_option maxRecDepth 100000 in
theorem jl_19 (l : Launch) (hl : l.stackTraces = false) (G : Gt) (nm : String) (M : Mt) (Q : State → Prop) (b L : Nat) (xs : Nat → Int32) (hSX : SX G M b L xs) (hX : KX G M.2.2.2.1) (k cells slots : Nat) (hk : 8 * k + 8 ≤ L) (hcl : cells + 8 ≤ 601024) (hsl : slots + 64 ≤ 7293034) (x : Nat) (Z : Zt) (hV : LV x Z) (o5 o6 : Option Value) (kk : ∀ Z' o5 o6, LV x Z' → Jd l G (YLw nm) BLw M Z' (cells + 4) (slots + 29) Q 1343 [some (.ref b), some (.ref x), some (.ref (x + 30)), some (.ref (x + 60)), some (.int (nI (8 * k))), o5, o6, none] []) : Jd l G (YLw nm) BLw M Z cells slots Q 1318 [some (.ref b), some (.ref x), some (.ref (x + 30)), some (.ref (x + 60)), some (.int (nI (8 * k))), o5, o6, none] [] := by
  obtain ⟨σ, e, af, as, nf, ns, hC, hM, ho, hP⟩ := hV
  first | refine q_aload_n dL_law_1318 rfl ?_ | refine q_aload_nN dL_law_1318 rfl ?_
  first | refine q_aload_n dL_law_1319 rfl ?_ | refine q_aload_nN dL_law_1319 rfl ?_
  refine q_iload dL_law_1320 rfl ?_
  refine q_iconst (v := 1) dL_law_1322 (by decide) ?_
  refine q_iadd dL_law_1323 ?_
  refine q_sld (8 * k + 1) hSX dL_law_1324 (nI_add _ 1) (by omega) ?_
  refine q_callV 10 dL_law_1325 mk_L_119 rfl hC.1.1.1.1 (cc_told l G Z x nf ns af as σ hC _) rfl np_X11_told (by decide) (show cells + 0 ≤ 601024 by omega) (show slots + 0 ≤ 7293034 by omega) (Nat.le_of_ble_eq_true rfl) (kI (fun r1 Z1 h1 => ?_))
  obtain ⟨e0, e1⟩ := h1
  rw [e0]
  have m1 := hM
  first | refine q_aload_n dL_law_1328 rfl ?_ | refine q_aload_nN dL_law_1328 rfl ?_
  first | refine q_aload_n dL_law_1329 rfl ?_ | refine q_aload_nN dL_law_1329 rfl ?_
  refine q_iload dL_law_1330 rfl ?_
  refine q_iconst (v := 1) dL_law_1332 (by decide) ?_
  refine q_iadd dL_law_1333 ?_
  refine q_sld (8 * k + 1) hSX dL_law_1334 (nI_add _ 1) (by omega) ?_
  refine q_callV 11 dL_law_1335 mk_L_122 rfl m1.K (mc_told l G Z (x + 30) σ e m1 hC.h36 _) rfl np_X12_told (by decide) (show cells + 0 + 0 ≤ 601024 by omega) (show slots + 0 + 0 ≤ 7293034 by omega) (Nat.le_of_ble_eq_true rfl) (kI (fun r2 Z2 h2 => ?_))
  obtain ⟨e2, f2, e9, m2⟩ := h2
  refine q_icmp_eq 1343 dL_law_1338 (by decide) (fun c1338 => ?_) (fun c1338 => absurd c1338 (not_not_intro (e1.trans e2.symm)))
  refine q_widen (show cells + 0 + 0 ≤ cells + 4 by omega) (show slots + 0 + 0 ≤ slots + 29 by omega) ?_
  exact kk _ _ _ (LV_end hC ho f2 m2 hP)
set_option maxHeartbeats 600000 in
set_option maxRecDepth 100000 in
theorem jl_12 (l : Launch) (hl : l.stackTraces = false) (G : Gt) (nm : String) (M : Mt) (Q : State → Prop) (b L : Nat) (xs : Nat → Int32) (hSX : SX G M b L xs) (hX : KX G M.2.2.2.1) (k cells slots : Nat) (hk : 8 * k + 8 ≤ L) (hcl : cells + 8 ≤ 601024) (hsl : slots + 64 ≤ 7293034) (x : Nat) (Z : Zt) (hV : LV x Z) (o5 o6 : Option Value) (kk : ∀ Z' o5 o6, LV x Z' → Jd l G (YLw nm) BLw M Z' (cells + 4) (slots + 29) Q 1343 [some (.ref b), some (.ref x), some (.ref (x + 30)), some (.ref (x + 60)), some (.int (nI (8 * k))), o5, o6, none] []) : Jd l G (YLw nm) BLw M Z cells slots Q 879 [some (.ref b), some (.ref x), some (.ref (x + 30)), some (.ref (x + 60)), some (.int (nI (8 * k))), o5, o6, none] [] := by
  obtain ⟨σ, e, af, as, nf, ns, hC, hM, ho, hP⟩ := hV
  by_cases hc : (¬ (((xs (8 * k + 1)).toInt64 <<< ((32 : Int32).toInt64 &&& 63)) ||| ((xs (8 * k + 2)).toInt64 &&& 4294967295)) < 0 ∧ (((xs (8 * k + 1)).toInt64 <<< ((32 : Int32).toInt64 &&& 63)) ||| ((xs (8 * k + 2)).toInt64 &&& 4294967295)) < σ.2 39 0)
  · first | refine q_aload_n dL_law_879 rfl ?_ | refine q_aload_nN dL_law_879 rfl ?_
    first | refine q_aload_n dL_law_880 rfl ?_ | refine q_aload_nN dL_law_880 rfl ?_
    refine q_iload dL_law_881 rfl ?_
    refine q_iconst (v := 1) dL_law_883 (by decide) ?_
    refine q_iadd dL_law_884 ?_
    refine q_sld (8 * k + 1) hSX dL_law_885 (nI_add _ 1) (by omega) ?_
    refine q_i2l dL_law_886 ?_
    refine q_bipush (v := 32) dL_law_887 (by decide) ?_
    refine q_lshl dL_law_889 ?_
    first | refine q_aload_n dL_law_890 rfl ?_ | refine q_aload_nN dL_law_890 rfl ?_
    refine q_iload dL_law_891 rfl ?_
    refine q_iconst (v := 2) dL_law_893 (by decide) ?_
    refine q_iadd dL_law_894 ?_
    refine q_sld (8 * k + 2) hSX dL_law_895 (nI_add _ 2) (by omega) ?_
    refine q_i2l dL_law_896 ?_
    refine q_ldc2 dL_law_897 kl_L_31 ?_
    refine q_land dL_law_900 ?_
    refine q_lor dL_law_901 ?_
    first | refine q_aload_n dL_law_902 rfl ?_ | refine q_aload_nN dL_law_902 rfl ?_
    refine q_callSW dL_law_903 sw_at hX (cl_at l hl G Z x nf ns af as σ hC (x + 60) ho.1 ho.2 _) rfl np_L_at (by decide) (show cells + 1 ≤ 601024 by omega) (show slots + 6 ≤ 7293034 by omega) (Nat.le_of_ble_eq_true rfl) (kI (fun r1 Z1 h1 => ?_))
    obtain ⟨rk, rz⟩ := h1.1 hc
    subst rk
    subst rz
    obtain ⟨c1, m1, o1⟩ := out_sJ (v := atS σ (((xs (8 * k + 1)).toInt64 <<< ((32 : Int32).toInt64 &&& 63)) ||| ((xs (8 * k + 2)).toInt64 &&& 4294967295))) hC hM ho
    refine q_istore (ls' := [_, _, _, _, _, _, _, _]) dL_law_906 rfl rfl (Nat.le_of_ble_eq_true rfl) (Nat.le_of_ble_eq_true rfl) ?_
    first | refine q_aload_n dL_law_908 rfl ?_ | refine q_aload_nN dL_law_908 rfl ?_
    first | refine q_aload_n dL_law_909 rfl ?_ | refine q_aload_nN dL_law_909 rfl ?_
    refine q_iload dL_law_910 rfl ?_
    refine q_iconst (v := 1) dL_law_912 (by decide) ?_
    refine q_iadd dL_law_913 ?_
    refine q_sld (8 * k + 1) hSX dL_law_914 (nI_add _ 1) (by omega) ?_
    refine q_i2l dL_law_915 ?_
    refine q_bipush (v := 32) dL_law_916 (by decide) ?_
    refine q_lshl dL_law_918 ?_
    first | refine q_aload_n dL_law_919 rfl ?_ | refine q_aload_nN dL_law_919 rfl ?_
    refine q_iload dL_law_920 rfl ?_
    refine q_iconst (v := 2) dL_law_922 (by decide) ?_
    refine q_iadd dL_law_923 ?_
    refine q_sld (8 * k + 2) hSX dL_law_924 (nI_add _ 2) (by omega) ?_
    refine q_i2l dL_law_925 ?_
    refine q_ldc2 dL_law_926 kl_L_31 ?_
    refine q_land dL_law_929 ?_
    refine q_lor dL_law_930 ?_
    refine q_callV 11 dL_law_931 mk_L_91 rfl m1.K (mc_at l G _ (x + 30) σ e m1 hC.pl.a _) rfl np_X12_at (by decide) (show cells + 1 + 0 ≤ 601024 by omega) (show slots + 6 + 0 ≤ 7293034 by omega) (Nat.le_of_ble_eq_true rfl) (kL (fun r2 Z2 h2 => ?_))
    obtain ⟨f2, e9, m2, ok2, bad2⟩ := h2
    obtain ⟨t2, v2⟩ := ok2 hc
    refine q_lstore (ls' := [_, _, _, _, _, _, _, _]) dL_law_934 rfl rfl (Nat.le_of_ble_eq_true rfl) (Nat.le_of_ble_eq_true rfl) ?_
    first | refine q_aload_n dL_law_936 rfl ?_ | refine q_aload_nN dL_law_936 rfl ?_
    refine q_callV 11 dL_law_937 mk_L_92 rfl m2.K (mc_thrown l G Z2 (x + 30) σ e9 m2) rfl np_X12_thrown (by decide) (show cells + 1 + 0 + 0 ≤ 601024 by omega) (show slots + 6 + 0 + 0 ≤ 7293034 by omega) (Nat.le_of_ble_eq_true rfl) (kI (fun r3 Z3 h3 => ?_))
    obtain ⟨t3, e3⟩ := h3
    rw [e3, t3, t2]
    refine q_iload dL_law_940 rfl ?_
    refine q_icmp_eq 947 dL_law_942 (by decide) (fun c942 => ?_) (fun c942 => absurd c942 (not_not_intro rfl))
    refine q_iload dL_law_947 rfl ?_
    refine q_if_ne 963 dL_law_949 (by decide) (fun c949 => absurd c949 (not_not_intro rfl)) (fun c949 => ?_)
    first | refine q_aload_n dL_law_952 rfl ?_ | refine q_aload_nN dL_law_952 rfl ?_
    refine q_iconst (v := 0) dL_law_953 (by decide) ?_
    refine q_lald dL_law_954 (f2.ou o1).1 (by rw [(f2.ou o1).2]; exact vp_in_nI (n := 0) (by omega) (by decide)) ?_
    refine q_lload dL_law_955 rfl ?_
    have hev : zJ Z2 (x + 60) (0 : Int32).toNatClampNeg = r2 := by
      rw [(f2.2.2 (x + 60) (by omega)).2.2.2.1, zJ_sJ, if_pos rfl, v2]
      exact if_pos rfl
    refine q_lcmp_eq 963 dL_law_957 dL_law_958 (by decide) (fun c957 => ?_) (fun c957 => absurd c957 (not_not_intro hev))
    refine q_goto 1343 dL_law_963 (by decide) ?_
    refine q_widen (show cells + 1 + 0 + 0 ≤ cells + 4 by omega) (show slots + 6 + 0 + 0 ≤ slots + 29 by omega) ?_
    exact kk _ _ _ (LV_end c1 o1 f2 m2 hP)
  · first | refine q_aload_n dL_law_879 rfl ?_ | refine q_aload_nN dL_law_879 rfl ?_
    first | refine q_aload_n dL_law_880 rfl ?_ | refine q_aload_nN dL_law_880 rfl ?_
    refine q_iload dL_law_881 rfl ?_
    refine q_iconst (v := 1) dL_law_883 (by decide) ?_
    refine q_iadd dL_law_884 ?_
    refine q_sld (8 * k + 1) hSX dL_law_885 (nI_add _ 1) (by omega) ?_
    refine q_i2l dL_law_886 ?_
    refine q_bipush (v := 32) dL_law_887 (by decide) ?_
    refine q_lshl dL_law_889 ?_
    first | refine q_aload_n dL_law_890 rfl ?_ | refine q_aload_nN dL_law_890 rfl ?_
    refine q_iload dL_law_891 rfl ?_
    refine q_iconst (v := 2) dL_law_893 (by decide) ?_
    refine q_iadd dL_law_894 ?_
    refine q_sld (8 * k + 2) hSX dL_law_895 (nI_add _ 2) (by omega) ?_
    refine q_i2l dL_law_896 ?_
    refine q_ldc2 dL_law_897 kl_L_31 ?_
    refine q_land dL_law_900 ?_
    refine q_lor dL_law_901 ?_
    first | refine q_aload_n dL_law_902 rfl ?_ | refine q_aload_nN dL_law_902 rfl ?_
    refine q_callSW dL_law_903 sw_at hX (cl_at l hl G Z x nf ns af as σ hC (x + 60) ho.1 ho.2 _) rfl np_L_at (by decide) (show cells + 1 ≤ 601024 by omega) (show slots + 6 ≤ 7293034 by omega) (Nat.le_of_ble_eq_true rfl) (kI (fun r1 Z1 h1 => ?_))
    obtain ⟨rk, rz⟩ := h1.2 hc
    obtain ⟨kx, rz⟩ := rz
    subst rk
    subst rz
    obtain ⟨c1, m1, o1⟩ := out_nW (k := kx) hC hM ho
    refine q_istore (ls' := [_, _, _, _, _, _, _, _]) dL_law_906 rfl rfl (Nat.le_of_ble_eq_true rfl) (Nat.le_of_ble_eq_true rfl) ?_
    first | refine q_aload_n dL_law_908 rfl ?_ | refine q_aload_nN dL_law_908 rfl ?_
    first | refine q_aload_n dL_law_909 rfl ?_ | refine q_aload_nN dL_law_909 rfl ?_
    refine q_iload dL_law_910 rfl ?_
    refine q_iconst (v := 1) dL_law_912 (by decide) ?_
    refine q_iadd dL_law_913 ?_
    refine q_sld (8 * k + 1) hSX dL_law_914 (nI_add _ 1) (by omega) ?_
    refine q_i2l dL_law_915 ?_
    refine q_bipush (v := 32) dL_law_916 (by decide) ?_
    refine q_lshl dL_law_918 ?_
    first | refine q_aload_n dL_law_919 rfl ?_ | refine q_aload_nN dL_law_919 rfl ?_
    refine q_iload dL_law_920 rfl ?_
    refine q_iconst (v := 2) dL_law_922 (by decide) ?_
    refine q_iadd dL_law_923 ?_
    refine q_sld (8 * k + 2) hSX dL_law_924 (nI_add _ 2) (by omega) ?_
    refine q_i2l dL_law_925 ?_
    refine q_ldc2 dL_law_926 kl_L_31 ?_
    refine q_land dL_law_929 ?_
    refine q_lor dL_law_930 ?_
    refine q_callV 11 dL_law_931 mk_L_91 rfl m1.K (mc_at l G _ (x + 30) σ e m1 hC.pl.a _) rfl np_X12_at (by decide) (show cells + 1 + 0 ≤ 601024 by omega) (show slots + 6 + 0 ≤ 7293034 by omega) (Nat.le_of_ble_eq_true rfl) (kL (fun r2 Z2 h2 => ?_))
    obtain ⟨f2, e9, m2, ok2, bad2⟩ := h2
    have t2 := bad2 hc
    refine q_lstore (ls' := [_, _, _, _, _, _, _, _]) dL_law_934 rfl rfl (Nat.le_of_ble_eq_true rfl) (Nat.le_of_ble_eq_true rfl) ?_
    first | refine q_aload_n dL_law_936 rfl ?_ | refine q_aload_nN dL_law_936 rfl ?_
    refine q_callV 11 dL_law_937 mk_L_92 rfl m2.K (mc_thrown l G Z2 (x + 30) σ e9 m2) rfl np_X12_thrown (by decide) (show cells + 1 + 0 + 0 ≤ 601024 by omega) (show slots + 6 + 0 + 0 ≤ 7293034 by omega) (Nat.le_of_ble_eq_true rfl) (kI (fun r3 Z3 h3 => ?_))
    obtain ⟨t3, e3⟩ := h3
    rw [e3, t3, t2]
    refine q_iload dL_law_940 rfl ?_
    refine q_icmp_eq 947 dL_law_942 (by decide) (fun c942 => ?_) (fun c942 => absurd c942 (not_not_intro rfl))
    refine q_iload dL_law_947 rfl ?_
    refine q_if_ne 963 dL_law_949 (by decide) (fun c949 => ?_) (fun c949 => absurd c949 (by decide))
    refine q_goto 1343 dL_law_963 (by decide) ?_
    refine q_widen (show cells + 1 + 0 + 0 ≤ cells + 4 by omega) (show slots + 6 + 0 + 0 ≤ slots + 29 by omega) ?_
    exact kk _ _ _ (LV_end c1 o1 f2 m2 hP)
set_option maxHeartbeats 600000 in
set_option maxRecDepth 100000 in
theorem jl_14 (l : Launch) (hl : l.stackTraces = false) (G : Gt) (nm : String) (M : Mt) (Q : State → Prop) (b L : Nat) (xs : Nat → Int32) (hSX : SX G M b L xs) (hX : KX G M.2.2.2.1) (k cells slots : Nat) (hk : 8 * k + 8 ≤ L) (hcl : cells + 8 ≤ 601024) (hsl : slots + 64 ≤ 7293034) (x : Nat) (Z : Zt) (hV : LV x Z) (o5 o6 : Option Value) (kk : ∀ Z' o5 o6, LV x Z' → Jd l G (YLw nm) BLw M Z' (cells + 4) (slots + 29) Q 1343 [some (.ref b), some (.ref x), some (.ref (x + 30)), some (.ref (x + 60)), some (.int (nI (8 * k))), o5, o6, none] []) : Jd l G (YLw nm) BLw M Z cells slots Q 1024 [some (.ref b), some (.ref x), some (.ref (x + 30)), some (.ref (x + 60)), some (.int (nI (8 * k))), o5, o6, none] [] := by
  obtain ⟨σ, e, af, as, nf, ns, hC, hM, ho, hP⟩ := hV
  by_cases hc : (¬ σ.2 39 0 = 0)
  · first | refine q_aload_n dL_law_1024 rfl ?_ | refine q_aload_nN dL_law_1024 rfl ?_
    first | refine q_aload_n dL_law_1025 rfl ?_ | refine q_aload_nN dL_law_1025 rfl ?_
    refine q_iload dL_law_1026 rfl ?_
    refine q_iconst (v := 1) dL_law_1028 (by decide) ?_
    refine q_iadd dL_law_1029 ?_
    refine q_sld (8 * k + 1) hSX dL_law_1030 (nI_add _ 1) (by omega) ?_
    refine q_i2l dL_law_1031 ?_
    refine q_bipush (v := 32) dL_law_1032 (by decide) ?_
    refine q_lshl dL_law_1034 ?_
    first | refine q_aload_n dL_law_1035 rfl ?_ | refine q_aload_nN dL_law_1035 rfl ?_
    refine q_iload dL_law_1036 rfl ?_
    refine q_iconst (v := 2) dL_law_1038 (by decide) ?_
    refine q_iadd dL_law_1039 ?_
    refine q_sld (8 * k + 2) hSX dL_law_1040 (nI_add _ 2) (by omega) ?_
    refine q_i2l dL_law_1041 ?_
    refine q_ldc2 dL_law_1042 kl_L_31 ?_
    refine q_land dL_law_1045 ?_
    refine q_lor dL_law_1046 ?_
    first | refine q_aload_n dL_law_1047 rfl ?_ | refine q_aload_nN dL_law_1047 rfl ?_
    refine q_callSW dL_law_1048 sw_draw hX (cl_draw l hl G Z x nf ns af as σ hC (x + 60) ho.1 ho.2 _) rfl np_L_draw (by decide) (show cells + 1 ≤ 601024 by omega) (show slots + 6 ≤ 7293034 by omega) (Nat.le_of_ble_eq_true rfl) (kI (fun r1 Z1 h1 => ?_))
    obtain ⟨rk, rz⟩ := h1.1 hc
    subst rk
    subst rz
    obtain ⟨c1, m1, o1⟩ := out_sJ (v := atS σ (uR (((xs (8 * k + 1)).toInt64 <<< ((32 : Int32).toInt64 &&& 63)) ||| ((xs (8 * k + 2)).toInt64 &&& 4294967295)) (σ.2 39 0))) hC hM ho
    refine q_istore (ls' := [_, _, _, _, _, _, _, _]) dL_law_1051 rfl rfl (Nat.le_of_ble_eq_true rfl) (Nat.le_of_ble_eq_true rfl) ?_
    first | refine q_aload_n dL_law_1053 rfl ?_ | refine q_aload_nN dL_law_1053 rfl ?_
    first | refine q_aload_n dL_law_1054 rfl ?_ | refine q_aload_nN dL_law_1054 rfl ?_
    refine q_iload dL_law_1055 rfl ?_
    refine q_iconst (v := 1) dL_law_1057 (by decide) ?_
    refine q_iadd dL_law_1058 ?_
    refine q_sld (8 * k + 1) hSX dL_law_1059 (nI_add _ 1) (by omega) ?_
    refine q_i2l dL_law_1060 ?_
    refine q_bipush (v := 32) dL_law_1061 (by decide) ?_
    refine q_lshl dL_law_1063 ?_
    first | refine q_aload_n dL_law_1064 rfl ?_ | refine q_aload_nN dL_law_1064 rfl ?_
    refine q_iload dL_law_1065 rfl ?_
    refine q_iconst (v := 2) dL_law_1067 (by decide) ?_
    refine q_iadd dL_law_1068 ?_
    refine q_sld (8 * k + 2) hSX dL_law_1069 (nI_add _ 2) (by omega) ?_
    refine q_i2l dL_law_1070 ?_
    refine q_ldc2 dL_law_1071 kl_L_31 ?_
    refine q_land dL_law_1074 ?_
    refine q_lor dL_law_1075 ?_
    refine q_callV 11 dL_law_1076 mk_L_101 rfl m1.K (mc_draw l G _ (x + 30) σ e m1 hC.pl _) rfl np_X12_draw (by decide) (show cells + 1 + 0 ≤ 601024 by omega) (show slots + 6 + 0 ≤ 7293034 by omega) (Nat.le_of_ble_eq_true rfl) (kL (fun r2 Z2 h2 => ?_))
    obtain ⟨f2, e9, m2, ok2, bad2⟩ := h2
    obtain ⟨t2, v2⟩ := ok2 hc
    refine q_lstore (ls' := [_, _, _, _, _, _, _, _]) dL_law_1079 rfl rfl (Nat.le_of_ble_eq_true rfl) (Nat.le_of_ble_eq_true rfl) ?_
    first | refine q_aload_n dL_law_1081 rfl ?_ | refine q_aload_nN dL_law_1081 rfl ?_
    refine q_callV 11 dL_law_1082 mk_L_92 rfl m2.K (mc_thrown l G Z2 (x + 30) σ e9 m2) rfl np_X12_thrown (by decide) (show cells + 1 + 0 + 0 ≤ 601024 by omega) (show slots + 6 + 0 + 0 ≤ 7293034 by omega) (Nat.le_of_ble_eq_true rfl) (kI (fun r3 Z3 h3 => ?_))
    obtain ⟨t3, e3⟩ := h3
    rw [e3, t3, t2]
    refine q_iload dL_law_1085 rfl ?_
    refine q_icmp_eq 1092 dL_law_1087 (by decide) (fun c1087 => ?_) (fun c1087 => absurd c1087 (not_not_intro rfl))
    refine q_iload dL_law_1092 rfl ?_
    refine q_if_ne 1108 dL_law_1094 (by decide) (fun c1094 => absurd c1094 (not_not_intro rfl)) (fun c1094 => ?_)
    first | refine q_aload_n dL_law_1097 rfl ?_ | refine q_aload_nN dL_law_1097 rfl ?_
    refine q_iconst (v := 0) dL_law_1098 (by decide) ?_
    refine q_lald dL_law_1099 (f2.ou o1).1 (by rw [(f2.ou o1).2]; exact vp_in_nI (n := 0) (by omega) (by decide)) ?_
    refine q_lload dL_law_1100 rfl ?_
    have hev : zJ Z2 (x + 60) (0 : Int32).toNatClampNeg = r2 := by
      rw [(f2.2.2 (x + 60) (by omega)).2.2.2.1, zJ_sJ, if_pos rfl, v2]
      exact if_pos rfl
    refine q_lcmp_eq 1108 dL_law_1102 dL_law_1103 (by decide) (fun c1102 => ?_) (fun c1102 => absurd c1102 (not_not_intro hev))
    refine q_goto 1343 dL_law_1108 (by decide) ?_
    refine q_widen (show cells + 1 + 0 + 0 ≤ cells + 4 by omega) (show slots + 6 + 0 + 0 ≤ slots + 29 by omega) ?_
    exact kk _ _ _ (LV_end c1 o1 f2 m2 hP)
  · first | refine q_aload_n dL_law_1024 rfl ?_ | refine q_aload_nN dL_law_1024 rfl ?_
    first | refine q_aload_n dL_law_1025 rfl ?_ | refine q_aload_nN dL_law_1025 rfl ?_
    refine q_iload dL_law_1026 rfl ?_
    refine q_iconst (v := 1) dL_law_1028 (by decide) ?_
    refine q_iadd dL_law_1029 ?_
    refine q_sld (8 * k + 1) hSX dL_law_1030 (nI_add _ 1) (by omega) ?_
    refine q_i2l dL_law_1031 ?_
    refine q_bipush (v := 32) dL_law_1032 (by decide) ?_
    refine q_lshl dL_law_1034 ?_
    first | refine q_aload_n dL_law_1035 rfl ?_ | refine q_aload_nN dL_law_1035 rfl ?_
    refine q_iload dL_law_1036 rfl ?_
    refine q_iconst (v := 2) dL_law_1038 (by decide) ?_
    refine q_iadd dL_law_1039 ?_
    refine q_sld (8 * k + 2) hSX dL_law_1040 (nI_add _ 2) (by omega) ?_
    refine q_i2l dL_law_1041 ?_
    refine q_ldc2 dL_law_1042 kl_L_31 ?_
    refine q_land dL_law_1045 ?_
    refine q_lor dL_law_1046 ?_
    first | refine q_aload_n dL_law_1047 rfl ?_ | refine q_aload_nN dL_law_1047 rfl ?_
    refine q_callSW dL_law_1048 sw_draw hX (cl_draw l hl G Z x nf ns af as σ hC (x + 60) ho.1 ho.2 _) rfl np_L_draw (by decide) (show cells + 1 ≤ 601024 by omega) (show slots + 6 ≤ 7293034 by omega) (Nat.le_of_ble_eq_true rfl) (kI (fun r1 Z1 h1 => ?_))
    obtain ⟨rk, rz⟩ := h1.2 hc
    obtain ⟨kx, rz⟩ := rz
    subst rk
    subst rz
    obtain ⟨c1, m1, o1⟩ := out_nW (k := kx) hC hM ho
    refine q_istore (ls' := [_, _, _, _, _, _, _, _]) dL_law_1051 rfl rfl (Nat.le_of_ble_eq_true rfl) (Nat.le_of_ble_eq_true rfl) ?_
    first | refine q_aload_n dL_law_1053 rfl ?_ | refine q_aload_nN dL_law_1053 rfl ?_
    first | refine q_aload_n dL_law_1054 rfl ?_ | refine q_aload_nN dL_law_1054 rfl ?_
    refine q_iload dL_law_1055 rfl ?_
    refine q_iconst (v := 1) dL_law_1057 (by decide) ?_
    refine q_iadd dL_law_1058 ?_
    refine q_sld (8 * k + 1) hSX dL_law_1059 (nI_add _ 1) (by omega) ?_
    refine q_i2l dL_law_1060 ?_
    refine q_bipush (v := 32) dL_law_1061 (by decide) ?_
    refine q_lshl dL_law_1063 ?_
    first | refine q_aload_n dL_law_1064 rfl ?_ | refine q_aload_nN dL_law_1064 rfl ?_
    refine q_iload dL_law_1065 rfl ?_
    refine q_iconst (v := 2) dL_law_1067 (by decide) ?_
    refine q_iadd dL_law_1068 ?_
    refine q_sld (8 * k + 2) hSX dL_law_1069 (nI_add _ 2) (by omega) ?_
    refine q_i2l dL_law_1070 ?_
    refine q_ldc2 dL_law_1071 kl_L_31 ?_
    refine q_land dL_law_1074 ?_
    refine q_lor dL_law_1075 ?_
    refine q_callV 11 dL_law_1076 mk_L_101 rfl m1.K (mc_draw l G _ (x + 30) σ e m1 hC.pl _) rfl np_X12_draw (by decide) (show cells + 1 + 0 ≤ 601024 by omega) (show slots + 6 + 0 ≤ 7293034 by omega) (Nat.le_of_ble_eq_true rfl) (kL (fun r2 Z2 h2 => ?_))
    obtain ⟨f2, e9, m2, ok2, bad2⟩ := h2
    have t2 := bad2 (Classical.not_not.mp hc)
    refine q_lstore (ls' := [_, _, _, _, _, _, _, _]) dL_law_1079 rfl rfl (Nat.le_of_ble_eq_true rfl) (Nat.le_of_ble_eq_true rfl) ?_
    first | refine q_aload_n dL_law_1081 rfl ?_ | refine q_aload_nN dL_law_1081 rfl ?_
    refine q_callV 11 dL_law_1082 mk_L_92 rfl m2.K (mc_thrown l G Z2 (x + 30) σ e9 m2) rfl np_X12_thrown (by decide) (show cells + 1 + 0 + 0 ≤ 601024 by omega) (show slots + 6 + 0 + 0 ≤ 7293034 by omega) (Nat.le_of_ble_eq_true rfl) (kI (fun r3 Z3 h3 => ?_))
    obtain ⟨t3, e3⟩ := h3
    rw [e3, t3, t2]
    refine q_iload dL_law_1085 rfl ?_
    refine q_icmp_eq 1092 dL_law_1087 (by decide) (fun c1087 => ?_) (fun c1087 => absurd c1087 (not_not_intro rfl))
    refine q_iload dL_law_1092 rfl ?_
    refine q_if_ne 1108 dL_law_1094 (by decide) (fun c1094 => ?_) (fun c1094 => absurd c1094 (by decide))
    refine q_goto 1343 dL_law_1108 (by decide) ?_
    refine q_widen (show cells + 1 + 0 + 0 ≤ cells + 4 by omega) (show slots + 6 + 0 + 0 ≤ slots + 29 by omega) ?_
    exact kk _ _ _ (LV_end c1 o1 f2 m2 hP)
set_option maxHeartbeats 600000 in
set_option maxRecDepth 100000 in
theorem jl_17 (l : Launch) (hl : l.stackTraces = false) (G : Gt) (nm : String) (M : Mt) (Q : State → Prop) (b L : Nat) (xs : Nat → Int32) (hSX : SX G M b L xs) (hX : KX G M.2.2.2.1) (k cells slots : Nat) (hk : 8 * k + 8 ≤ L) (hcl : cells + 8 ≤ 601024) (hsl : slots + 64 ≤ 7293034) (x : Nat) (Z : Zt) (hV : LV x Z) (o5 o6 : Option Value) (kk : ∀ Z' o5 o6, LV x Z' → Jd l G (YLw nm) BLw M Z' (cells + 4) (slots + 29) Q 1343 [some (.ref b), some (.ref x), some (.ref (x + 30)), some (.ref (x + 60)), some (.int (nI (8 * k))), o5, o6, none] []) : Jd l G (YLw nm) BLw M Z cells slots Q 1161 [some (.ref b), some (.ref x), some (.ref (x + 30)), some (.ref (x + 60)), some (.int (nI (8 * k))), o5, o6, none] [] := by
  obtain ⟨σ, e, af, as, nf, ns, hC, hM, ho, hP⟩ := hV
  obtain ⟨nb, hnb, h32⟩ := hC.h32
  by_cases hc : (¬ xs (8 * k + 1) < 0 ∧ ¬ σ.1 32 0 ≤ xs (8 * k + 1))
  · first | refine q_aload_n dL_law_1161 rfl ?_ | refine q_aload_nN dL_law_1161 rfl ?_
    first | refine q_aload_n dL_law_1162 rfl ?_ | refine q_aload_nN dL_law_1162 rfl ?_
    refine q_iload dL_law_1163 rfl ?_
    refine q_iconst (v := 1) dL_law_1165 (by decide) ?_
    refine q_iadd dL_law_1166 ?_
    refine q_sld (8 * k + 1) hSX dL_law_1167 (nI_add _ 1) (by omega) ?_
    first | refine q_aload_n dL_law_1168 rfl ?_ | refine q_aload_nN dL_law_1168 rfl ?_
    refine q_callSW dL_law_1169 sw_barredAt hX (cl_barredAt l hl G Z x nf ns af as σ hC (x + 60) ho.1 ho.2 _) rfl np_L_barredAt (by decide) (show cells + 1 ≤ 601024 by omega) (show slots + 6 ≤ 7293034 by omega) (Nat.le_of_ble_eq_true rfl) (kI (fun r1 Z1 h1 => ?_))
    obtain ⟨rk, rz⟩ := h1.1 hc
    subst rk
    subst rz
    obtain ⟨c1, m1, o1⟩ := out_sJ (v := σ.2 33 (xs (8 * k + 1)).toNatClampNeg) hC hM ho
    refine q_istore (ls' := [_, _, _, _, _, _, _, _]) dL_law_1172 rfl rfl (Nat.le_of_ble_eq_true rfl) (Nat.le_of_ble_eq_true rfl) ?_
    first | refine q_aload_n dL_law_1174 rfl ?_ | refine q_aload_nN dL_law_1174 rfl ?_
    first | refine q_aload_n dL_law_1175 rfl ?_ | refine q_aload_nN dL_law_1175 rfl ?_
    refine q_iload dL_law_1176 rfl ?_
    refine q_iconst (v := 1) dL_law_1178 (by decide) ?_
    refine q_iadd dL_law_1179 ?_
    refine q_sld (8 * k + 1) hSX dL_law_1180 (nI_add _ 1) (by omega) ?_
    refine q_callV 11 dL_law_1181 mk_L_113 rfl m1.K (mc_barredAt l G _ (x + 30) σ e m1 nb h32 hnb _) rfl np_X12_barredAt (by decide) (show cells + 1 + 0 ≤ 601024 by omega) (show slots + 6 + 0 ≤ 7293034 by omega) (Nat.le_of_ble_eq_true rfl) (kL (fun r2 Z2 h2 => ?_))
    obtain ⟨f2, e9, m2, ok2, bad2⟩ := h2
    obtain ⟨t2, v2⟩ := ok2 hc
    refine q_lstore (ls' := [_, _, _, _, _, _, _, _]) dL_law_1184 rfl rfl (Nat.le_of_ble_eq_true rfl) (Nat.le_of_ble_eq_true rfl) ?_
    first | refine q_aload_n dL_law_1186 rfl ?_ | refine q_aload_nN dL_law_1186 rfl ?_
    refine q_callV 11 dL_law_1187 mk_L_92 rfl m2.K (mc_thrown l G Z2 (x + 30) σ e9 m2) rfl np_X12_thrown (by decide) (show cells + 1 + 0 + 0 ≤ 601024 by omega) (show slots + 6 + 0 + 0 ≤ 7293034 by omega) (Nat.le_of_ble_eq_true rfl) (kI (fun r3 Z3 h3 => ?_))
    obtain ⟨t3, e3⟩ := h3
    rw [e3, t3, t2]
    refine q_iload dL_law_1190 rfl ?_
    refine q_icmp_eq 1197 dL_law_1192 (by decide) (fun c1192 => ?_) (fun c1192 => absurd c1192 (not_not_intro rfl))
    refine q_iload dL_law_1197 rfl ?_
    refine q_if_ne 1213 dL_law_1199 (by decide) (fun c1199 => absurd c1199 (not_not_intro rfl)) (fun c1199 => ?_)
    first | refine q_aload_n dL_law_1202 rfl ?_ | refine q_aload_nN dL_law_1202 rfl ?_
    refine q_iconst (v := 0) dL_law_1203 (by decide) ?_
    refine q_lald dL_law_1204 (f2.ou o1).1 (by rw [(f2.ou o1).2]; exact vp_in_nI (n := 0) (by omega) (by decide)) ?_
    refine q_lload dL_law_1205 rfl ?_
    have hev : zJ Z2 (x + 60) (0 : Int32).toNatClampNeg = r2 := by
      rw [(f2.2.2 (x + 60) (by omega)).2.2.2.1, zJ_sJ, if_pos rfl, v2]
      exact if_pos rfl
    refine q_lcmp_eq 1213 dL_law_1207 dL_law_1208 (by decide) (fun c1207 => ?_) (fun c1207 => absurd c1207 (not_not_intro hev))
    refine q_goto 1343 dL_law_1213 (by decide) ?_
    refine q_widen (show cells + 1 + 0 + 0 ≤ cells + 4 by omega) (show slots + 6 + 0 + 0 ≤ slots + 29 by omega) ?_
    exact kk _ _ _ (LV_end c1 o1 f2 m2 hP)
  · first | refine q_aload_n dL_law_1161 rfl ?_ | refine q_aload_nN dL_law_1161 rfl ?_
    first | refine q_aload_n dL_law_1162 rfl ?_ | refine q_aload_nN dL_law_1162 rfl ?_
    refine q_iload dL_law_1163 rfl ?_
    refine q_iconst (v := 1) dL_law_1165 (by decide) ?_
    refine q_iadd dL_law_1166 ?_
    refine q_sld (8 * k + 1) hSX dL_law_1167 (nI_add _ 1) (by omega) ?_
    first | refine q_aload_n dL_law_1168 rfl ?_ | refine q_aload_nN dL_law_1168 rfl ?_
    refine q_callSW dL_law_1169 sw_barredAt hX (cl_barredAt l hl G Z x nf ns af as σ hC (x + 60) ho.1 ho.2 _) rfl np_L_barredAt (by decide) (show cells + 1 ≤ 601024 by omega) (show slots + 6 ≤ 7293034 by omega) (Nat.le_of_ble_eq_true rfl) (kI (fun r1 Z1 h1 => ?_))
    obtain ⟨rk, rz⟩ := h1.2 hc
    obtain ⟨kx, rz⟩ := rz
    subst rk
    subst rz
    obtain ⟨c1, m1, o1⟩ := out_nW (k := kx) hC hM ho
    refine q_istore (ls' := [_, _, _, _, _, _, _, _]) dL_law_1172 rfl rfl (Nat.le_of_ble_eq_true rfl) (Nat.le_of_ble_eq_true rfl) ?_
    first | refine q_aload_n dL_law_1174 rfl ?_ | refine q_aload_nN dL_law_1174 rfl ?_
    first | refine q_aload_n dL_law_1175 rfl ?_ | refine q_aload_nN dL_law_1175 rfl ?_
    refine q_iload dL_law_1176 rfl ?_
    refine q_iconst (v := 1) dL_law_1178 (by decide) ?_
    refine q_iadd dL_law_1179 ?_
    refine q_sld (8 * k + 1) hSX dL_law_1180 (nI_add _ 1) (by omega) ?_
    refine q_callV 11 dL_law_1181 mk_L_113 rfl m1.K (mc_barredAt l G _ (x + 30) σ e m1 nb h32 hnb _) rfl np_X12_barredAt (by decide) (show cells + 1 + 0 ≤ 601024 by omega) (show slots + 6 + 0 ≤ 7293034 by omega) (Nat.le_of_ble_eq_true rfl) (kL (fun r2 Z2 h2 => ?_))
    obtain ⟨f2, e9, m2, ok2, bad2⟩ := h2
    have t2 := bad2 hc
    refine q_lstore (ls' := [_, _, _, _, _, _, _, _]) dL_law_1184 rfl rfl (Nat.le_of_ble_eq_true rfl) (Nat.le_of_ble_eq_true rfl) ?_
    first | refine q_aload_n dL_law_1186 rfl ?_ | refine q_aload_nN dL_law_1186 rfl ?_
    refine q_callV 11 dL_law_1187 mk_L_92 rfl m2.K (mc_thrown l G Z2 (x + 30) σ e9 m2) rfl np_X12_thrown (by decide) (show cells + 1 + 0 + 0 ≤ 601024 by omega) (show slots + 6 + 0 + 0 ≤ 7293034 by omega) (Nat.le_of_ble_eq_true rfl) (kI (fun r3 Z3 h3 => ?_))
    obtain ⟨t3, e3⟩ := h3
    rw [e3, t3, t2]
    refine q_iload dL_law_1190 rfl ?_
    refine q_icmp_eq 1197 dL_law_1192 (by decide) (fun c1192 => ?_) (fun c1192 => absurd c1192 (not_not_intro rfl))
    refine q_iload dL_law_1197 rfl ?_
    refine q_if_ne 1213 dL_law_1199 (by decide) (fun c1199 => ?_) (fun c1199 => absurd c1199 (by decide))
    refine q_goto 1343 dL_law_1213 (by decide) ?_
    refine q_widen (show cells + 1 + 0 + 0 ≤ cells + 4 by omega) (show slots + 6 + 0 + 0 ≤ slots + 29 by omega) ?_
    exact kk _ _ _ (LV_end c1 o1 f2 m2 hP)
