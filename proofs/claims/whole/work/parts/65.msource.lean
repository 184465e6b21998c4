def bas (σ : St) (ns : Nat) (s t a n : Int32) (v : Int64) : St := pJ (pI (pI (pI (pI σ 18 ns s) 19 ns t) 20 ns a) 21 ns n) 22 ns v
theorem bas_1 (σ : St) (ns : Nat) (s t a n : Int32) (v : Int64) (k i : Nat) : (bas σ ns s t a n v).1 k i = if k = 21 ∧ i = ns then n else if k = 20 ∧ i = ns then a else if k = 19 ∧ i = ns then t else if k = 18 ∧ i = ns then s else σ.1 k i := rfl
theorem bas_2 (σ : St) (ns : Nat) (s t a n : Int32) (v : Int64) (k i : Nat) : (bas σ ns s t a n v).2 k i = if k = 22 ∧ i = ns then v else σ.2 k i := rfl
theorem bas_ne (σ : St) (ns : Nat) (s t a n : Int32) (v : Int64) {k i : Nat} (h : i ≠ ns ∨ k < 18 ∨ 22 < k) : (bas σ ns s t a n v).1 k i = σ.1 k i ∧ (bas σ ns s t a n v).2 k i = σ.2 k i := by
  rw [bas_1, bas_2, if_neg (by omega), if_neg (by omega), if_neg (by omega), if_neg (by omega), if_neg (by omega)]
  exact ⟨rfl, rfl⟩
theorem com_np (σ : St) (ns : Nat) (so s t a n d : Int32) (v : Int64) : comS (bas σ ns s t a n v) ns so 0 d = addS σ ns so s t a n d 0 v (σ.2 25 ns) (σ.2 26 ns) (σ.2 27 ns) := by
  refine com_eq (fun k i => ?_) (fun k i => ?_)
  · rw [bas_1]; grind
  · rw [bas_2]; grind
theorem com_pl (σ : St) (ns : Nat) (so s t a n d : Int32) (v F S C : Int64) : comS (pJ (pJ (pJ (bas σ ns s t a n v) 25 ns F) 26 ns S) 27 ns C) ns so 1 d = addS σ ns so s t a n d 1 v F S C := by
  refine com_eq (fun k i => ?_) (fun k i => ?_)
  · rw [pJ_1, pJ_1, pJ_1, bas_1]; grind
  · rw [pJ_2, pJ_2, pJ_2, bas_2]; grind
set_option maxHeartbeats 600000 in
set_option maxRecDepth 100000 in
theorem msrc_428n (l : Launch) (G : Gt) (M : Mt) (Z0 Z : Zt) (y : Nat) (β e : St) (hM : MR Z y β e) (hF : MF y Z0 Z) (ns : Nat) (h16 : β.1 16 0 = nI ns) (hlt : ns < 20) (so s t a n : Int32) (v : Int64) (two d : Int32) (P : Int32 → Zt → Prop) (hP : ∀ Z1, MF y Z0 Z1 → MR Z1 y (comS β ns so 0 d) e → P (nI ns) Z1) : Jd l G YX12_source (1, 0, 0) M Z 0 0 (Qm G (1, 0, 0) M (ΦI P)) 428 [some (.ref y), some (.int so), some (.int s), some (.int t), some (.int a), some (.int n), some (.long v), none, some (.int two), some (.int d), some (.int 0), none, none] [] := by
  first | refine q_aload_n dX12_source_428 rfl ?_ | refine q_aload_nN dX12_source_428 rfl ?_
  refine q_iload_n dX12_source_429 rfl ?_
  refine q_iload dX12_source_430 rfl ?_
  refine q_iload dX12_source_432 rfl ?_
  refine q_callV 11 dX12_source_434 mk_X12_150 rfl hM.K (mc_comes l G Z y _ _ hM ns h16 hlt so 0 d rfl) rfl np_X12_comes (by decide) (by decide) (by decide) (Nat.le_of_ble_eq_true rfl) (kI (fun r434 Z434 h434 => ?_))
  obtain ⟨e434, f434, m434⟩ := h434
  exact q_ireturn dX12_source_437 rfl (by decide) (by decide) (by rw [e434]; exact hP _ (hF.tr f434) m434)
set_option maxHeartbeats 600000 in
set_option maxRecDepth 100000 in
theorem msrc_428p (l : Launch) (G : Gt) (M : Mt) (Z0 Z : Zt) (y : Nat) (β e : St) (hM : MR Z y β e) (hF : MF y Z0 Z) (ns : Nat) (h16 : β.1 16 0 = nI ns) (hlt : ns < 20) (so s t a n : Int32) (v : Int64) (two d : Int32) (m : Int64) (P : Int32 → Zt → Prop) (hP : ∀ Z1, MF y Z0 Z1 → MR Z1 y (comS β ns so 1 d) e → P (nI ns) Z1) : Jd l G YX12_source (1, 0, 0) M Z 0 0 (Qm G (1, 0, 0) M (ΦI P)) 428 [some (.ref y), some (.int so), some (.int s), some (.int t), some (.int a), some (.int n), some (.long v), none, some (.int two), some (.int d), some (.int 1), some (.long m), none] [] := by
  first | refine q_aload_n dX12_source_428 rfl ?_ | refine q_aload_nN dX12_source_428 rfl ?_
  refine q_iload_n dX12_source_429 rfl ?_
  refine q_iload dX12_source_430 rfl ?_
  refine q_iload dX12_source_432 rfl ?_
  refine q_callV 11 dX12_source_434 mk_X12_150 rfl hM.K (mc_comes l G Z y _ _ hM ns h16 hlt so 1 d rfl) rfl np_X12_comes (by decide) (by decide) (by decide) (Nat.le_of_ble_eq_true rfl) (kI (fun r434 Z434 h434 => ?_))
  obtain ⟨e434, f434, m434⟩ := h434
  exact q_ireturn dX12_source_437 rfl (by decide) (by decide) (by rw [e434]; exact hP _ (hF.tr f434) m434)
set_option maxHeartbeats 600000 in
set_option maxRecDepth 100000 in
theorem msrc_283 (l : Launch) (G : Gt) (M : Mt) (Z0 Z : Zt) (y : Nat) (σ e : St) (hF : MF y Z0 Z) (ns : Nat) (h16 : σ.1 16 0 = nI ns) (hlt : ns < 20) (p : Nat) (hp : p < ns) (so t a n : Int32) (v : Int64) (hM : MR Z y (bas σ ns (nI p) t a n v) e) (two d : Int32) (hso : so = 5 ∨ so = 8) (hn8 : so = 8 → ¬ n.toInt64 = 0) (P : Int32 → Zt → Prop) (hP : ∀ Z1, MF y Z0 Z1 → MR Z1 y (addS σ ns so (nI p) t a n d 1 v (plnF σ so (nI p)) (plnT σ so (nI p) n) (plnN σ so (nI p) n)) e → P (nI ns) Z1) : Jd l G YX12_source (1, 0, 0) M Z 0 0 (Qm G (1, 0, 0) M (ΦI P)) 283 [some (.ref y), some (.int so), some (.int (nI p)), some (.int t), some (.int a), some (.int n), some (.long v), none, some (.int two), some (.int d), some (.int 1), none, none] [] := by
  first | refine q_aload_n dX12_source_283 rfl ?_ | refine q_aload_nN dX12_source_283 rfl ?_
  refine q_getf dX12_source_284 fk_X12_75_11 hM.K (hM.a 27 (by decide) (by decide)) ?_
  refine q_iload_n dX12_source_287 rfl ?_
  refine m_lald 27 (p) hM dX12_source_288 (by decide) rfl rfl rfl (show p < 20 by omega) ?_
  rw [(bas_ne σ ns (nI p) t a n v (k := 27) (i := p) (by omega)).2]
  refine q_lstore (ls' := [_, _, _, _, _, _, _, _, _, _, _, _, _]) dX12_source_289 rfl rfl (Nat.le_of_ble_eq_true rfl) (by decide) ?_
  refine q_iload_n dX12_source_291 rfl ?_
  refine q_iconst (v := 5) dX12_source_292 (by decide) ?_
  refine q_icmp_ne 364 dX12_source_293 (by decide) (fun c293 => ?_) (fun c293 => ?_)
  · first | refine q_aload_n dX12_source_364 rfl ?_ | refine q_aload_nN dX12_source_364 rfl ?_
    refine q_getf dX12_source_365 fk_X12_69_11 hM.K (hM.a 25 (by decide) (by decide)) ?_
    first | refine q_aload_n dX12_source_368 rfl ?_ | refine q_aload_nN dX12_source_368 rfl ?_
    refine q_getf dX12_source_369 fk_X12_137_11 hM.K (hM.i 16 (by decide) rfl rfl) ?_
    first | refine q_aload_n dX12_source_372 rfl ?_ | refine q_aload_nN dX12_source_372 rfl ?_
    refine q_getf dX12_source_373 fk_X12_69_11 hM.K (hM.a 25 (by decide) (by decide)) ?_
    refine q_iload_n dX12_source_376 rfl ?_
    refine m_lald 25 (p) hM dX12_source_377 (by decide) rfl rfl rfl (show p < 20 by omega) ?_
    rw [(bas_ne σ ns (nI p) t a n v (k := 25) (i := p) (by omega)).2]
    refine m_last 25 (ns) hM dX12_source_378 (by decide) rfl rfl (by exact (bas_ne σ ns (nI p) t a n v (k := 16) (i := 0) (by omega)).1.trans h16) (show ns < 20 by omega) (fun Z hM hF1 => ?_)
    replace hF := hF.tr hF1
    first | refine q_aload_n dX12_source_379 rfl ?_ | refine q_aload_nN dX12_source_379 rfl ?_
    refine q_getf dX12_source_380 fk_X12_72_11 hM.K (hM.a 26 (by decide) (by decide)) ?_
    first | refine q_aload_n dX12_source_383 rfl ?_ | refine q_aload_nN dX12_source_383 rfl ?_
    refine q_getf dX12_source_384 fk_X12_137_11 hM.K (hM.i 16 (by decide) rfl rfl) ?_
    first | refine q_aload_n dX12_source_387 rfl ?_ | refine q_aload_nN dX12_source_387 rfl ?_
    refine q_getf dX12_source_388 fk_X12_72_11 hM.K (hM.a 26 (by decide) (by decide)) ?_
    refine q_iload_n dX12_source_391 rfl ?_
    refine m_lald 26 (p) hM dX12_source_392 (by decide) rfl rfl rfl (show p < 20 by omega) ?_
    rw [pJ_ne (by decide), (bas_ne σ ns (nI p) t a n v (k := 26) (i := p) (by omega)).2]
    refine q_iload dX12_source_393 rfl ?_
    refine q_i2l dX12_source_395 ?_
    refine q_lmul dX12_source_396 ?_
    refine m_last 26 (ns) hM dX12_source_397 (by decide) rfl rfl (by rw [pJ_1]; exact (bas_ne σ ns (nI p) t a n v (k := 16) (i := 0) (by omega)).1.trans h16) (show ns < 20 by omega) (fun Z hM hF1 => ?_)
    replace hF := hF.tr hF1
    first | refine q_aload_n dX12_source_398 rfl ?_ | refine q_aload_nN dX12_source_398 rfl ?_
    refine q_getf dX12_source_399 fk_X12_75_11 hM.K (hM.a 27 (by decide) (by decide)) ?_
    first | refine q_aload_n dX12_source_402 rfl ?_ | refine q_aload_nN dX12_source_402 rfl ?_
    refine q_getf dX12_source_403 fk_X12_137_11 hM.K (hM.i 16 (by decide) rfl rfl) ?_
    refine q_lload dX12_source_406 rfl ?_
    refine q_lconst (v := 0) dX12_source_408 (by decide) ?_
    refine q_lcmp_ne 417 dX12_source_409 dX12_source_410 (by decide) (fun c409 => ?_) (fun c409 => ?_)
    · refine q_lload dX12_source_417 rfl ?_
      refine q_lconst (v := 1) dX12_source_419 (by decide) ?_
      refine q_lsub dX12_source_420 ?_
      refine q_iload dX12_source_421 rfl ?_
      refine q_i2l dX12_source_423 ?_
      refine q_ldiv dX12_source_424 (hn8 (hso.resolve_left c293)) ?_
      refine q_lconst (v := 1) dX12_source_425 (by decide) ?_
      refine q_ladd dX12_source_426 ?_
      refine m_last 27 (ns) hM dX12_source_427 (by decide) rfl rfl (by rw [pJ_1, pJ_1]; exact (bas_ne σ ns (nI p) t a n v (k := 16) (i := 0) (by omega)).1.trans h16) (show ns < 20 by omega) (fun Z hM hF1 => ?_)
      replace hF := hF.tr hF1
      exact msrc_428p l G M Z0 Z y _ _ hM hF ns (by rw [pJ_1, pJ_1, pJ_1]; exact (bas_ne σ ns (nI p) t a n v (k := 16) (i := 0) (by omega)).1.trans h16) hlt so (nI p) t a n v two d _ P (fun Z1 f m => hP Z1 f (by rw [com_pl] at m; unfold plnF plnT plnN; rw [nI_clamp (by omega), if_neg c293, if_neg c293, if_neg c293, if_neg c409]; exact m))
    · refine q_lconst (v := 0) dX12_source_413 (by decide) ?_
      refine q_goto 427 dX12_source_414 (by decide) ?_
      refine m_last 27 (ns) hM dX12_source_427 (by decide) rfl rfl (by rw [pJ_1, pJ_1]; exact (bas_ne σ ns (nI p) t a n v (k := 16) (i := 0) (by omega)).1.trans h16) (show ns < 20 by omega) (fun Z hM hF1 => ?_)
      replace hF := hF.tr hF1
      exact msrc_428p l G M Z0 Z y _ _ hM hF ns (by rw [pJ_1, pJ_1, pJ_1]; exact (bas_ne σ ns (nI p) t a n v (k := 16) (i := 0) (by omega)).1.trans h16) hlt so (nI p) t a n v two d _ P (fun Z1 f m => hP Z1 f (by rw [com_pl] at m; unfold plnF plnT plnN; rw [nI_clamp (by omega), if_neg c293, if_neg c293, if_neg c293, if_pos c409]; exact m))
  · first | refine q_aload_n dX12_source_296 rfl ?_ | refine q_aload_nN dX12_source_296 rfl ?_
    refine q_getf dX12_source_297 fk_X12_69_11 hM.K (hM.a 25 (by decide) (by decide)) ?_
    first | refine q_aload_n dX12_source_300 rfl ?_ | refine q_aload_nN dX12_source_300 rfl ?_
    refine q_getf dX12_source_301 fk_X12_137_11 hM.K (hM.i 16 (by decide) rfl rfl) ?_
    first | refine q_aload_n dX12_source_304 rfl ?_ | refine q_aload_nN dX12_source_304 rfl ?_
    refine q_getf dX12_source_305 fk_X12_69_11 hM.K (hM.a 25 (by decide) (by decide)) ?_
    refine q_iload_n dX12_source_308 rfl ?_
    refine m_lald 25 (p) hM dX12_source_309 (by decide) rfl rfl rfl (show p < 20 by omega) ?_
    rw [(bas_ne σ ns (nI p) t a n v (k := 25) (i := p) (by omega)).2]
    refine q_lload dX12_source_310 rfl ?_
    refine q_lconst (v := 0) dX12_source_312 (by decide) ?_
    refine q_lcmp_ne 321 dX12_source_313 dX12_source_314 (by decide) (fun c313 => ?_) (fun c313 => ?_)
    · refine q_lload dX12_source_321 rfl ?_
      refine q_lconst (v := 1) dX12_source_323 (by decide) ?_
      refine q_lsub dX12_source_324 ?_
      first | refine q_aload_n dX12_source_325 rfl ?_ | refine q_aload_nN dX12_source_325 rfl ?_
      refine q_getf dX12_source_326 fk_X12_72_11 hM.K (hM.a 26 (by decide) (by decide)) ?_
      refine q_iload_n dX12_source_329 rfl ?_
      refine m_lald 26 (p) hM dX12_source_330 (by decide) rfl rfl rfl (show p < 20 by omega) ?_
      rw [(bas_ne σ ns (nI p) t a n v (k := 26) (i := p) (by omega)).2]
      refine q_lmul dX12_source_331 ?_
      refine q_ladd dX12_source_332 ?_
      refine m_last 25 (ns) hM dX12_source_333 (by decide) rfl rfl (by exact (bas_ne σ ns (nI p) t a n v (k := 16) (i := 0) (by omega)).1.trans h16) (show ns < 20 by omega) (fun Z hM hF1 => ?_)
      replace hF := hF.tr hF1
      first | refine q_aload_n dX12_source_334 rfl ?_ | refine q_aload_nN dX12_source_334 rfl ?_
      refine q_getf dX12_source_335 fk_X12_72_11 hM.K (hM.a 26 (by decide) (by decide)) ?_
      first | refine q_aload_n dX12_source_338 rfl ?_ | refine q_aload_nN dX12_source_338 rfl ?_
      refine q_getf dX12_source_339 fk_X12_137_11 hM.K (hM.i 16 (by decide) rfl rfl) ?_
      first | refine q_aload_n dX12_source_342 rfl ?_ | refine q_aload_nN dX12_source_342 rfl ?_
      refine q_getf dX12_source_343 fk_X12_72_11 hM.K (hM.a 26 (by decide) (by decide)) ?_
      refine q_iload_n dX12_source_346 rfl ?_
      refine m_lald 26 (p) hM dX12_source_347 (by decide) rfl rfl rfl (show p < 20 by omega) ?_
      rw [pJ_ne (by decide), (bas_ne σ ns (nI p) t a n v (k := 26) (i := p) (by omega)).2]
      refine q_lneg dX12_source_348 ?_
      refine m_last 26 (ns) hM dX12_source_349 (by decide) rfl rfl (by rw [pJ_1]; exact (bas_ne σ ns (nI p) t a n v (k := 16) (i := 0) (by omega)).1.trans h16) (show ns < 20 by omega) (fun Z hM hF1 => ?_)
      replace hF := hF.tr hF1
      first | refine q_aload_n dX12_source_350 rfl ?_ | refine q_aload_nN dX12_source_350 rfl ?_
      refine q_getf dX12_source_351 fk_X12_75_11 hM.K (hM.a 27 (by decide) (by decide)) ?_
      first | refine q_aload_n dX12_source_354 rfl ?_ | refine q_aload_nN dX12_source_354 rfl ?_
      refine q_getf dX12_source_355 fk_X12_137_11 hM.K (hM.i 16 (by decide) rfl rfl) ?_
      refine q_lload dX12_source_358 rfl ?_
      refine m_last 27 (ns) hM dX12_source_360 (by decide) rfl rfl (by rw [pJ_1, pJ_1]; exact (bas_ne σ ns (nI p) t a n v (k := 16) (i := 0) (by omega)).1.trans h16) (show ns < 20 by omega) (fun Z hM hF1 => ?_)
      replace hF := hF.tr hF1
      refine q_goto 428 dX12_source_361 (by decide) ?_
      exact msrc_428p l G M Z0 Z y _ _ hM hF ns (by rw [pJ_1, pJ_1, pJ_1]; exact (bas_ne σ ns (nI p) t a n v (k := 16) (i := 0) (by omega)).1.trans h16) hlt so (nI p) t a n v two d _ P (fun Z1 f m => hP Z1 f (by rw [com_pl] at m; unfold plnF plnT plnN; rw [nI_clamp (by omega), if_pos c293, if_pos c293, if_pos c293, if_neg c313]; exact m))
    · refine q_lconst (v := 0) dX12_source_317 (by decide) ?_
      refine q_goto 332 dX12_source_318 (by decide) ?_
      refine q_ladd dX12_source_332 ?_
      refine m_last 25 (ns) hM dX12_source_333 (by decide) rfl rfl (by exact (bas_ne σ ns (nI p) t a n v (k := 16) (i := 0) (by omega)).1.trans h16) (show ns < 20 by omega) (fun Z hM hF1 => ?_)
      replace hF := hF.tr hF1
      first | refine q_aload_n dX12_source_334 rfl ?_ | refine q_aload_nN dX12_source_334 rfl ?_
      refine q_getf dX12_source_335 fk_X12_72_11 hM.K (hM.a 26 (by decide) (by decide)) ?_
      first | refine q_aload_n dX12_source_338 rfl ?_ | refine q_aload_nN dX12_source_338 rfl ?_
      refine q_getf dX12_source_339 fk_X12_137_11 hM.K (hM.i 16 (by decide) rfl rfl) ?_
      first | refine q_aload_n dX12_source_342 rfl ?_ | refine q_aload_nN dX12_source_342 rfl ?_
      refine q_getf dX12_source_343 fk_X12_72_11 hM.K (hM.a 26 (by decide) (by decide)) ?_
      refine q_iload_n dX12_source_346 rfl ?_
      refine m_lald 26 (p) hM dX12_source_347 (by decide) rfl rfl rfl (show p < 20 by omega) ?_
      rw [pJ_ne (by decide), (bas_ne σ ns (nI p) t a n v (k := 26) (i := p) (by omega)).2]
      refine q_lneg dX12_source_348 ?_
      refine m_last 26 (ns) hM dX12_source_349 (by decide) rfl rfl (by rw [pJ_1]; exact (bas_ne σ ns (nI p) t a n v (k := 16) (i := 0) (by omega)).1.trans h16) (show ns < 20 by omega) (fun Z hM hF1 => ?_)
      replace hF := hF.tr hF1
      first | refine q_aload_n dX12_source_350 rfl ?_ | refine q_aload_nN dX12_source_350 rfl ?_
      refine q_getf dX12_source_351 fk_X12_75_11 hM.K (hM.a 27 (by decide) (by decide)) ?_
      first | refine q_aload_n dX12_source_354 rfl ?_ | refine q_aload_nN dX12_source_354 rfl ?_
      refine q_getf dX12_source_355 fk_X12_137_11 hM.K (hM.i 16 (by decide) rfl rfl) ?_
      refine q_lload dX12_source_358 rfl ?_
      refine m_last 27 (ns) hM dX12_source_360 (by decide) rfl rfl (by rw [pJ_1, pJ_1]; exact (bas_ne σ ns (nI p) t a n v (k := 16) (i := 0) (by omega)).1.trans h16) (show ns < 20 by omega) (fun Z hM hF1 => ?_)
      replace hF := hF.tr hF1
      refine q_goto 428 dX12_source_361 (by decide) ?_
      exact msrc_428p l G M Z0 Z y _ _ hM hF ns (by rw [pJ_1, pJ_1, pJ_1]; exact (bas_ne σ ns (nI p) t a n v (k := 16) (i := 0) (by omega)).1.trans h16) hlt so (nI p) t a n v two d _ P (fun Z1 f m => hP Z1 f (by rw [com_pl] at m; unfold plnF plnT plnN; rw [nI_clamp (by omega), if_pos c293, if_pos c293, if_pos c293, if_pos c313]; exact m))
set_option maxHeartbeats 600000 in
set_option maxRecDepth 100000 in
theorem msrc_198 (l : Launch) (G : Gt) (M : Mt) (Z0 Z : Zt) (y : Nat) (σ e : St) (hM : MR Z y σ e) (hF : MF y Z0 Z) (ns : Nat) (h16 : σ.1 16 0 = nI ns) (hlt : ns < 20) (so s t a n : Int32) (v : Int64) (two d : Int32) (hs : so = 9 ∨ ∃ p, p < ns ∧ s = nI p) (h24 : ∀ p, p < ns → σ.1 24 p = 0 ∨ σ.1 24 p = 1) (hn8 : so = 8 → ¬ n.toInt64 = 0) (P : Int32 → Zt → Prop) (hP : ∀ Z1, MF y Z0 Z1 → MR Z1 y (if (so = 5 ∨ so = 8) ∧ σ.1 24 s.toNatClampNeg = 1 then addS σ ns so s t a n d 1 v (plnF σ so s) (plnT σ so s n) (plnN σ so s n) else addS σ ns so s t a n d 0 v (σ.2 25 ns) (σ.2 26 ns) (σ.2 27 ns)) e → P (nI ns) Z1) : Jd l G YX12_source (1, 0, 0) M Z 0 0 (Qm G (1, 0, 0) M (ΦI P)) 198 [some (.ref y), some (.int so), some (.int s), some (.int t), some (.int a), some (.int n), some (.long v), none, some (.int two), some (.int d), none, none, none] [] := by
  first | refine q_aload_n dX12_source_198 rfl ?_ | refine q_aload_nN dX12_source_198 rfl ?_
  refine q_getf dX12_source_199 fk_X12_47_11 hM.K (hM.a 18 (by decide) (by decide)) ?_
  first | refine q_aload_n dX12_source_202 rfl ?_ | refine q_aload_nN dX12_source_202 rfl ?_
  refine q_getf dX12_source_203 fk_X12_137_11 hM.K (hM.i 16 (by decide) rfl rfl) ?_
  refine q_iload_n dX12_source_206 rfl ?_
  refine m_iast 18 (ns) hM dX12_source_207 (by decide) rfl rfl h16 (show ns < 20 by omega) (fun Z hM hF1 => ?_)
  replace hF := hF.tr hF1
  first | refine q_aload_n dX12_source_208 rfl ?_ | refine q_aload_nN dX12_source_208 rfl ?_
  refine q_getf dX12_source_209 fk_X12_50_11 hM.K (hM.a 19 (by decide) (by decide)) ?_
  first | refine q_aload_n dX12_source_212 rfl ?_ | refine q_aload_nN dX12_source_212 rfl ?_
  refine q_getf dX12_source_213 fk_X12_137_11 hM.K (hM.i 16 (by decide) rfl rfl) ?_
  refine q_iload_n dX12_source_216 rfl ?_
  refine m_iast 19 (ns) hM dX12_source_217 (by decide) rfl rfl (by rw [pI_ne (by decide)]; exact h16) (show ns < 20 by omega) (fun Z hM hF1 => ?_)
  replace hF := hF.tr hF1
  first | refine q_aload_n dX12_source_218 rfl ?_ | refine q_aload_nN dX12_source_218 rfl ?_
  refine q_getf dX12_source_219 fk_X12_53_11 hM.K (hM.a 20 (by decide) (by decide)) ?_
  first | refine q_aload_n dX12_source_222 rfl ?_ | refine q_aload_nN dX12_source_222 rfl ?_
  refine q_getf dX12_source_223 fk_X12_137_11 hM.K (hM.i 16 (by decide) rfl rfl) ?_
  refine q_iload dX12_source_226 rfl ?_
  refine m_iast 20 (ns) hM dX12_source_228 (by decide) rfl rfl (by rw [pI_ne (by decide), pI_ne (by decide)]; exact h16) (show ns < 20 by omega) (fun Z hM hF1 => ?_)
  replace hF := hF.tr hF1
  first | refine q_aload_n dX12_source_229 rfl ?_ | refine q_aload_nN dX12_source_229 rfl ?_
  refine q_getf dX12_source_230 fk_X12_56_11 hM.K (hM.a 21 (by decide) (by decide)) ?_
  first | refine q_aload_n dX12_source_233 rfl ?_ | refine q_aload_nN dX12_source_233 rfl ?_
  refine q_getf dX12_source_234 fk_X12_137_11 hM.K (hM.i 16 (by decide) rfl rfl) ?_
  refine q_iload dX12_source_237 rfl ?_
  refine m_iast 21 (ns) hM dX12_source_239 (by decide) rfl rfl (by rw [pI_ne (by decide), pI_ne (by decide), pI_ne (by decide)]; exact h16) (show ns < 20 by omega) (fun Z hM hF1 => ?_)
  replace hF := hF.tr hF1
  first | refine q_aload_n dX12_source_240 rfl ?_ | refine q_aload_nN dX12_source_240 rfl ?_
  refine q_getf dX12_source_241 fk_X12_59_11 hM.K (hM.a 22 (by decide) (by decide)) ?_
  first | refine q_aload_n dX12_source_244 rfl ?_ | refine q_aload_nN dX12_source_244 rfl ?_
  refine q_getf dX12_source_245 fk_X12_137_11 hM.K (hM.i 16 (by decide) rfl rfl) ?_
  refine q_lload dX12_source_248 rfl ?_
  refine m_last 22 (ns) hM dX12_source_250 (by decide) rfl rfl (by rw [pI_ne (by decide), pI_ne (by decide), pI_ne (by decide), pI_ne (by decide)]; exact h16) (show ns < 20 by omega) (fun Z hM hF1 => ?_)
  replace hF := hF.tr hF1
  replace hM : MR Z y (bas σ ns s t a n v) e := hM
  refine q_iload_n dX12_source_251 rfl ?_
  refine q_iconst (v := 5) dX12_source_252 (by decide) ?_
  refine q_icmp_eq 262 dX12_source_253 (by decide) (fun c253 => ?_) (fun c253 => ?_)
  · obtain ⟨p, hp, rfl⟩ := hs.resolve_left (fun z => by rw [c253] at z; exact absurd z (by decide))
    first | refine q_aload_n dX12_source_262 rfl ?_ | refine q_aload_nN dX12_source_262 rfl ?_
    refine q_getf dX12_source_263 fk_X12_65_11 hM.K (hM.a 24 (by decide) (by decide)) ?_
    refine q_iload_n dX12_source_266 rfl ?_
    refine m_zald 24 (p) hM dX12_source_267 (by decide) rfl rfl rfl (show p < 20 by omega) ?_
    rw [(bas_ne σ ns (nI p) t a n v (k := 24) (i := p) (by omega)).1]
    refine q_if_eq 275 dX12_source_268 (by decide) (fun c268 => ?_) (fun c268 => ?_)
    · refine q_iconst (v := 0) dX12_source_275 (by decide) ?_
      refine q_istore (ls' := [_, _, _, _, _, _, _, _, _, _, _, _, _]) dX12_source_276 rfl rfl (Nat.le_of_ble_eq_true rfl) (by decide) ?_
      refine q_iload dX12_source_278 rfl ?_
      refine q_if_eq 428 dX12_source_280 (by decide) (fun c280 => ?_) (fun c280 => absurd c280 (not_not_intro rfl))
      exact msrc_428n l G M Z0 Z y _ _ hM hF ns ((bas_ne σ ns (nI p) t a n v (k := 16) (i := 0) (by omega)).1.trans h16) hlt so (nI p) t a n v two d P (fun Z1 f m => hP Z1 f (by rw [com_np] at m; rw [if_neg (fun z => absurd ((by rw [nI_clamp (by omega)] at z; exact z.2) : σ.1 24 p = 1) (by rw [c268]; decide))]; exact m))
    · refine q_iconst (v := 1) dX12_source_271 (by decide) ?_
      refine q_goto 276 dX12_source_272 (by decide) ?_
      refine q_istore (ls' := [_, _, _, _, _, _, _, _, _, _, _, _, _]) dX12_source_276 rfl rfl (Nat.le_of_ble_eq_true rfl) (by decide) ?_
      refine q_iload dX12_source_278 rfl ?_
      refine q_if_eq 428 dX12_source_280 (by decide) (fun c280 => absurd c280 (by decide)) (fun c280 => ?_)
      exact msrc_283 l G M Z0 Z y σ _ hF ns h16 hlt p hp so t a n v hM two d (Or.inl c253) hn8 P (fun Z1 f m => hP Z1 f (by rw [if_pos ⟨Or.inl c253, by rw [nI_clamp (by omega)]; exact (h24 p hp).resolve_left c268⟩]; exact m))
  · refine q_iload_n dX12_source_256 rfl ?_
    refine q_bipush (v := 8) dX12_source_257 (by decide) ?_
    refine q_icmp_ne 275 dX12_source_259 (by decide) (fun c259 => ?_) (fun c259 => ?_)
    · refine q_iconst (v := 0) dX12_source_275 (by decide) ?_
      refine q_istore (ls' := [_, _, _, _, _, _, _, _, _, _, _, _, _]) dX12_source_276 rfl rfl (Nat.le_of_ble_eq_true rfl) (by decide) ?_
      refine q_iload dX12_source_278 rfl ?_
      refine q_if_eq 428 dX12_source_280 (by decide) (fun c280 => ?_) (fun c280 => absurd c280 (not_not_intro rfl))
      exact msrc_428n l G M Z0 Z y _ _ hM hF ns ((bas_ne σ ns s t a n v (k := 16) (i := 0) (by omega)).1.trans h16) hlt so s t a n v two d P (fun Z1 f m => hP Z1 f (by rw [com_np] at m; rw [if_neg (fun z => z.1.elim c253 c259)]; exact m))
    · obtain ⟨p, hp, rfl⟩ := hs.resolve_left (fun z => by rw [c259] at z; exact absurd z (by decide))
      first | refine q_aload_n dX12_source_262 rfl ?_ | refine q_aload_nN dX12_source_262 rfl ?_
      refine q_getf dX12_source_263 fk_X12_65_11 hM.K (hM.a 24 (by decide) (by decide)) ?_
      refine q_iload_n dX12_source_266 rfl ?_
      refine m_zald 24 (p) hM dX12_source_267 (by decide) rfl rfl rfl (show p < 20 by omega) ?_
      rw [(bas_ne σ ns (nI p) t a n v (k := 24) (i := p) (by omega)).1]
      refine q_if_eq 275 dX12_source_268 (by decide) (fun c268 => ?_) (fun c268 => ?_)
      · refine q_iconst (v := 0) dX12_source_275 (by decide) ?_
        refine q_istore (ls' := [_, _, _, _, _, _, _, _, _, _, _, _, _]) dX12_source_276 rfl rfl (Nat.le_of_ble_eq_true rfl) (by decide) ?_
        refine q_iload dX12_source_278 rfl ?_
        refine q_if_eq 428 dX12_source_280 (by decide) (fun c280 => ?_) (fun c280 => absurd c280 (not_not_intro rfl))
        exact msrc_428n l G M Z0 Z y _ _ hM hF ns ((bas_ne σ ns (nI p) t a n v (k := 16) (i := 0) (by omega)).1.trans h16) hlt so (nI p) t a n v two d P (fun Z1 f m => hP Z1 f (by rw [com_np] at m; rw [if_neg (fun z => absurd ((by rw [nI_clamp (by omega)] at z; exact z.2) : σ.1 24 p = 1) (by rw [c268]; decide))]; exact m))
      · refine q_iconst (v := 1) dX12_source_271 (by decide) ?_
        refine q_goto 276 dX12_source_272 (by decide) ?_
        refine q_istore (ls' := [_, _, _, _, _, _, _, _, _, _, _, _, _]) dX12_source_276 rfl rfl (Nat.le_of_ble_eq_true rfl) (by decide) ?_
        refine q_iload dX12_source_278 rfl ?_
        refine q_if_eq 428 dX12_source_280 (by decide) (fun c280 => absurd c280 (by decide)) (fun c280 => ?_)
        exact msrc_283 l G M Z0 Z y σ _ hF ns h16 hlt p hp so t a n v hM two d (Or.inr c259) hn8 P (fun Z1 f m => hP Z1 f (by rw [if_pos ⟨Or.inr c259, by rw [nI_clamp (by omega)]; exact (h24 p hp).resolve_left c268⟩]; exact m))
set_option maxHeartbeats 600000 in
set_option maxRecDepth 100000 in
theorem msrc_179 (l : Launch) (G : Gt) (M : Mt) (Z0 Z : Zt) (y : Nat) (σ e : St) (hM : MR Z y σ e) (hF : MF y Z0 Z) (ns : Nat) (h16 : σ.1 16 0 = nI ns) (hns : ns ≤ 20) (so s t a n : Int32) (v : Int64) (two d : Int32) (hs : so = 9 ∨ ∃ p, p < ns ∧ s = nI p) (h24 : ∀ p, p < ns → σ.1 24 p = 0 ∨ σ.1 24 p = 1) (hn8 : so = 8 → ¬ n.toInt64 = 0) (P : Int32 → Zt → Prop) (hP : ∀ r Z1, MF y Z0 Z1 → (r = (if (so = 5 ∨ so = 8) ∧ σ.1 24 s.toNatClampNeg = 1 then keepS σ so s t a n d 1 v (plnF σ so s) (plnT σ so s n) (plnN σ so s n) else keepS σ so s t a n d 0 v (σ.2 25 (σ.1 16 0).toNatClampNeg) (σ.2 26 (σ.1 16 0).toNatClampNeg) (σ.2 27 (σ.1 16 0).toNatClampNeg)).1 ∧ ∃ e1, MR Z1 y (if (so = 5 ∨ so = 8) ∧ σ.1 24 s.toNatClampNeg = 1 then keepS σ so s t a n d 1 v (plnF σ so s) (plnT σ so s n) (plnN σ so s n) else keepS σ so s t a n d 0 v (σ.2 25 (σ.1 16 0).toNatClampNeg) (σ.2 26 (σ.1 16 0).toNatClampNeg) (σ.2 27 (σ.1 16 0).toNatClampNeg)).2 e1) → P r Z1) : Jd l G YX12_source (1, 0, 0) M Z 0 0 (Qm G (1, 0, 0) M (ΦI P)) 179 [some (.ref y), some (.int so), some (.int s), some (.int t), some (.int a), some (.int n), some (.long v), none, some (.int two), some (.int d), none, none, none] [] := by
  first | refine q_aload_n dX12_source_179 rfl ?_ | refine q_aload_nN dX12_source_179 rfl ?_
  refine q_getf dX12_source_180 fk_X12_137_11 hM.K (hM.i 16 (by decide) rfl rfl) ?_
  refine q_bipush (v := 20) dX12_source_183 (by decide) ?_
  refine q_icmp_eq 195 dX12_source_185 (by decide) (fun c185 => ?_) (fun c185 => ?_)
  · refine q_bipush (v := (-3)) dX12_source_195 (by decide) ?_
    exact q_ireturn dX12_source_197 rfl (by decide) (by decide) (hP _ _ hF (by unfold keepS; rw [if_pos (Or.inl (by rw [c185]; decide)), if_pos (Or.inl (by rw [c185]; decide)), ite_self]; exact ⟨rfl, _, hM⟩))
  · refine q_iload dX12_source_188 rfl ?_
    refine q_bipush (v := 6) dX12_source_190 (by decide) ?_
    refine q_icmp_le 198 dX12_source_192 (by decide) (fun c192 => ?_) (fun c192 => ?_)
    · rw [h16] at c185
      have hlt := n20 hns c185
      refine msrc_198 l G M Z0 Z y σ _ hM hF ns h16 hlt so s t a n v two d hs h24 hn8 P (fun Z1 f m => hP _ Z1 f ?_)
      have hnf : ¬ (20 ≤ σ.1 16 0 ∨ ¬ d ≤ 6) := fun z => z.elim (by rw [h16]; exact n20' hlt) (fun y => y c192)
      unfold keepS
      rw [if_neg hnf, if_neg hnf, h16, nI_clamp (by omega)]
      by_cases hp : (so = 5 ∨ so = 8) ∧ σ.1 24 s.toNatClampNeg = 1
      · rw [if_pos hp] at m ⊢
        exact ⟨rfl, _, m⟩
      · rw [if_neg hp] at m ⊢
        exact ⟨rfl, _, m⟩
    · refine q_bipush (v := (-3)) dX12_source_195 (by decide) ?_
      exact q_ireturn dX12_source_197 rfl (by decide) (by decide) (hP _ _ hF (by unfold keepS; rw [if_pos (Or.inr c192), if_pos (Or.inr c192), ite_self]; exact ⟨rfl, _, hM⟩))
