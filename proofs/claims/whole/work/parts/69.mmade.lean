theorem PP_dn {y : Nat} {Z0 Z : Zt} {e0 : St} {q sp : Int32 × St} {wh : Int32} (hF : MF y Z0 Z) (hM : MR Z y q.2 (ex e0 (-10 - q.1) wh)) (hs : ¬ 0 ≤ q.1) (hw : q.1 ≠ -18 → wh = q.2.1 14 0) (e : sp = (q.1, q.2)) : PP y Z0 e0 sp 0 Z := by
  subst e
  exact ⟨hF, _, wh, hM, fun z => absurd z hs, fun _ => ⟨rfl, rfl, hw⟩⟩
theorem m2_7 (r : Int32) : ¬ made2 7 r := fun z => by
  rcases z with ⟨e, -⟩ | ⟨e, -⟩ | ⟨e, -⟩ <;> exact absurd e (by decide)
theorem m2_11 (r : Int32) : ¬ made2 11 r := fun z => by
  rcases z with ⟨e, -⟩ | ⟨e, -⟩ | ⟨e, -⟩ <;> exact absurd e (by decide)
theorem m2_8 {r : Int32} : made2 8 r ↔ r = 1 := by
  refine ⟨fun z => ?_, fun h => Or.inl ⟨rfl, h⟩⟩
  rcases z with ⟨-, e⟩ | ⟨e, -⟩ | ⟨e, -⟩
  · exact e
  · exact absurd e (by decide)
  · exact absurd e (by decide)
theorem m2_9 {r : Int32} : made2 9 r ↔ r = 0 := by
  refine ⟨fun z => ?_, fun h => Or.inr (Or.inl ⟨rfl, h⟩)⟩
  rcases z with ⟨e, -⟩ | ⟨-, e⟩ | ⟨e, -⟩
  · exact absurd e (by decide)
  · exact e
  · exact absurd e (by decide)
theorem m2_10 {r : Int32} : made2 10 r ↔ ¬ 0 ≤ r ∧ ¬ r = -18 := by
  refine ⟨fun z => ?_, fun h => Or.inr (Or.inr ⟨rfl, h⟩)⟩
  rcases z with ⟨e, -⟩ | ⟨e, -⟩ | ⟨-, e⟩
  · exact absurd e (by decide)
  · exact absurd e (by decide)
  · exact e
theorem mR_n {k r : Int32} (h : ¬ 0 ≤ r) : madeR k r = r := by unfold madeR; rw [if_neg (fun z => h z.2)]
theorem mR_7 {r : Int32} (h : 0 ≤ r) : madeR 7 r = 1 - r := by unfold madeR; rw [if_pos ⟨rfl, h⟩]
theorem mR_o {k r : Int32} (h : ¬ k = 7) : madeR k r = r := by unfold madeR; rw [if_neg (fun z => h z.1)]
set_option maxHeartbeats 600000 in
set_option maxRecDepth 100000 in
theorem mp_7 (l : Launch) (G : Gt) (M : Mt) (Z0 Z : Zt) (y : Nat) (σ e0 : St) (wh : Int32) (hM : MR Z y σ (ex e0 0 wh)) (hF : MF y Z0 Z) (n nf f g : Nat) (c v : Int64) (ih : ∀ (f : Nat) (c : Int64) (Z : Zt) (σ : St) (wh : Int32), f < nf → dpt σ f ≤ n → PFf σ nf → f15 σ → MR Z y σ (ex e0 0 wh) → Ct l G YX12_passes (n + 1, 0, 0) Z [.ref y, .int (nI f), .long c] (ΦI (PP y Z e0 (jS n f c σ)))) (hf : f < nf) (hd : dpt σ f ≤ n + 1) (hP : PFf σ nf) (h15 : f15 σ) (hk : σ.1 7 f = 7) (hg : g < f) (h8 : σ.1 8 f = nI g) (hdg : dpt σ g < dpt σ f)  : Jd l G YX12_passes (n + 2, 0, 0) M Z 0 0 (Qm G (n + 2, 0, 0) M (ΦI (PP y Z0 e0 (jS (n + 1) f c σ)))) 372 [some (.ref y), some (.int (nI f)), some (.long c), none, some (.int (nI g)), some (.long v), none, none] [] := by
  have hn20 := hP.1
  first | refine q_aload_n dX12_passes_372 rfl ?_ | refine q_aload_nN dX12_passes_372 rfl ?_
  refine q_iload dX12_passes_373 rfl ?_
  refine q_lload_n dX12_passes_375 rfl ?_
  refine q_callV 11 dX12_passes_376 mk_X12_131 rfl hM.K (ih g c Z σ wh (by omega) (by omega) hP h15 hM) rfl np_X12_passes (Nat.le_refl _) (Nat.le_refl _) (Nat.le_refl _) (Nat.le_of_ble_eq_true rfl) (kI (fun r1 Z1 hq => ?_))
  have hv := (jS_ok n g c σ h15).2
  have h15' := (jS_ok n g c σ h15).1
  have kp := kp4_jS n g c σ
  obtain ⟨f1, fl, wh1, m1, ok, bad⟩ := hq
  replace hF := hF.tr f1
  have hM := m1
  have hm : 7 ≤ σ.1 7 f ∧ σ.1 7 f ≤ 11 := by rw [hk]; decide
  have hs1 : (if σ.1 7 f = 11 then pI σ 12 f (σ.1 12 f + 1) else σ) = σ := if_neg (by rw [hk]; decide)
  by_cases hs : 0 ≤ (jS n g c σ).1
  · obtain ⟨rfl, hr⟩ := ok hs
    rcases vL_01 _ hv hs with e | e
    · rw [e] at hr
      subst hr
      refine q_istore (ls' := [_, _, _, _, _, _, _, _]) dX12_passes_379 rfl rfl (Nat.le_of_ble_eq_true rfl) (by decide) ?_
      first | refine q_aload_n dX12_passes_381 rfl ?_ | refine q_aload_nN dX12_passes_381 rfl ?_
      refine q_getf dX12_passes_382 fk_X12_113_11 hM.K (hM.ix 13 (by decide) rfl rfl) ?_
      rw [ex_13]
      refine q_if_ne 397 dX12_passes_385 (by decide) (fun c385 => absurd c385 (not_not_intro rfl)) (fun c385 => ?_)
      refine q_iload dX12_passes_388 rfl ?_
      refine q_if_ne 397 dX12_passes_390 (by decide) (fun c390 => absurd c390 (not_not_intro rfl)) (fun c390 => ?_)
      refine q_iconst (v := 1) dX12_passes_393 (by decide) ?_
      refine q_goto 398 dX12_passes_394 (by decide) ?_
      exact q_zreturn dX12_passes_398 rfl rfl (Nat.le_refl _) (Nat.le_refl _) (PP_ok hF hM (by rw [jS_1 hm hs1 h8 (by omega) (by rw [hk]; exact m2_7 _), hk, e, mR_7 (by decide)] <;> rfl) (by decide))
    · rw [e] at hr
      subst hr
      refine q_istore (ls' := [_, _, _, _, _, _, _, _]) dX12_passes_379 rfl rfl (Nat.le_of_ble_eq_true rfl) (by decide) ?_
      first | refine q_aload_n dX12_passes_381 rfl ?_ | refine q_aload_nN dX12_passes_381 rfl ?_
      refine q_getf dX12_passes_382 fk_X12_113_11 hM.K (hM.ix 13 (by decide) rfl rfl) ?_
      rw [ex_13]
      refine q_if_ne 397 dX12_passes_385 (by decide) (fun c385 => absurd c385 (not_not_intro rfl)) (fun c385 => ?_)
      refine q_iload dX12_passes_388 rfl ?_
      refine q_if_ne 397 dX12_passes_390 (by decide) (fun c390 => ?_) (fun c390 => absurd c390 (by decide))
      refine q_iconst (v := 0) dX12_passes_397 (by decide) ?_
      exact q_zreturn dX12_passes_398 rfl rfl (Nat.le_refl _) (Nat.le_refl _) (PP_ok hF hM (by rw [jS_1 hm hs1 h8 (by omega) (by rw [hk]; exact m2_7 _), hk, e, mR_7 (by decide)] <;> rfl) (by decide))
  · obtain ⟨rfl, rfl, hw⟩ := bad hs
    refine q_istore (ls' := [_, _, _, _, _, _, _, _]) dX12_passes_379 rfl rfl (Nat.le_of_ble_eq_true rfl) (by decide) ?_
    first | refine q_aload_n dX12_passes_381 rfl ?_ | refine q_aload_nN dX12_passes_381 rfl ?_
    refine q_getf dX12_passes_382 fk_X12_113_11 hM.K (hM.ix 13 (by decide) rfl rfl) ?_
    rw [ex_13]
    refine q_if_ne 397 dX12_passes_385 (by decide) (fun c385 => ?_) (fun c385 => absurd c385 (vL_n _ hv hs))
    refine q_iconst (v := 0) dX12_passes_397 (by decide) ?_
    exact q_zreturn dX12_passes_398 rfl rfl (Nat.le_refl _) (Nat.le_refl _) (PP_dn hF hM hs hw (by rw [jS_1 hm hs1 h8 (by omega) (by rw [hk]; exact m2_7 _), mR_n hs]))
set_option maxHeartbeats 600000 in
set_option maxRecDepth 100000 in
theorem mp_8 (l : Launch) (G : Gt) (M : Mt) (Z0 Z : Zt) (y : Nat) (σ e0 : St) (wh : Int32) (hM : MR Z y σ (ex e0 0 wh)) (hF : MF y Z0 Z) (n nf f g : Nat) (c v : Int64) (ih : ∀ (f : Nat) (c : Int64) (Z : Zt) (σ : St) (wh : Int32), f < nf → dpt σ f ≤ n → PFf σ nf → f15 σ → MR Z y σ (ex e0 0 wh) → Ct l G YX12_passes (n + 1, 0, 0) Z [.ref y, .int (nI f), .long c] (ΦI (PP y Z e0 (jS n f c σ)))) (hf : f < nf) (hd : dpt σ f ≤ n + 1) (hP : PFf σ nf) (h15 : f15 σ) (hk : σ.1 7 f = 8) (hg : g < f) (h8 : σ.1 8 f = nI g) (hdg : dpt σ g < dpt σ f) (h : Nat) (hh : h < f) (h9 : σ.1 9 f = nI h) (hdh : dpt σ h < dpt σ f)  : Jd l G YX12_passes (n + 2, 0, 0) M Z 0 0 (Qm G (n + 2, 0, 0) M (ΦI (PP y Z0 e0 (jS (n + 1) f c σ)))) 399 [some (.ref y), some (.int (nI f)), some (.long c), none, some (.int (nI g)), some (.long v), none, none] [] := by
  have hn20 := hP.1
  first | refine q_aload_n dX12_passes_399 rfl ?_ | refine q_aload_nN dX12_passes_399 rfl ?_
  refine q_iload dX12_passes_400 rfl ?_
  refine q_lload_n dX12_passes_402 rfl ?_
  refine q_callV 11 dX12_passes_403 mk_X12_131 rfl hM.K (ih g c Z σ wh (by omega) (by omega) hP h15 hM) rfl np_X12_passes (Nat.le_refl _) (Nat.le_refl _) (Nat.le_refl _) (Nat.le_of_ble_eq_true rfl) (kI (fun r1 Z1 hq => ?_))
  have hv := (jS_ok n g c σ h15).2
  have h15' := (jS_ok n g c σ h15).1
  have kp := kp4_jS n g c σ
  obtain ⟨f1, fl, wh1, m1, ok, bad⟩ := hq
  replace hF := hF.tr f1
  have hM := m1
  have hm : 7 ≤ σ.1 7 f ∧ σ.1 7 f ≤ 11 := by rw [hk]; decide
  have hs1 : (if σ.1 7 f = 11 then pI σ 12 f (σ.1 12 f + 1) else σ) = σ := if_neg (by rw [hk]; decide)
  by_cases hs : 0 ≤ (jS n g c σ).1
  · obtain ⟨rfl, hr⟩ := ok hs
    rcases vL_01 _ hv hs with e | e
    · rw [e] at hr
      subst hr
      refine q_istore (ls' := [_, _, _, _, _, _, _, _]) dX12_passes_406 rfl rfl (Nat.le_of_ble_eq_true rfl) (by decide) ?_
      first | refine q_aload_n dX12_passes_408 rfl ?_ | refine q_aload_nN dX12_passes_408 rfl ?_
      refine q_getf dX12_passes_409 fk_X12_113_11 hM.K (hM.ix 13 (by decide) rfl rfl) ?_
      rw [ex_13]
      refine q_if_ne 438 dX12_passes_412 (by decide) (fun c412 => absurd c412 (not_not_intro rfl)) (fun c412 => ?_)
      refine q_iload dX12_passes_415 rfl ?_
      refine q_if_eq 438 dX12_passes_417 (by decide) (fun c417 => ?_) (fun c417 => absurd c417 (not_not_intro rfl))
      refine q_iconst (v := 0) dX12_passes_438 (by decide) ?_
      exact q_zreturn dX12_passes_439 rfl rfl (Nat.le_refl _) (Nat.le_refl _) (PP_ok hF hM (by rw [jS_1 hm hs1 h8 (by omega) (by rw [hk, m2_8]; exact fun z => absurd (e.symm.trans z) (by decide)), hk, e, mR_o (by decide)] <;> rfl) (by decide))
    · rw [e] at hr
      subst hr
      refine q_istore (ls' := [_, _, _, _, _, _, _, _]) dX12_passes_406 rfl rfl (Nat.le_of_ble_eq_true rfl) (by decide) ?_
      first | refine q_aload_n dX12_passes_408 rfl ?_ | refine q_aload_nN dX12_passes_408 rfl ?_
      refine q_getf dX12_passes_409 fk_X12_113_11 hM.K (hM.ix 13 (by decide) rfl rfl) ?_
      rw [ex_13]
      refine q_if_ne 438 dX12_passes_412 (by decide) (fun c412 => absurd c412 (not_not_intro rfl)) (fun c412 => ?_)
      refine q_iload dX12_passes_415 rfl ?_
      refine q_if_eq 438 dX12_passes_417 (by decide) (fun c417 => absurd c417 (by decide)) (fun c417 => ?_)
      have dp2 : dpt (jS n g c σ).2 h = dpt σ h := by unfold dpt; rw [kp.1 11 (by decide) (by decide) (by decide) (by decide)]
      first | refine q_aload_n dX12_passes_420 rfl ?_ | refine q_aload_nN dX12_passes_420 rfl ?_
      first | refine q_aload_n dX12_passes_421 rfl ?_ | refine q_aload_nN dX12_passes_421 rfl ?_
      refine q_getf dX12_passes_422 fk_X12_32_11 hM.K (hM.a 9 (by decide) (by decide)) ?_
      refine q_iload_n dX12_passes_425 rfl ?_
      refine m_iald 9 (f) hM dX12_passes_426 (by decide) rfl rfl rfl (show f < 20 by omega) ?_
      rw [kp.1 9 (by decide) (by decide) (by decide) (by decide), h9]
      refine q_lload_n dX12_passes_427 rfl ?_
      refine q_callV 11 dX12_passes_428 mk_X12_131 rfl hM.K (ih h c _ _ wh1 (by omega) (by rw [dp2]; omega) (hP.kp4 kp) h15' hM) rfl np_X12_passes (Nat.le_refl _) (Nat.le_refl _) (Nat.le_refl _) (Nat.le_of_ble_eq_true rfl) (kI (fun r2 Z2 hq2 => ?_))
      rcases PP_b hq2 (jS_ok n h c _ h15').2 with rfl | rfl
      · refine q_if_eq 438 dX12_passes_431 (by decide) (fun c431 => ?_) (fun c431 => absurd c431 (not_not_intro rfl))
        refine q_iconst (v := 0) dX12_passes_438 (by decide) ?_
        exact q_zreturn dX12_passes_439 rfl rfl (Nat.le_refl _) (Nat.le_refl _) (by rw [jS_2 hm (by rw [hk]; decide) h8 h9 (by omega) (by omega) (by rw [hk, m2_8]; exact e)]; exact PP_tr hF hq2)
      · refine q_if_eq 438 dX12_passes_431 (by decide) (fun c431 => absurd c431 (by decide)) (fun c431 => ?_)
        refine q_iconst (v := 1) dX12_passes_434 (by decide) ?_
        refine q_goto 439 dX12_passes_435 (by decide) ?_
        exact q_zreturn dX12_passes_439 rfl rfl (Nat.le_refl _) (Nat.le_refl _) (by rw [jS_2 hm (by rw [hk]; decide) h8 h9 (by omega) (by omega) (by rw [hk, m2_8]; exact e)]; exact PP_tr hF hq2)
  · obtain ⟨rfl, rfl, hw⟩ := bad hs
    refine q_istore (ls' := [_, _, _, _, _, _, _, _]) dX12_passes_406 rfl rfl (Nat.le_of_ble_eq_true rfl) (by decide) ?_
    first | refine q_aload_n dX12_passes_408 rfl ?_ | refine q_aload_nN dX12_passes_408 rfl ?_
    refine q_getf dX12_passes_409 fk_X12_113_11 hM.K (hM.ix 13 (by decide) rfl rfl) ?_
    rw [ex_13]
    refine q_if_ne 438 dX12_passes_412 (by decide) (fun c412 => ?_) (fun c412 => absurd c412 (vL_n _ hv hs))
    refine q_iconst (v := 0) dX12_passes_438 (by decide) ?_
    exact q_zreturn dX12_passes_439 rfl rfl (Nat.le_refl _) (Nat.le_refl _) (PP_dn hF hM hs hw (by rw [jS_1 hm hs1 h8 (by omega) (by rw [hk, m2_8]; exact fun z => hs (by rw [z]; decide)), mR_n hs]))
set_option maxHeartbeats 600000 in
set_option maxRecDepth 100000 in
theorem mp_9 (l : Launch) (G : Gt) (M : Mt) (Z0 Z : Zt) (y : Nat) (σ e0 : St) (wh : Int32) (hM : MR Z y σ (ex e0 0 wh)) (hF : MF y Z0 Z) (n nf f g : Nat) (c v : Int64) (ih : ∀ (f : Nat) (c : Int64) (Z : Zt) (σ : St) (wh : Int32), f < nf → dpt σ f ≤ n → PFf σ nf → f15 σ → MR Z y σ (ex e0 0 wh) → Ct l G YX12_passes (n + 1, 0, 0) Z [.ref y, .int (nI f), .long c] (ΦI (PP y Z e0 (jS n f c σ)))) (hf : f < nf) (hd : dpt σ f ≤ n + 1) (hP : PFf σ nf) (h15 : f15 σ) (hk : σ.1 7 f = 9) (hg : g < f) (h8 : σ.1 8 f = nI g) (hdg : dpt σ g < dpt σ f) (h : Nat) (hh : h < f) (h9 : σ.1 9 f = nI h) (hdh : dpt σ h < dpt σ f)  : Jd l G YX12_passes (n + 2, 0, 0) M Z 0 0 (Qm G (n + 2, 0, 0) M (ΦI (PP y Z0 e0 (jS (n + 1) f c σ)))) 440 [some (.ref y), some (.int (nI f)), some (.long c), none, some (.int (nI g)), some (.long v), none, none] [] := by
  have hn20 := hP.1
  first | refine q_aload_n dX12_passes_440 rfl ?_ | refine q_aload_nN dX12_passes_440 rfl ?_
  refine q_iload dX12_passes_441 rfl ?_
  refine q_lload_n dX12_passes_443 rfl ?_
  refine q_callV 11 dX12_passes_444 mk_X12_131 rfl hM.K (ih g c Z σ wh (by omega) (by omega) hP h15 hM) rfl np_X12_passes (Nat.le_refl _) (Nat.le_refl _) (Nat.le_refl _) (Nat.le_of_ble_eq_true rfl) (kI (fun r1 Z1 hq => ?_))
  have hv := (jS_ok n g c σ h15).2
  have h15' := (jS_ok n g c σ h15).1
  have kp := kp4_jS n g c σ
  obtain ⟨f1, fl, wh1, m1, ok, bad⟩ := hq
  replace hF := hF.tr f1
  have hM := m1
  have hm : 7 ≤ σ.1 7 f ∧ σ.1 7 f ≤ 11 := by rw [hk]; decide
  have hs1 : (if σ.1 7 f = 11 then pI σ 12 f (σ.1 12 f + 1) else σ) = σ := if_neg (by rw [hk]; decide)
  by_cases hs : 0 ≤ (jS n g c σ).1
  · obtain ⟨rfl, hr⟩ := ok hs
    rcases vL_01 _ hv hs with e | e
    · rw [e] at hr
      subst hr
      refine q_istore (ls' := [_, _, _, _, _, _, _, _]) dX12_passes_447 rfl rfl (Nat.le_of_ble_eq_true rfl) (by decide) ?_
      first | refine q_aload_n dX12_passes_449 rfl ?_ | refine q_aload_nN dX12_passes_449 rfl ?_
      refine q_getf dX12_passes_450 fk_X12_113_11 hM.K (hM.ix 13 (by decide) rfl rfl) ?_
      rw [ex_13]
      refine q_if_ne 479 dX12_passes_453 (by decide) (fun c453 => absurd c453 (not_not_intro rfl)) (fun c453 => ?_)
      refine q_iload dX12_passes_456 rfl ?_
      refine q_if_ne 475 dX12_passes_458 (by decide) (fun c458 => absurd c458 (not_not_intro rfl)) (fun c458 => ?_)
      have dp2 : dpt (jS n g c σ).2 h = dpt σ h := by unfold dpt; rw [kp.1 11 (by decide) (by decide) (by decide) (by decide)]
      first | refine q_aload_n dX12_passes_461 rfl ?_ | refine q_aload_nN dX12_passes_461 rfl ?_
      first | refine q_aload_n dX12_passes_462 rfl ?_ | refine q_aload_nN dX12_passes_462 rfl ?_
      refine q_getf dX12_passes_463 fk_X12_32_11 hM.K (hM.a 9 (by decide) (by decide)) ?_
      refine q_iload_n dX12_passes_466 rfl ?_
      refine m_iald 9 (f) hM dX12_passes_467 (by decide) rfl rfl rfl (show f < 20 by omega) ?_
      rw [kp.1 9 (by decide) (by decide) (by decide) (by decide), h9]
      refine q_lload_n dX12_passes_468 rfl ?_
      refine q_callV 11 dX12_passes_469 mk_X12_131 rfl hM.K (ih h c _ _ wh1 (by omega) (by rw [dp2]; omega) (hP.kp4 kp) h15' hM) rfl np_X12_passes (Nat.le_refl _) (Nat.le_refl _) (Nat.le_refl _) (Nat.le_of_ble_eq_true rfl) (kI (fun r2 Z2 hq2 => ?_))
      rcases PP_b hq2 (jS_ok n h c _ h15').2 with rfl | rfl
      · refine q_if_eq 479 dX12_passes_472 (by decide) (fun c472 => ?_) (fun c472 => absurd c472 (not_not_intro rfl))
        refine q_iconst (v := 0) dX12_passes_479 (by decide) ?_
        exact q_zreturn dX12_passes_480 rfl rfl (Nat.le_refl _) (Nat.le_refl _) (by rw [jS_2 hm (by rw [hk]; decide) h8 h9 (by omega) (by omega) (by rw [hk, m2_9]; exact e)]; exact PP_tr hF hq2)
      · refine q_if_eq 479 dX12_passes_472 (by decide) (fun c472 => absurd c472 (by decide)) (fun c472 => ?_)
        refine q_iconst (v := 1) dX12_passes_475 (by decide) ?_
        refine q_goto 480 dX12_passes_476 (by decide) ?_
        exact q_zreturn dX12_passes_480 rfl rfl (Nat.le_refl _) (Nat.le_refl _) (by rw [jS_2 hm (by rw [hk]; decide) h8 h9 (by omega) (by omega) (by rw [hk, m2_9]; exact e)]; exact PP_tr hF hq2)
    · rw [e] at hr
      subst hr
      refine q_istore (ls' := [_, _, _, _, _, _, _, _]) dX12_passes_447 rfl rfl (Nat.le_of_ble_eq_true rfl) (by decide) ?_
      first | refine q_aload_n dX12_passes_449 rfl ?_ | refine q_aload_nN dX12_passes_449 rfl ?_
      refine q_getf dX12_passes_450 fk_X12_113_11 hM.K (hM.ix 13 (by decide) rfl rfl) ?_
      rw [ex_13]
      refine q_if_ne 479 dX12_passes_453 (by decide) (fun c453 => absurd c453 (not_not_intro rfl)) (fun c453 => ?_)
      refine q_iload dX12_passes_456 rfl ?_
      refine q_if_ne 475 dX12_passes_458 (by decide) (fun c458 => ?_) (fun c458 => absurd c458 (by decide))
      refine q_iconst (v := 1) dX12_passes_475 (by decide) ?_
      refine q_goto 480 dX12_passes_476 (by decide) ?_
      exact q_zreturn dX12_passes_480 rfl rfl (Nat.le_refl _) (Nat.le_refl _) (PP_ok hF hM (by rw [jS_1 hm hs1 h8 (by omega) (by rw [hk, m2_9]; exact fun z => absurd (e.symm.trans z) (by decide)), hk, e, mR_o (by decide)] <;> rfl) (by decide))
  · obtain ⟨rfl, rfl, hw⟩ := bad hs
    refine q_istore (ls' := [_, _, _, _, _, _, _, _]) dX12_passes_447 rfl rfl (Nat.le_of_ble_eq_true rfl) (by decide) ?_
    first | refine q_aload_n dX12_passes_449 rfl ?_ | refine q_aload_nN dX12_passes_449 rfl ?_
    refine q_getf dX12_passes_450 fk_X12_113_11 hM.K (hM.ix 13 (by decide) rfl rfl) ?_
    rw [ex_13]
    refine q_if_ne 479 dX12_passes_453 (by decide) (fun c453 => ?_) (fun c453 => absurd c453 (vL_n _ hv hs))
    refine q_iconst (v := 0) dX12_passes_479 (by decide) ?_
    exact q_zreturn dX12_passes_480 rfl rfl (Nat.le_refl _) (Nat.le_refl _) (PP_dn hF hM hs hw (by rw [jS_1 hm hs1 h8 (by omega) (by rw [hk, m2_9]; exact fun z => hs (by rw [z]; decide)), mR_n hs]))
set_option maxHeartbeats 600000 in
set_option maxRecDepth 100000 in
theorem mp_10 (l : Launch) (G : Gt) (M : Mt) (Z0 Z : Zt) (y : Nat) (σ e0 : St) (wh : Int32) (hM : MR Z y σ (ex e0 0 wh)) (hF : MF y Z0 Z) (n nf f g : Nat) (c v : Int64) (ih : ∀ (f : Nat) (c : Int64) (Z : Zt) (σ : St) (wh : Int32), f < nf → dpt σ f ≤ n → PFf σ nf → f15 σ → MR Z y σ (ex e0 0 wh) → Ct l G YX12_passes (n + 1, 0, 0) Z [.ref y, .int (nI f), .long c] (ΦI (PP y Z e0 (jS n f c σ)))) (hf : f < nf) (hd : dpt σ f ≤ n + 1) (hP : PFf σ nf) (h15 : f15 σ) (hk : σ.1 7 f = 10) (hg : g < f) (h8 : σ.1 8 f = nI g) (hdg : dpt σ g < dpt σ f) (h : Nat) (hh : h < f) (h9 : σ.1 9 f = nI h) (hdh : dpt σ h < dpt σ f)  : Jd l G YX12_passes (n + 2, 0, 0) M Z 0 0 (Qm G (n + 2, 0, 0) M (ΦI (PP y Z0 e0 (jS (n + 1) f c σ)))) 481 [some (.ref y), some (.int (nI f)), some (.long c), none, some (.int (nI g)), some (.long v), none, none] [] := by
  have hn20 := hP.1
  first | refine q_aload_n dX12_passes_481 rfl ?_ | refine q_aload_nN dX12_passes_481 rfl ?_
  refine q_iload dX12_passes_482 rfl ?_
  refine q_lload_n dX12_passes_484 rfl ?_
  refine q_callV 11 dX12_passes_485 mk_X12_131 rfl hM.K (ih g c Z σ wh (by omega) (by omega) hP h15 hM) rfl np_X12_passes (Nat.le_refl _) (Nat.le_refl _) (Nat.le_refl _) (Nat.le_of_ble_eq_true rfl) (kI (fun r1 Z1 hq => ?_))
  have hv := (jS_ok n g c σ h15).2
  have h15' := (jS_ok n g c σ h15).1
  have kp := kp4_jS n g c σ
  obtain ⟨f1, fl, wh1, m1, ok, bad⟩ := hq
  replace hF := hF.tr f1
  have hM := m1
  have hm : 7 ≤ σ.1 7 f ∧ σ.1 7 f ≤ 11 := by rw [hk]; decide
  have hs1 : (if σ.1 7 f = 11 then pI σ 12 f (σ.1 12 f + 1) else σ) = σ := if_neg (by rw [hk]; decide)
  by_cases hs : 0 ≤ (jS n g c σ).1
  · obtain ⟨rfl, hr⟩ := ok hs
    rcases vL_01 _ hv hs with e | e
    · rw [e] at hr
      subst hr
      refine q_istore (ls' := [_, _, _, _, _, _, _, _]) dX12_passes_488 rfl rfl (Nat.le_of_ble_eq_true rfl) (by decide) ?_
      first | refine q_aload_n dX12_passes_490 rfl ?_ | refine q_aload_nN dX12_passes_490 rfl ?_
      refine q_getf dX12_passes_491 fk_X12_113_11 hM.K (hM.ix 13 (by decide) rfl rfl) ?_
      rw [ex_13]
      refine q_if_eq 506 dX12_passes_494 (by decide) (fun c494 => ?_) (fun c494 => absurd c494 (not_not_intro rfl))
      refine q_iload dX12_passes_506 rfl ?_
      exact q_zreturn dX12_passes_508 rfl rfl (Nat.le_refl _) (Nat.le_refl _) (PP_ok hF hM (by rw [jS_1 hm hs1 h8 (by omega) (by rw [hk, m2_10]; exact fun z => z.1 hs), hk, e, mR_o (by decide)] <;> rfl) (by decide))
    · rw [e] at hr
      subst hr
      refine q_istore (ls' := [_, _, _, _, _, _, _, _]) dX12_passes_488 rfl rfl (Nat.le_of_ble_eq_true rfl) (by decide) ?_
      first | refine q_aload_n dX12_passes_490 rfl ?_ | refine q_aload_nN dX12_passes_490 rfl ?_
      refine q_getf dX12_passes_491 fk_X12_113_11 hM.K (hM.ix 13 (by decide) rfl rfl) ?_
      rw [ex_13]
      refine q_if_eq 506 dX12_passes_494 (by decide) (fun c494 => ?_) (fun c494 => absurd c494 (not_not_intro rfl))
      refine q_iload dX12_passes_506 rfl ?_
      exact q_zreturn dX12_passes_508 rfl rfl (Nat.le_refl _) (Nat.le_refl _) (PP_ok hF hM (by rw [jS_1 hm hs1 h8 (by omega) (by rw [hk, m2_10]; exact fun z => z.1 hs), hk, e, mR_o (by decide)] <;> rfl) (by decide))
  · obtain ⟨rfl, rfl, hw⟩ := bad hs
    by_cases h18 : (jS n g c σ).1 = -18
    · refine q_istore (ls' := [_, _, _, _, _, _, _, _]) dX12_passes_488 rfl rfl (Nat.le_of_ble_eq_true rfl) (by decide) ?_
      first | refine q_aload_n dX12_passes_490 rfl ?_ | refine q_aload_nN dX12_passes_490 rfl ?_
      refine q_getf dX12_passes_491 fk_X12_113_11 hM.K (hM.ix 13 (by decide) rfl rfl) ?_
      rw [ex_13]
      refine q_if_eq 506 dX12_passes_494 (by decide) (fun c494 => absurd c494 (vL_n _ hv hs)) (fun c494 => ?_)
      first | refine q_aload_n dX12_passes_497 rfl ?_ | refine q_aload_nN dX12_passes_497 rfl ?_
      refine q_getf dX12_passes_498 fk_X12_113_11 hM.K (hM.ix 13 (by decide) rfl rfl) ?_
      rw [ex_13]
      refine q_bipush (v := 8) dX12_passes_501 (by decide) ?_
      refine q_icmp_ne 509 dX12_passes_503 (by decide) (fun c503 => absurd c503 (not_not_intro ((vL_8 _ hv).mpr h18))) (fun c503 => ?_)
      refine q_iload dX12_passes_506 rfl ?_
      exact q_zreturn dX12_passes_508 rfl rfl (Nat.le_refl _) (Nat.le_refl _) (PP_dn hF hM hs hw (by rw [jS_1 hm hs1 h8 (by omega) (by rw [hk, m2_10]; exact fun z => z.2 h18), mR_n hs]))
    · refine q_istore (ls' := [_, _, _, _, _, _, _, _]) dX12_passes_488 rfl rfl (Nat.le_of_ble_eq_true rfl) (by decide) ?_
      first | refine q_aload_n dX12_passes_490 rfl ?_ | refine q_aload_nN dX12_passes_490 rfl ?_
      refine q_getf dX12_passes_491 fk_X12_113_11 hM.K (hM.ix 13 (by decide) rfl rfl) ?_
      rw [ex_13]
      refine q_if_eq 506 dX12_passes_494 (by decide) (fun c494 => absurd c494 (vL_n _ hv hs)) (fun c494 => ?_)
      first | refine q_aload_n dX12_passes_497 rfl ?_ | refine q_aload_nN dX12_passes_497 rfl ?_
      refine q_getf dX12_passes_498 fk_X12_113_11 hM.K (hM.ix 13 (by decide) rfl rfl) ?_
      rw [ex_13]
      refine q_bipush (v := 8) dX12_passes_501 (by decide) ?_
      refine q_icmp_ne 509 dX12_passes_503 (by decide) (fun c503 => ?_) (fun c503 => absurd c503 (fun z => h18 ((vL_8 _ hv).mp z)))
      first | refine q_aload_n dX12_passes_509 rfl ?_ | refine q_aload_nN dX12_passes_509 rfl ?_
      refine q_iconst (v := 0) dX12_passes_510 (by decide) ?_
      refine m_putx 13 hM dX12_passes_511 fk_X12_113_11 rfl (by decide) rfl rfl rfl rfl (fun Z hM hF1 => ?_)
      replace hF := hF.tr hF1
      rw [ex_p13] at hM
      have dp2 : dpt (jS n g c σ).2 h = dpt σ h := by unfold dpt; rw [kp.1 11 (by decide) (by decide) (by decide) (by decide)]
      first | refine q_aload_n dX12_passes_514 rfl ?_ | refine q_aload_nN dX12_passes_514 rfl ?_
      first | refine q_aload_n dX12_passes_515 rfl ?_ | refine q_aload_nN dX12_passes_515 rfl ?_
      refine q_getf dX12_passes_516 fk_X12_32_11 hM.K (hM.a 9 (by decide) (by decide)) ?_
      refine q_iload_n dX12_passes_519 rfl ?_
      refine m_iald 9 (f) hM dX12_passes_520 (by decide) rfl rfl rfl (show f < 20 by omega) ?_
      rw [kp.1 9 (by decide) (by decide) (by decide) (by decide), h9]
      refine q_lload_n dX12_passes_521 rfl ?_
      refine q_callV 11 dX12_passes_522 mk_X12_131 rfl hM.K (ih h c _ _ wh1 (by omega) (by rw [dp2]; omega) (hP.kp4 kp) h15' hM) rfl np_X12_passes (Nat.le_refl _) (Nat.le_refl _) (Nat.le_refl _) (Nat.le_of_ble_eq_true rfl) (kI (fun r2 Z2 hq2 => ?_))
      exact q_zreturn dX12_passes_525 rfl (bo_z (PP_b hq2 (jS_ok n h c _ h15').2)) (Nat.le_refl _) (Nat.le_refl _) (by rw [jS_2 hm (by rw [hk]; decide) h8 h9 (by omega) (by omega) (by rw [hk, m2_10]; exact ⟨hs, h18⟩)]; exact PP_tr hF hq2)
set_option maxHeartbeats 600000 in
set_option maxRecDepth 100000 in
theorem mp_11 (l : Launch) (G : Gt) (M : Mt) (Z0 Z : Zt) (y : Nat) (σ e0 : St) (wh : Int32) (hM : MR Z y σ (ex e0 0 wh)) (hF : MF y Z0 Z) (n nf f g : Nat) (c v : Int64) (ih : ∀ (f : Nat) (c : Int64) (Z : Zt) (σ : St) (wh : Int32), f < nf → dpt σ f ≤ n → PFf σ nf → f15 σ → MR Z y σ (ex e0 0 wh) → Ct l G YX12_passes (n + 1, 0, 0) Z [.ref y, .int (nI f), .long c] (ΦI (PP y Z e0 (jS n f c σ)))) (hf : f < nf) (hd : dpt σ f ≤ n + 1) (hP : PFf σ nf) (h15 : f15 σ) (hk : σ.1 7 f = 11) (hg : g < f) (h8 : σ.1 8 f = nI g) (hdg : dpt σ g < dpt σ f)  : Jd l G YX12_passes (n + 2, 0, 0) M Z 0 0 (Qm G (n + 2, 0, 0) M (ΦI (PP y Z0 e0 (jS (n + 1) f c σ)))) 526 [some (.ref y), some (.int (nI f)), some (.long c), none, some (.int (nI g)), some (.long v), none, none] [] := by
  have hn20 := hP.1
  first | refine q_aload_n dX12_passes_526 rfl ?_ | refine q_aload_nN dX12_passes_526 rfl ?_
  refine q_getf dX12_passes_527 fk_X12_41_11 hM.K (hM.a 12 (by decide) (by decide)) ?_
  refine q_iload_n dX12_passes_530 rfl ?_
  refine q_dup2_11 dX12_passes_531 rfl rfl ?_
  refine m_iald 12 (f) hM dX12_passes_532 (by decide) rfl rfl rfl (show f < 20 by omega) ?_
  refine q_iconst (v := 1) dX12_passes_533 (by decide) ?_
  refine q_iadd dX12_passes_534 ?_
  refine m_iast 12 (f) hM dX12_passes_535 (by decide) rfl rfl rfl (show f < 20 by omega) (fun Z hM hF1 => ?_)
  replace hF := hF.tr hF1
  have kp0 : kp4 σ (pI σ 12 f (σ.1 12 f + 1)) := ⟨fun k h1 h2 h3 h4 => pI_ne h2, rfl⟩
  have h15' : f15 (pI σ 12 f (σ.1 12 f + 1)) := by
    obtain ⟨m, m1, m2⟩ := h15
    exact ⟨m, m1, by rw [pI_ne (by decide)]; exact m2⟩
  have dp2 : dpt (pI σ 12 f (σ.1 12 f + 1)) g = dpt σ g := by unfold dpt; rw [pI_ne (by decide)]
  first | refine q_aload_n dX12_passes_536 rfl ?_ | refine q_aload_nN dX12_passes_536 rfl ?_
  refine q_iload dX12_passes_537 rfl ?_
  refine q_lload_n dX12_passes_539 rfl ?_
  refine q_callV 11 dX12_passes_540 mk_X12_131 rfl hM.K (ih g c Z _ wh (by omega) (by rw [dp2]; omega) (hP.kp4 kp0) h15' hM) rfl np_X12_passes (Nat.le_refl _) (Nat.le_refl _) (Nat.le_refl _) (Nat.le_of_ble_eq_true rfl) (kI (fun r1 Z2 hq => ?_))
  exact q_zreturn dX12_passes_543 rfl (bo_z (PP_b hq (jS_ok n g c _ h15').2)) (Nat.le_refl _) (Nat.le_refl _) (by rw [jS_1 (by rw [hk]; decide) (if_pos hk) h8 (by omega) (by rw [hk]; exact m2_11 _), mR_o (by rw [hk]; decide)]; exact PP_tr hF hq)
theorem k12 {k : Int32} (h : 0 ≤ k ∧ k ≤ 12) (c : ∀ q ∈ ([(0, 84), (1, 97), (2, 153), (3, 198), (4, 297), (5, 342), (6, 353), (7, 372), (8, 399), (9, 440), (10, 481), (11, 526)] : List (Int32 × Nat)), ¬ k = q.1) : k = 12 := by
  have a0 := Int32.le_iff_toInt_le.mp h.1
  have a1 := Int32.le_iff_toInt_le.mp h.2
  rw [show (0 : Int32).toInt = 0 by decide] at a0
  rw [show (12 : Int32).toInt = 12 by decide] at a1
  have ne : ∀ (z : Int32) (p : Nat), (z, p) ∈ ([(0, 84), (1, 97), (2, 153), (3, 198), (4, 297), (5, 342), (6, 353), (7, 372), (8, 399), (9, 440), (10, 481), (11, 526)] : List (Int32 × Nat)) → k.toInt ≠ z.toInt := fun z p hz e => c _ hz (Int32.toInt_inj.mp e)
  have e0 := ne 0 84 (by decide)
  have e1 := ne 1 97 (by decide)
  have e2 := ne 2 153 (by decide)
  have e3 := ne 3 198 (by decide)
  have e4 := ne 4 297 (by decide)
  have e5 := ne 5 342 (by decide)
  have e6 := ne 6 353 (by decide)
  have e7 := ne 7 372 (by decide)
  have e8 := ne 8 399 (by decide)
  have e9 := ne 9 440 (by decide)
  have e10 := ne 10 481 (by decide)
  have e11 := ne 11 526 (by decide)
  refine Int32.toInt_inj.mp ?_
  simp only [show (0 : Int32).toInt = 0 by decide, show (1 : Int32).toInt = 1 by decide, show (2 : Int32).toInt = 2 by decide, show (3 : Int32).toInt = 3 by decide, show (4 : Int32).toInt = 4 by decide, show (5 : Int32).toInt = 5 by decide, show (6 : Int32).toInt = 6 by decide, show (7 : Int32).toInt = 7 by decide, show (8 : Int32).toInt = 8 by decide, show (9 : Int32).toInt = 9 by decide, show (10 : Int32).toInt = 10 by decide, show (11 : Int32).toInt = 11 by decide, show (12 : Int32).toInt = 12 by decide] at *
  omega
set_option maxHeartbeats 600000 in
set_option maxRecDepth 100000 in
theorem mpass (l : Launch) (G : Gt) (y nf : Nat) (e0 : St) : ∀ (n f : Nat) (c : Int64) (Z : Zt) (σ : St) (wh : Int32), f < nf → dpt σ f ≤ n → PFf σ nf → f15 σ → MR Z y σ (ex e0 0 wh) → Ct l G YX12_passes (n + 1, 0, 0) Z [.ref y, .int (nI f), .long c] (ΦI (PP y Z e0 (jS n f c σ))) := by
  intro n
  induction n with
  | zero =>
    intro f c Z σ wh hf hd hP h15 hM
    have := (hP.2.2.2 f hf).2.1.1
    omega
  | succ n ih =>
    intro f c Z σ wh hf hd hP h15 hM
    have ih : ∀ (f : Nat) (c : Int64) (Z : Zt) (σ : St) (wh : Int32), f < nf → dpt σ f ≤ n → PFf σ nf → f15 σ → MR Z y σ (ex e0 0 wh) → Ct l G YX12_passes (n + 1, 0, 0) Z [.ref y, .int (nI f), .long c] (ΦI (PP y Z e0 (jS n f c σ))) := fun f c Z σ wh => ih f c Z σ wh
    refine ct_of [some (.ref y), some (.int (nI f)), some (.long c), none, none, none, none, none] (by decide +kernel) (Nat.le_of_ble_eq_true rfl) rfl (fun M => ?_)
    have hF := MF.rf y Z
    have pf := hP.2.2.2 f hf
    have hn20 := hP.1
    first | refine q_aload_n dX12_passes_0 rfl ?_ | refine q_aload_nN dX12_passes_0 rfl ?_
    refine q_getf dX12_passes_1 fk_X12_29_11 hM.K (hM.a 8 (by decide) (by decide)) ?_
    refine q_iload_n dX12_passes_4 rfl ?_
    refine m_iald 8 (f) hM dX12_passes_5 (by decide) rfl rfl rfl (show f < 20 by omega) ?_
    refine q_istore (ls' := [_, _, _, _, _, _, _, _]) dX12_passes_6 rfl rfl (Nat.le_of_ble_eq_true rfl) (by decide) ?_
    first | refine q_aload_n dX12_passes_8 rfl ?_ | refine q_aload_nN dX12_passes_8 rfl ?_
    refine q_getf dX12_passes_9 fk_X12_35_11 hM.K (hM.a 10 (by decide) (by decide)) ?_
    refine q_iload_n dX12_passes_12 rfl ?_
    refine m_lald 10 (f) hM dX12_passes_13 (by decide) rfl rfl rfl (show f < 20 by omega) ?_
    refine q_lstore (ls' := [_, _, _, _, _, _, _, _]) dX12_passes_14 rfl rfl (Nat.le_of_ble_eq_true rfl) (by decide) ?_
    first | refine q_aload_n dX12_passes_16 rfl ?_ | refine q_aload_nN dX12_passes_16 rfl ?_
    refine q_getf dX12_passes_17 fk_X12_26_11 hM.K (hM.a 7 (by decide) (by decide)) ?_
    refine q_iload_n dX12_passes_20 rfl ?_
    refine m_iald 7 (f) hM dX12_passes_21 (by decide) rfl rfl rfl (show f < 20 by omega) ?_
    refine q_tsw [(0, 84), (1, 97), (2, 153), (3, 198), (4, 297), (5, 342), (6, 353), (7, 372), (8, 399), (9, 440), (10, 481), (11, 526)] 544 dX12_passes_22 (by decide) (by decide) (by decide) (by decide) (fun q hq c22 => ?_) (fun c22 => ?_)
    · rcases List.mem_cons.mp hq with rfl | hq
      · dsimp only at c22 ⊢
        obtain ⟨nn, hnn, h15n⟩ := h15
        rw [jS_n (by rw [c22]; decide) (by rw [c22]; decide) (by rw [c22]; decide), c22]
        exact mp_0 l G M Z Z y σ e0 wh hM hF n nn hnn h15n f _ c _
      rcases List.mem_cons.mp hq with rfl | hq
      · dsimp only at c22 ⊢
        obtain ⟨nn, hnn, h15n⟩ := h15
        rw [jS_n (by rw [c22]; decide) (by rw [c22]; decide) (by rw [c22]; decide), c22]
        exact mp_1 l G M Z Z y σ e0 wh hM hF n nn hnn h15n f _ c _
      rcases List.mem_cons.mp hq with rfl | hq
      · dsimp only at c22 ⊢
        obtain ⟨nn, hnn, h15n⟩ := h15
        rw [jS_n (by rw [c22]; decide) (by rw [c22]; decide) (by rw [c22]; decide), c22]
        exact mp_2 l G M Z Z y σ e0 wh hM hF n nn hnn h15n f _ c _
      rcases List.mem_cons.mp hq with rfl | hq
      · dsimp only at c22 ⊢
        obtain ⟨nn, hnn, h15n⟩ := h15
        obtain ⟨s, hs, h8⟩ := pf.2.2.1 (Or.inl c22)
        obtain ⟨cn, hcn, h2⟩ := hP.2.1 s hs
        rw [jS_s (Or.inl c22) h8 hs, h8, if_pos c22]
        exact mp_3 l G M Z Z y σ e0 wh hM hF n nn hnn h15n f (nI s) c _ s hs cn hcn h2 (hP.2.2.1 s hs)
      rcases List.mem_cons.mp hq with rfl | hq
      · dsimp only at c22 ⊢
        obtain ⟨nn, hnn, h15n⟩ := h15
        rw [jS_n (by rw [c22]; decide) (by rw [c22]; decide) (by rw [c22]; decide), c22]
        exact mp_4 l G M Z Z y σ e0 wh hM hF n nn hnn h15n f _ c _
      rcases List.mem_cons.mp hq with rfl | hq
      · dsimp only at c22 ⊢
        obtain ⟨nn, hnn, h15n⟩ := h15
        obtain ⟨b, hb, h8⟩ := pf.2.2.2.1 c22
        rw [jS_x c22 h8 hb, h8]
        exact mp_5 l G M Z Z y σ e0 wh hM hF n nn hnn h15n f c _ b hb
      rcases List.mem_cons.mp hq with rfl | hq
      · dsimp only at c22 ⊢
        obtain ⟨nn, hnn, h15n⟩ := h15
        rw [jS_n (by rw [c22]; decide) (by rw [c22]; decide) (by rw [c22]; decide), c22]
        exact mp_6 l G M Z Z y σ e0 wh hM hF n nn hnn h15n f _ c _
      rcases List.mem_cons.mp hq with rfl | hq
      · dsimp only at c22 ⊢
        obtain ⟨⟨g, hg, h8, hdg⟩, m2⟩ := pf.2.2.2.2 (by rw [c22]; decide)
        rw [h8]
        exact mp_7 l G M Z Z y σ e0 wh hM hF n nf f g c _ ih hf hd hP h15 c22 hg h8 hdg
      rcases List.mem_cons.mp hq with rfl | hq
      · dsimp only at c22 ⊢
        obtain ⟨⟨g, hg, h8, hdg⟩, m2⟩ := pf.2.2.2.2 (by rw [c22]; decide)
        obtain ⟨h, hh, h9, hdh⟩ := m2 (by rw [c22]; decide)
        rw [h8]
        exact mp_8 l G M Z Z y σ e0 wh hM hF n nf f g c _ ih hf hd hP h15 c22 hg h8 hdg h hh h9 hdh
      rcases List.mem_cons.mp hq with rfl | hq
      · dsimp only at c22 ⊢
        obtain ⟨⟨g, hg, h8, hdg⟩, m2⟩ := pf.2.2.2.2 (by rw [c22]; decide)
        obtain ⟨h, hh, h9, hdh⟩ := m2 (by rw [c22]; decide)
        rw [h8]
        exact mp_9 l G M Z Z y σ e0 wh hM hF n nf f g c _ ih hf hd hP h15 c22 hg h8 hdg h hh h9 hdh
      rcases List.mem_cons.mp hq with rfl | hq
      · dsimp only at c22 ⊢
        obtain ⟨⟨g, hg, h8, hdg⟩, m2⟩ := pf.2.2.2.2 (by rw [c22]; decide)
        obtain ⟨h, hh, h9, hdh⟩ := m2 (by rw [c22]; decide)
        rw [h8]
        exact mp_10 l G M Z Z y σ e0 wh hM hF n nf f g c _ ih hf hd hP h15 c22 hg h8 hdg h hh h9 hdh
      rcases List.mem_cons.mp hq with rfl | hq
      · dsimp only at c22 ⊢
        obtain ⟨⟨g, hg, h8, hdg⟩, m2⟩ := pf.2.2.2.2 (by rw [c22]; decide)
        rw [h8]
        exact mp_11 l G M Z Z y σ e0 wh hM hF n nf f g c _ ih hf hd hP h15 c22 hg h8 hdg
      exact absurd hq List.not_mem_nil
    · have c12 : σ.1 7 f = 12 := k12 pf.1 c22
      obtain ⟨nn, hnn, h15n⟩ := h15
      obtain ⟨s, hs, h8⟩ := pf.2.2.1 (Or.inr c12)
      obtain ⟨cn, hcn, h2⟩ := hP.2.1 s hs
      rw [jS_s (Or.inr c12) h8 hs, h8, if_neg (by rw [c12]; decide)]
      exact mp_12 l G M Z Z y σ e0 wh hM hF n nn hnn h15n f (nI s) c _ s hs cn hcn h2 (hP.2.2.1 s hs)
theorem ask_v {v fl r : Int32} (hv : v ∈ vL) (a : 0 ≤ v → fl = 0 ∧ r = v) (b : ¬ 0 ≤ v → fl = -10 - v) : (fl = 0 → r = v) ∧ (¬ fl = 0 → -10 - fl = v) := by
  refine ⟨fun h => ?_, fun h => ?_⟩
  · by_cases c : 0 ≤ v
    · exact (a c).2
    · exact absurd ((b c).symm.trans h) (vL_n v hv c)
  · have c : ¬ 0 ≤ v := fun z => h (a z).1
    rw [b c, sub10]
theorem ex_13p (e : St) (v : Int32) : pI e 13 0 v = ex e v (e.1 14 0) := by
  have h := ex_p13 e (e.1 13 0) (e.1 14 0) v
  rw [ex_self] at h
  exact h
set_option maxHeartbeats 600000 in
set_option maxRecDepth 100000 in
theorem mc_ask (l : Launch) (G : Gt) (Z0 : Zt) (y : Nat) (σ e : St) (hM : MR Z0 y σ e) (nf : Nat) (h6 : σ.1 6 0 = nI nf) (hP : PFf σ nf) (f : Int32) (c : Int64) : Ct l G YX12_ask (8, 0, 0) Z0 [.ref y, .int f, .long c] (ΦI (fun r Z1 => r = (askR σ f c).1 ∧ MF y Z0 Z1 ∧ ∃ e1, MR Z1 y (askR σ f c).2 e1)) := by
  refine ct_of [some (.ref y), some (.int f), some (.long c), none, none] (by decide +kernel) (Nat.le_of_ble_eq_true rfl) rfl (fun M => ?_)
  have hF := MF.rf y Z0
  have hn20 := hP.1
  first | refine q_aload_n dX12_ask_0 rfl ?_ | refine q_aload_nN dX12_ask_0 rfl ?_
  refine q_iconst (v := 0) dX12_ask_1 (by decide) ?_
  refine m_putx 0 hM dX12_ask_2 fk_X12_99_11 rfl (by decide) rfl rfl rfl rfl (fun Z hM hF1 => ?_)
  replace hF := hF.tr hF1
  first | refine q_aload_n dX12_ask_5 rfl ?_ | refine q_aload_nN dX12_ask_5 rfl ?_
  refine q_iload_n dX12_ask_6 rfl ?_
  refine q_callV 11 dX12_ask_7 mk_X12_106 rfl hM.K (mc_isFilter l G Z y _ _ hM f) rfl np_X12_isFilter (by decide) (by decide) (by decide) (Nat.le_of_ble_eq_true rfl) (kI (fun r10 Z2 h10 => ?_))
  obtain ⟨e2, h10⟩ := h10
  rw [e2]
  refine q_if_ne 15 dX12_ask_10 (by decide) (fun c10 => ?_) (fun c10 => ?_)
  · obtain ⟨q1, q2⟩ := rb_t h10 c10
    rw [h6] at q2
    obtain ⟨p, hp, rfl⟩ := ix_of (by omega) q1 q2
    first | refine q_aload_n dX12_ask_15 rfl ?_ | refine q_aload_nN dX12_ask_15 rfl ?_
    refine q_iconst (v := 0) dX12_ask_16 (by decide) ?_
    refine m_puti 15 hM dX12_ask_17 fk_X12_110_11 rfl (by decide) rfl rfl rfl rfl (fun Z hM hF1 => ?_)
    replace hF := hF.tr hF1
    first | refine q_aload_n dX12_ask_20 rfl ?_ | refine q_aload_nN dX12_ask_20 rfl ?_
    refine q_iconst (v := 0) dX12_ask_21 (by decide) ?_
    refine m_putx 13 hM dX12_ask_22 fk_X12_113_11 rfl (by decide) rfl rfl rfl rfl (fun Z hM hF1 => ?_)
    replace hF := hF.tr hF1
    rw [ex_13p] at hM
    have h15 : f15 (pI σ 15 0 0) := ⟨0, by omega, pI_at _ _ _ _⟩
    have hdp : dpt (pI σ 15 0 0) p = dpt σ p := by unfold dpt; rw [pI_ne (by decide)]
    have hP2 : PFf (pI σ 15 0 0) nf := hP.kp4 ⟨fun k h1 h2 h3 h4 => pI_ne h4, rfl⟩
    first | refine q_aload_n dX12_ask_25 rfl ?_ | refine q_aload_nN dX12_ask_25 rfl ?_
    refine q_iload_n dX12_ask_26 rfl ?_
    refine q_lload_n dX12_ask_27 rfl ?_
    refine q_callV 11 dX12_ask_28 mk_X12_131 rfl hM.K (mpass l G y nf (pI e 0 0 0) 6 p c _ (pI σ 15 0 0) _ hp (by rw [hdp]; exact (hP.2.2.2 p hp).2.1.2) hP2 h15 hM) rfl np_X12_passes (by decide) (by decide) (by decide) (Nat.le_of_ble_eq_true rfl) (kI (fun r3 Z3 hq => ?_))
    have hv := (jS_ok 6 p c _ h15).2
    have hb := PP_b hq hv
    obtain ⟨f1, fl, wh1, m1, ok, bad⟩ := hq
    replace hF := hF.tr f1
    have hM := m1
    have hA := ask_v hv ok (fun z => (bad z).1)
    refine q_istore (ls' := [_, _, _, _, _]) dX12_ask_31 rfl rfl (Nat.le_of_ble_eq_true rfl) (by decide) ?_
    first | refine q_aload_n dX12_ask_33 rfl ?_ | refine q_aload_nN dX12_ask_33 rfl ?_
    refine q_getf dX12_ask_34 fk_X12_113_11 hM.K (hM.ix 13 (by decide) rfl rfl) ?_
    rw [ex_13]
    refine q_if_eq 50 dX12_ask_37 (by decide) (fun c37 => ?_) (fun c37 => ?_)
    · refine q_iload dX12_ask_50 rfl ?_
      refine q_if_eq 59 dX12_ask_52 (by decide) (fun c52 => ?_) (fun c52 => ?_)
      · refine q_iconst (v := 0) dX12_ask_59 (by decide) ?_
        exact q_ireturn dX12_ask_60 rfl (by decide) (by decide) (by unfold askR; rw [h6, if_neg (fun z => z.elim q1 (fun y => y q2)), nI_clamp (by omega)]; exact ⟨c52.symm.trans (hA.1 c37), hF, _, hM⟩)
      · refine q_iconst (v := 1) dX12_ask_55 (by decide) ?_
        refine q_goto 60 dX12_ask_56 (by decide) ?_
        exact q_ireturn dX12_ask_60 rfl (by decide) (by decide) (by unfold askR; rw [h6, if_neg (fun z => z.elim q1 (fun y => y q2)), nI_clamp (by omega)]; exact ⟨(hb.resolve_left c52).symm.trans (hA.1 c37), hF, _, hM⟩)
    · refine q_bipush (v := (-10)) dX12_ask_40 (by decide) ?_
      first | refine q_aload_n dX12_ask_42 rfl ?_ | refine q_aload_nN dX12_ask_42 rfl ?_
      refine q_getf dX12_ask_43 fk_X12_113_11 hM.K (hM.ix 13 (by decide) rfl rfl) ?_
      rw [ex_13]
      refine q_isub dX12_ask_46 ?_
      refine q_goto 60 dX12_ask_47 (by decide) ?_
      exact q_ireturn dX12_ask_60 rfl (by decide) (by decide) (by unfold askR; rw [h6, if_neg (fun z => z.elim q1 (fun y => y q2)), nI_clamp (by omega)]; exact ⟨hA.2 c37, hF, _, hM⟩)
  · refine q_iconst (v := (-1)) dX12_ask_13 (by decide) ?_
    exact q_ireturn dX12_ask_14 rfl (by decide) (by decide) (by unfold askR; rw [if_pos (Classical.byContradiction fun z => rb_f h10 c10 ⟨fun w => z (Or.inl w), Classical.byContradiction fun w => z (Or.inr w)⟩)]; exact ⟨rfl, hF, _, hM⟩)
