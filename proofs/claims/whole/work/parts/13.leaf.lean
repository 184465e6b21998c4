theorem in12 {c : Int32} (h1 : ¬ c < 0) (h2 : c < 12) : vp_in c 12 := vp_in_iff.mpr ⟨by have := Int32.not_lt.mp h1; simpa using Int32.le_iff_toInt_le.mp this, by have := Int32.lt_iff_toInt_lt.mp h2; simpa using this⟩
section QMath
variable {l : Launch} {G : Gt} {Y : Yt} {B : Bt} {M : Mt} {Z : Zt} {cells slots : Nat} {Q : State → Prop} {pc : Nat} {ls : List (Option Value)} {st : List Value}
theorem q_mmax {i : Nat} {x y : Int32} (hd : decode Y.2.1 pc = .ok (.invokestatic i, 3)) (hw : sOK Y.1.cls i YJ9_max_7cf53) (hB : 1 ≤ B.1) (hW : (st.map fun v => v.category).sum ≤ 8) (hc : cells ≤ B.2.1) (hs : slots ≤ B.2.2) (kk : Jd l G Y B M Z cells slots Q (pc + 3) ls (.int (if x < y then y else x) :: st)) : Jd l G Y B M Z cells slots Q pc ls (.int y :: .int x :: st) := fun C H locs A hR hS hA => va_mmax C.1 C.2.1 (C.2.2.1.trans hA.1.symm) C.2.2.2.2.1 (C.2.2.2.2.2.1 _ hw.1.2.2.1) (C.2.2.2.2.2.1 _ hw.2) (C.2.2.2.2.2.1 _ hw.1.2.1) (C.2.2.2.2.2.1 _ hw.1.1) (by rw [C.2.2.2.2.2.2.2.2.2.1]; exact hB) (by rw [C.2.2.2.2.2.2.2.2.2.1]; show _ + 13 ≤ 64 * B.1; omega) (by rw [C.2.2.2.2.2.2.2.2.2.1]; exact hc) (by rw [C.2.2.2.2.2.2.2.2.2.1]; exact hs) hd (kk C H locs A hR hS hA)
theorem q_mmin {i : Nat} {x y : Int32} (hd : decode Y.2.1 pc = .ok (.invokestatic i, 3)) (hw : sOK Y.1.cls i YJ9_min_7cf53) (hB : 1 ≤ B.1) (hW : (st.map fun v => v.category).sum ≤ 8) (hc : cells ≤ B.2.1) (hs : slots ≤ B.2.2) (kk : Jd l G Y B M Z cells slots Q (pc + 3) ls (.int (if y < x then y else x) :: st)) : Jd l G Y B M Z cells slots Q pc ls (.int y :: .int x :: st) := fun C H locs A hR hS hA => va_mmin C.1 C.2.1 (C.2.2.1.trans hA.1.symm) C.2.2.2.2.1 (C.2.2.2.2.2.1 _ hw.1.2.2.1) (C.2.2.2.2.2.1 _ hw.2) (C.2.2.2.2.2.1 _ hw.1.2.1) (C.2.2.2.2.2.1 _ hw.1.1) (by rw [C.2.2.2.2.2.2.2.2.2.1]; exact hB) (by rw [C.2.2.2.2.2.2.2.2.2.1]; show _ + 13 ≤ 64 * B.1; omega) (by rw [C.2.2.2.2.2.2.2.2.2.1]; exact hc) (by rw [C.2.2.2.2.2.2.2.2.2.1]; exact hs) hd (kk C H locs A hR hS hA)
theorem q_mabs {i : Nat} {x : Int64} (hd : decode Y.2.1 pc = .ok (.invokestatic i, 3)) (hw : sOK Y.1.cls i YJ9_abs_067f4) (hB : 1 ≤ B.1) (hW : (st.map fun v => v.category).sum ≤ 8) (hc : cells ≤ B.2.1) (hs : slots ≤ B.2.2) (kk : Jd l G Y B M Z cells slots Q (pc + 3) ls (.long (if 0 < x then x else -x) :: st)) : Jd l G Y B M Z cells slots Q pc ls (.long x :: st) := fun C H locs A hR hS hA => va_mabs_long C.1 C.2.1 (C.2.2.1.trans hA.1.symm) C.2.2.2.2.1 (C.2.2.2.2.2.1 _ hw.1.2.2.1) (C.2.2.2.2.2.1 _ hw.2) (C.2.2.2.2.2.1 _ hw.1.2.1) (C.2.2.2.2.2.1 _ hw.1.1) (by rw [C.2.2.2.2.2.2.2.2.2.1]; exact hB) (by rw [C.2.2.2.2.2.2.2.2.2.1]; show _ + 13 ≤ 64 * B.1; omega) (by rw [C.2.2.2.2.2.2.2.2.2.1]; exact hc) (by rw [C.2.2.2.2.2.2.2.2.2.1]; exact hs) hd (kk C H locs A hR hS hA)
end QMath
set_option maxHeartbeats 600000 in
set_option maxRecDepth 100000 in
theorem c_X0_takes (l : Launch) (G : Gt) (Z : Zt) (a : Nat) (nb th : Int32) (hK : zK Z a = 1) (hn : zF Z 1 a = .int nb) : Ct l G YX0_takes (0, 0, 0) Z [.ref a, .int th] (ΦI (fun r Z1 => Z1 = Z ∧ rb r (if nb = 0 then th = 1 ∨ th = 2 else if nb = 1 then th = 2 else True))) := by
  refine ct_of [some (.ref a), some (.int th)] (by decide +kernel) (Nat.le_of_ble_eq_true rfl) rfl (fun M => ?_)
  first | refine q_aload_n dX0_takes_0 rfl ?_ | refine q_aload_nN dX0_takes_0 rfl ?_
  refine q_getf dX0_takes_1 fk_X0_15_0 (by first | assumption | (simp only [zK_sF, zK_sI, zK_sJ, zK_sR]; assumption)) (by first | assumption | (simp only [zF_sF, zF_sI, zF_sJ, zF_sR, true_and, and_true, false_and, and_false, if_true, if_false, eq_self, reduceIte, Nat.reduceEqDiff, OfNat.ofNat_ne_zero, OfNat.zero_ne_ofNat, OfNat.ofNat_ne_one, OfNat.one_ne_ofNat, reduceCtorEq]; first | rfl | assumption)) ?_
  refine q_lsw [(0, 32), (1, 48)] 59 dX0_takes_4 (by decide) (by decide) (by decide) (fun q hq c4 => ?_) (fun c4 => ?_)
  · rcases List.mem_cons.mp hq with rfl | hq
    · dsimp only at c4 ⊢
      refine q_iload_n dX0_takes_32 rfl ?_
      refine q_iconst (v := 1) dX0_takes_33 (by decide) ?_
      refine q_icmp_eq 42 dX0_takes_34 (by decide) (fun c34 => ?_) (fun c34 => ?_)
      · refine q_iconst (v := 1) dX0_takes_42 (by decide) ?_
        refine q_goto 47 dX0_takes_43 (by decide) ?_
        exact q_zreturn dX0_takes_47 rfl rfl (by decide) (by decide) (by first | exact ⟨rfl, rb_1 (by simp_all)⟩ | exact ⟨rfl, rb_0 (by simp_all)⟩)
      · refine q_iload_n dX0_takes_37 rfl ?_
        refine q_iconst (v := 2) dX0_takes_38 (by decide) ?_
        refine q_icmp_ne 46 dX0_takes_39 (by decide) (fun c39 => ?_) (fun c39 => ?_)
        · refine q_iconst (v := 0) dX0_takes_46 (by decide) ?_
          exact q_zreturn dX0_takes_47 rfl rfl (by decide) (by decide) (by first | exact ⟨rfl, rb_1 (by simp_all)⟩ | exact ⟨rfl, rb_0 (by simp_all)⟩)
        · refine q_iconst (v := 1) dX0_takes_42 (by decide) ?_
          refine q_goto 47 dX0_takes_43 (by decide) ?_
          exact q_zreturn dX0_takes_47 rfl rfl (by decide) (by decide) (by first | exact ⟨rfl, rb_1 (by simp_all)⟩ | exact ⟨rfl, rb_0 (by simp_all)⟩)
    rcases List.mem_cons.mp hq with rfl | hq
    · dsimp only at c4 ⊢
      refine q_iload_n dX0_takes_48 rfl ?_
      refine q_iconst (v := 2) dX0_takes_49 (by decide) ?_
      refine q_icmp_ne 57 dX0_takes_50 (by decide) (fun c50 => ?_) (fun c50 => ?_)
      · refine q_iconst (v := 0) dX0_takes_57 (by decide) ?_
        exact q_zreturn dX0_takes_58 rfl rfl (by decide) (by decide) (by first | exact ⟨rfl, rb_1 (by simp_all)⟩ | exact ⟨rfl, rb_0 (by simp_all)⟩)
      · refine q_iconst (v := 1) dX0_takes_53 (by decide) ?_
        refine q_goto 58 dX0_takes_54 (by decide) ?_
        exact q_zreturn dX0_takes_58 rfl rfl (by decide) (by decide) (by first | exact ⟨rfl, rb_1 (by simp_all)⟩ | exact ⟨rfl, rb_0 (by simp_all)⟩)
    exact absurd hq List.not_mem_nil
  · refine q_iconst (v := 1) dX0_takes_59 (by decide) ?_
    exact q_zreturn dX0_takes_60 rfl rfl (by decide) (by decide) (by first | exact ⟨rfl, rb_1 (by simp_all)⟩ | exact ⟨rfl, rb_0 (by simp_all)⟩)
set_option maxHeartbeats 600000 in
set_option maxRecDepth 100000 in
theorem c_X0_put (l : Launch) (G : Gt) (Z : Zt) (a tg : Nat) (nb it th : Int32) (hK : zK Z a = 1) (hn : zF Z 1 a = .int nb) (ht : zF Z 0 a = .ref tg) (hKt : zK Z tg = 20) (hLt : zL Z tg = 3) (hi : vp_in it 3) (hi0 : ¬ it < 0) (hi3 : ¬ 3 ≤ it) : Ct l G YX0_put (1, 0, 0) Z [.ref a, .int it, .int th] (ΦI (fun r Z1 => ((if nb = 0 then th = 1 ∨ th = 2 else if nb = 1 then th = 2 else True) → r = 1 ∧ Z1 = sI Z tg it.toNatClampNeg th) ∧ (¬ (if nb = 0 then th = 1 ∨ th = 2 else if nb = 1 then th = 2 else True) → r = 0 ∧ Z1 = Z))) := by
  refine ct_of [some (.ref a), some (.int it), some (.int th)] (by decide +kernel) (Nat.le_of_ble_eq_true rfl) rfl (fun M => ?_)
  refine q_iload_n dX0_put_0 rfl ?_
  refine q_if_lt 17 dX0_put_1 (by decide) (fun c1 => absurd c1 hi0) (fun c1 => ?_)
  refine q_iload_n dX0_put_4 rfl ?_
  refine q_iconst (v := 3) dX0_put_5 (by decide) ?_
  refine q_icmp_ge 17 dX0_put_6 (by decide) (fun c6 => absurd c6 hi3) (fun c6 => ?_)
  first | refine q_aload_n dX0_put_9 rfl ?_ | refine q_aload_nN dX0_put_9 rfl ?_
  refine q_iload_n dX0_put_10 rfl ?_
  refine q_callV 0 dX0_put_11 mk_X0_19 rfl (by first | assumption | (simp only [zK_sF, zK_sI, zK_sJ, zK_sR]; assumption)) (c_X0_takes l G _ a nb th hK hn) rfl np_X0_takes (by decide) (by decide) (by decide) (Nat.le_of_ble_eq_true rfl) (kI (fun r Z1 h => ?_))
  obtain ⟨rfl, h⟩ := h
  refine q_if_ne 19 dX0_put_14 (by decide) (fun c14 => ?_) (fun c14 => ?_)
  · have h := rb_t h c14
    first | refine q_aload_n dX0_put_19 rfl ?_ | refine q_aload_nN dX0_put_19 rfl ?_
    refine q_getf dX0_put_20 fk_X0_9_0 (by first | assumption | (simp only [zK_sF, zK_sI, zK_sJ, zK_sR]; assumption)) (by first | assumption | (simp only [zF_sF, zF_sI, zF_sJ, zF_sR, true_and, and_true, false_and, and_false, if_true, if_false, eq_self, reduceIte, Nat.reduceEqDiff, OfNat.ofNat_ne_zero, OfNat.zero_ne_ofNat, OfNat.ofNat_ne_one, OfNat.one_ne_ofNat, reduceCtorEq]; first | rfl | assumption)) ?_
    refine q_iload_n dX0_put_23 rfl ?_
    refine q_iload_n dX0_put_24 rfl ?_
    refine q_iast dX0_put_25 (by first | assumption | (simp only [zK_sF, zK_sI, zK_sJ, zK_sR]; assumption)) (by rw [hLt]; exact hi) ?_
    refine q_iconst (v := 1) dX0_put_26 (by decide) ?_
    exact q_zreturn dX0_put_27 rfl rfl (by decide) (by decide) ⟨fun _ => ⟨rfl, rfl⟩, fun z => absurd h z⟩
  · have h := rb_f h c14
    refine q_iconst (v := 0) dX0_put_17 (by decide) ?_
    exact q_zreturn dX0_put_18 rfl rfl (by decide) (by decide) ⟨fun z => absurd z h, fun _ => ⟨rfl, rfl⟩⟩
set_option maxHeartbeats 600000 in
set_option maxRecDepth 100000 in
theorem c_X2_init_1 (l : Launch) (G : Gt) (Z : Zt) (a : Nat) (n d : Int32) (hK : zK Z a = 2) : Ct l G YX2_init (1, 0, 0) Z [.ref a, .int n, .int d] (ΦV (fun Z1 => Z1 = sF (sF Z 0 a (.int n)) 1 a (.int d))) := by
  refine ct_of [some (.ref a), some (.int n), some (.int d)] (by decide +kernel) (Nat.le_of_ble_eq_true rfl) rfl (fun M => ?_)
  first | refine q_aload_n dX2_init_0 rfl ?_ | refine q_aload_nN dX2_init_0 rfl ?_
  refine q_objInit dX2_init_1 ok_X2_1 oi_m oi_c (by decide) (Nat.le_of_ble_eq_true rfl) ?_
  first | refine q_aload_n dX2_init_4 rfl ?_ | refine q_aload_nN dX2_init_4 rfl ?_
  refine q_iload_n dX2_init_5 rfl ?_
  refine q_putF dX2_init_6 fk_X2_7_1 rfl rfl rfl (by first | assumption | (simp only [zK_sF, zK_sI, zK_sJ, zK_sR]; assumption)) rfl rfl ?_
  first | refine q_aload_n dX2_init_9 rfl ?_ | refine q_aload_nN dX2_init_9 rfl ?_
  refine q_iload_n dX2_init_10 rfl ?_
  refine q_putF dX2_init_11 fk_X2_13_1 rfl rfl rfl (by first | assumption | (simp only [zK_sF, zK_sI, zK_sJ, zK_sR]; assumption)) rfl rfl ?_
  exact q_return dX2_init_14 rfl (by decide) (by decide) rfl
set_option maxHeartbeats 600000 in
set_option maxRecDepth 100000 in
theorem c_X2_init_2 (l : Launch) (G : Gt) (Z : Zt) (a : Nat) (n d : Int32) (hK : zK Z a = 3) : Ct l G YX2_init (1, 0, 0) Z [.ref a, .int n, .int d] (ΦV (fun Z1 => Z1 = sF (sF Z 0 a (.int n)) 1 a (.int d))) := by
  refine ct_of [some (.ref a), some (.int n), some (.int d)] (by decide +kernel) (Nat.le_of_ble_eq_true rfl) rfl (fun M => ?_)
  first | refine q_aload_n dX2_init_0 rfl ?_ | refine q_aload_nN dX2_init_0 rfl ?_
  refine q_objInit dX2_init_1 ok_X2_1 oi_m oi_c (by decide) (Nat.le_of_ble_eq_true rfl) ?_
  first | refine q_aload_n dX2_init_4 rfl ?_ | refine q_aload_nN dX2_init_4 rfl ?_
  refine q_iload_n dX2_init_5 rfl ?_
  refine q_putF dX2_init_6 fk_X2_7_2 rfl rfl rfl (by first | assumption | (simp only [zK_sF, zK_sI, zK_sJ, zK_sR]; assumption)) rfl rfl ?_
  first | refine q_aload_n dX2_init_9 rfl ?_ | refine q_aload_nN dX2_init_9 rfl ?_
  refine q_iload_n dX2_init_10 rfl ?_
  refine q_putF dX2_init_11 fk_X2_13_2 rfl rfl rfl (by first | assumption | (simp only [zK_sF, zK_sI, zK_sJ, zK_sR]; assumption)) rfl rfl ?_
  exact q_return dX2_init_14 rfl (by decide) (by decide) rfl
set_option maxHeartbeats 600000 in
set_option maxRecDepth 100000 in
theorem c_X2_init_3 (l : Launch) (G : Gt) (Z : Zt) (a : Nat) (n d : Int32) (hK : zK Z a = 4) : Ct l G YX2_init (1, 0, 0) Z [.ref a, .int n, .int d] (ΦV (fun Z1 => Z1 = sF (sF Z 0 a (.int n)) 1 a (.int d))) := by
  refine ct_of [some (.ref a), some (.int n), some (.int d)] (by decide +kernel) (Nat.le_of_ble_eq_true rfl) rfl (fun M => ?_)
  first | refine q_aload_n dX2_init_0 rfl ?_ | refine q_aload_nN dX2_init_0 rfl ?_
  refine q_objInit dX2_init_1 ok_X2_1 oi_m oi_c (by decide) (Nat.le_of_ble_eq_true rfl) ?_
  first | refine q_aload_n dX2_init_4 rfl ?_ | refine q_aload_nN dX2_init_4 rfl ?_
  refine q_iload_n dX2_init_5 rfl ?_
  refine q_putF dX2_init_6 fk_X2_7_3 rfl rfl rfl (by first | assumption | (simp only [zK_sF, zK_sI, zK_sJ, zK_sR]; assumption)) rfl rfl ?_
  first | refine q_aload_n dX2_init_9 rfl ?_ | refine q_aload_nN dX2_init_9 rfl ?_
  refine q_iload_n dX2_init_10 rfl ?_
  refine q_putF dX2_init_11 fk_X2_13_3 rfl rfl rfl (by first | assumption | (simp only [zK_sF, zK_sI, zK_sJ, zK_sR]; assumption)) rfl rfl ?_
  exact q_return dX2_init_14 rfl (by decide) (by decide) rfl
set_option maxHeartbeats 600000 in
set_option maxRecDepth 100000 in
theorem c_X2_init_6 (l : Launch) (G : Gt) (Z : Zt) (a : Nat) (n d : Int32) (hK : zK Z a = 7) : Ct l G YX2_init (1, 0, 0) Z [.ref a, .int n, .int d] (ΦV (fun Z1 => Z1 = sF (sF Z 0 a (.int n)) 1 a (.int d))) := by
  refine ct_of [some (.ref a), some (.int n), some (.int d)] (by decide +kernel) (Nat.le_of_ble_eq_true rfl) rfl (fun M => ?_)
  first | refine q_aload_n dX2_init_0 rfl ?_ | refine q_aload_nN dX2_init_0 rfl ?_
  refine q_objInit dX2_init_1 ok_X2_1 oi_m oi_c (by decide) (Nat.le_of_ble_eq_true rfl) ?_
  first | refine q_aload_n dX2_init_4 rfl ?_ | refine q_aload_nN dX2_init_4 rfl ?_
  refine q_iload_n dX2_init_5 rfl ?_
  refine q_putF dX2_init_6 fk_X2_7_6 rfl rfl rfl (by first | assumption | (simp only [zK_sF, zK_sI, zK_sJ, zK_sR]; assumption)) rfl rfl ?_
  first | refine q_aload_n dX2_init_9 rfl ?_ | refine q_aload_nN dX2_init_9 rfl ?_
  refine q_iload_n dX2_init_10 rfl ?_
  refine q_putF dX2_init_11 fk_X2_13_6 rfl rfl rfl (by first | assumption | (simp only [zK_sF, zK_sI, zK_sJ, zK_sR]; assumption)) rfl rfl ?_
  exact q_return dX2_init_14 rfl (by decide) (by decide) rfl
set_option maxHeartbeats 600000 in
set_option maxRecDepth 100000 in
theorem c_X2_verdict (l : Launch) (G : Gt) (Z : Zt) (b : Int32) : Ct l G YX2_verdict (0, 0, 0) Z [.int b] (ΦI (fun r Z1 => Z1 = Z ∧ r = if b = 0 then 0 else 1)) := by
  refine ct_of [some (.int b)] (by decide +kernel) (Nat.le_of_ble_eq_true rfl) rfl (fun M => ?_)
  refine q_iload_n dX2_verdict_0 rfl ?_
  refine q_if_eq 8 dX2_verdict_1 (by decide) (fun c1 => ?_) (fun c1 => ?_)
  · refine q_iconst (v := 0) dX2_verdict_8 (by decide) ?_
    exact q_ireturn dX2_verdict_9 rfl (by decide) (by decide) (by simp_all)
  · refine q_iconst (v := 1) dX2_verdict_4 (by decide) ?_
    refine q_goto 9 dX2_verdict_5 (by decide) ?_
    exact q_ireturn dX2_verdict_9 rfl (by decide) (by decide) (by simp_all)
set_option maxHeartbeats 600000 in
set_option maxRecDepth 100000 in
theorem c_X2_timesAsked (l : Launch) (G : Gt) (Z : Zt) (a : Nat) : Ct l G YX2_timesAsked (0, 0, 0) Z [.ref a] (ΦI (fun r Z1 => Z1 = Z ∧ r = 0)) := by
  refine ct_of [some (.ref a)] (by decide +kernel) (Nat.le_of_ble_eq_true rfl) rfl (fun M => ?_)
  refine q_iconst (v := 0) dX2_timesAsked_0 (by decide) ?_
  exact q_ireturn dX2_timesAsked_1 rfl (by decide) (by decide) ⟨rfl, rfl⟩
set_option maxHeartbeats 600000 in
set_option maxRecDepth 100000 in
theorem c_X6_rowFailure (l : Launch) (G : Gt) (Z : Zt) (a : Nat) (kd : Int32) (hK : zK Z a = 6) (hk : zF Z 1 a = .int kd) : Ct l G YX6_rowFailure (0, 0, 0) Z [.ref a] (ΦI (fun r Z1 => Z1 = Z ∧ r = if kd = 0 then 1 else if kd = 3 then 5 else 0)) := by
  refine ct_of [some (.ref a)] (by decide +kernel) (Nat.le_of_ble_eq_true rfl) rfl (fun M => ?_)
  first | refine q_aload_n dX6_rowFailure_0 rfl ?_ | refine q_aload_nN dX6_rowFailure_0 rfl ?_
  refine q_getf dX6_rowFailure_1 fk_X6_15_5 (by first | assumption | (simp only [zK_sF, zK_sI, zK_sJ, zK_sR]; assumption)) (by first | assumption | (simp only [zF_sF, zF_sI, zF_sJ, zF_sR, true_and, and_true, false_and, and_false, if_true, if_false, eq_self, reduceIte, Nat.reduceEqDiff, OfNat.ofNat_ne_zero, OfNat.zero_ne_ofNat, OfNat.ofNat_ne_one, OfNat.one_ne_ofNat, reduceCtorEq]; first | rfl | assumption)) ?_
  refine q_if_ne 9 dX6_rowFailure_4 (by decide) (fun c4 => ?_) (fun c4 => ?_)
  · first | refine q_aload_n dX6_rowFailure_9 rfl ?_ | refine q_aload_nN dX6_rowFailure_9 rfl ?_
    refine q_getf dX6_rowFailure_10 fk_X6_15_5 (by first | assumption | (simp only [zK_sF, zK_sI, zK_sJ, zK_sR]; assumption)) (by first | assumption | (simp only [zF_sF, zF_sI, zF_sJ, zF_sR, true_and, and_true, false_and, and_false, if_true, if_false, eq_self, reduceIte, Nat.reduceEqDiff, OfNat.ofNat_ne_zero, OfNat.zero_ne_ofNat, OfNat.ofNat_ne_one, OfNat.one_ne_ofNat, reduceCtorEq]; first | rfl | assumption)) ?_
    refine q_iconst (v := 3) dX6_rowFailure_13 (by decide) ?_
    refine q_icmp_ne 21 dX6_rowFailure_14 (by decide) (fun c14 => ?_) (fun c14 => ?_)
    · refine q_iconst (v := 0) dX6_rowFailure_21 (by decide) ?_
      exact q_ireturn dX6_rowFailure_22 rfl (by decide) (by decide) (by simp_all)
    · refine q_iconst (v := 5) dX6_rowFailure_17 (by decide) ?_
      refine q_goto 22 dX6_rowFailure_18 (by decide) ?_
      exact q_ireturn dX6_rowFailure_22 rfl (by decide) (by decide) (by simp_all)
  · refine q_iconst (v := 1) dX6_rowFailure_7 (by decide) ?_
    exact q_ireturn dX6_rowFailure_8 rfl (by decide) (by decide) (by simp_all)
set_option maxHeartbeats 600000 in
set_option maxRecDepth 100000 in
theorem c_X6_hasItem (l : Launch) (G : Gt) (Z : Zt) (a : Nat) (cn : Int32) (i : Int64) (hK : zK Z a = 6) (hc : zF Z 2 a = .int cn) : Ct l G YX6_hasItem (0, 0, 0) Z [.ref a, .long i] (ΦI (fun r Z1 => Z1 = Z ∧ rb r (¬ i < 0 ∧ ¬ cn.toInt64 ≤ i ∧ ¬ 12 ≤ i))) := by
  refine ct_of [some (.ref a), some (.long i), none] (by decide +kernel) (Nat.le_of_ble_eq_true rfl) rfl (fun M => ?_)
  refine q_lload_n dX6_hasItem_0 rfl ?_
  refine q_lconst (v := 0) dX6_hasItem_1 (by decide) ?_
  refine q_lcmp_lt 28 dX6_hasItem_2 dX6_hasItem_3 (by decide) (fun c2 => ?_) (fun c2 => ?_)
  · refine q_iconst (v := 0) dX6_hasItem_28 (by decide) ?_
    exact q_zreturn dX6_hasItem_29 rfl rfl (by decide) (by decide) (by first | exact ⟨rfl, rb_1 (by simp_all)⟩ | exact ⟨rfl, rb_0 (by simp_all)⟩)
  · refine q_lload_n dX6_hasItem_6 rfl ?_
    first | refine q_aload_n dX6_hasItem_7 rfl ?_ | refine q_aload_nN dX6_hasItem_7 rfl ?_
    refine q_getf dX6_hasItem_8 fk_X6_19_5 (by first | assumption | (simp only [zK_sF, zK_sI, zK_sJ, zK_sR]; assumption)) (by first | assumption | (simp only [zF_sF, zF_sI, zF_sJ, zF_sR, true_and, and_true, false_and, and_false, if_true, if_false, eq_self, reduceIte, Nat.reduceEqDiff, OfNat.ofNat_ne_zero, OfNat.zero_ne_ofNat, OfNat.ofNat_ne_one, OfNat.one_ne_ofNat, reduceCtorEq]; first | rfl | assumption)) ?_
    refine q_i2l dX6_hasItem_11 ?_
    refine q_lcmp_ge 28 dX6_hasItem_12 dX6_hasItem_13 (by decide) (fun c12 => ?_) (fun c12 => ?_)
    · refine q_iconst (v := 0) dX6_hasItem_28 (by decide) ?_
      exact q_zreturn dX6_hasItem_29 rfl rfl (by decide) (by decide) (by first | exact ⟨rfl, rb_1 (by simp_all)⟩ | exact ⟨rfl, rb_0 (by simp_all)⟩)
    · refine q_lload_n dX6_hasItem_16 rfl ?_
      refine q_ldc2 dX6_hasItem_17 kl_X6_31 ?_
      refine q_lcmp_ge 28 dX6_hasItem_20 dX6_hasItem_21 (by decide) (fun c20 => ?_) (fun c20 => ?_)
      · refine q_iconst (v := 0) dX6_hasItem_28 (by decide) ?_
        exact q_zreturn dX6_hasItem_29 rfl rfl (by decide) (by decide) (by first | exact ⟨rfl, rb_1 (by simp_all)⟩ | exact ⟨rfl, rb_0 (by simp_all)⟩)
      · refine q_iconst (v := 1) dX6_hasItem_24 (by decide) ?_
        refine q_goto 29 dX6_hasItem_25 (by decide) ?_
        exact q_zreturn dX6_hasItem_29 rfl rfl (by decide) (by decide) (by first | exact ⟨rfl, rb_1 (by simp_all)⟩ | exact ⟨rfl, rb_0 (by simp_all)⟩)
set_option maxHeartbeats 600000 in
set_option maxRecDepth 100000 in
theorem c_X6_setItem (l : Launch) (G : Gt) (Z : Zt) (a it : Nat) (kd cn i : Int32) (v : Int64) (hK : zK Z a = 6) (hit : zF Z 0 a = .ref it) (hk : zF Z 1 a = .int kd) (hc : zF Z 2 a = .int cn) (hKi : zK Z it = 21) (hLi : zL Z it = 12) (hin : vp_in i 12) (hP : ¬ i.toInt64 < 0 ∧ ¬ cn.toInt64 ≤ i.toInt64 ∧ ¬ 12 ≤ i.toInt64) : Ct l G YX6_setItem (1, 0, 0) Z [.ref a, .int i, .long v] (ΦV (fun Z1 => Z1 = sJ Z it i.toNatClampNeg (if kd = 2 then v.toInt32.toInt64 else v))) := by
  refine ct_of [some (.ref a), some (.int i), some (.long v), none] (by decide +kernel) (Nat.le_of_ble_eq_true rfl) rfl (fun M => ?_)
  first | refine q_aload_n dX6_setItem_0 rfl ?_ | refine q_aload_nN dX6_setItem_0 rfl ?_
  refine q_iload_n dX6_setItem_1 rfl ?_
  refine q_i2l dX6_setItem_2 ?_
  refine q_callV 5 dX6_setItem_3 mk_X6_33 rfl (by first | assumption | (simp only [zK_sF, zK_sI, zK_sJ, zK_sR]; assumption)) (c_X6_hasItem l G _ a cn i.toInt64 hK hc) rfl np_X6_hasItem (by decide) (by decide) (by decide) (Nat.le_of_ble_eq_true rfl) (kI (fun r Z1 h => ?_))
  obtain ⟨rfl, h⟩ := h
  refine q_if_eq 30 dX6_setItem_6 (by decide) (fun c6 => ?_) (fun c6 => ?_)
  · exact absurd hP (rb_f h c6)
    skip
  · first | refine q_aload_n dX6_setItem_9 rfl ?_ | refine q_aload_nN dX6_setItem_9 rfl ?_
    refine q_getf dX6_setItem_10 fk_X6_9_5 (by first | assumption | (simp only [zK_sF, zK_sI, zK_sJ, zK_sR]; assumption)) (by first | assumption | (simp only [zF_sF, zF_sI, zF_sJ, zF_sR, true_and, and_true, false_and, and_false, if_true, if_false, eq_self, reduceIte, Nat.reduceEqDiff, OfNat.ofNat_ne_zero, OfNat.zero_ne_ofNat, OfNat.ofNat_ne_one, OfNat.one_ne_ofNat, reduceCtorEq]; first | rfl | assumption)) ?_
    refine q_iload_n dX6_setItem_13 rfl ?_
    first | refine q_aload_n dX6_setItem_14 rfl ?_ | refine q_aload_nN dX6_setItem_14 rfl ?_
    refine q_getf dX6_setItem_15 fk_X6_15_5 (by first | assumption | (simp only [zK_sF, zK_sI, zK_sJ, zK_sR]; assumption)) (by first | assumption | (simp only [zF_sF, zF_sI, zF_sJ, zF_sR, true_and, and_true, false_and, and_false, if_true, if_false, eq_self, reduceIte, Nat.reduceEqDiff, OfNat.ofNat_ne_zero, OfNat.zero_ne_ofNat, OfNat.ofNat_ne_one, OfNat.one_ne_ofNat, reduceCtorEq]; first | rfl | assumption)) ?_
    refine q_iconst (v := 2) dX6_setItem_18 (by decide) ?_
    refine q_icmp_ne 28 dX6_setItem_19 (by decide) (fun c19 => ?_) (fun c19 => ?_)
    · refine q_lload_n dX6_setItem_28 rfl ?_
      refine q_last dX6_setItem_29 (by first | assumption | (simp only [zK_sF, zK_sI, zK_sJ, zK_sR]; assumption)) (by rw [hLi]; exact hin) ?_
      exact q_return dX6_setItem_30 rfl (by decide) (by decide) (by simp_all)
    · refine q_lload_n dX6_setItem_22 rfl ?_
      refine q_l2i dX6_setItem_23 ?_
      refine q_i2l dX6_setItem_24 ?_
      refine q_goto 29 dX6_setItem_25 (by decide) ?_
      refine q_last dX6_setItem_29 (by first | assumption | (simp only [zK_sF, zK_sI, zK_sJ, zK_sR]; assumption)) (by rw [hLi]; exact hin) ?_
      exact q_return dX6_setItem_30 rfl (by decide) (by decide) (by simp_all)
set_option maxHeartbeats 600000 in
set_option maxRecDepth 100000 in
theorem c_X6_append (l : Launch) (G : Gt) (Z : Zt) (a it : Nat) (cn : Int32) (v : Int64) (hK : zK Z a = 6) (hit : zF Z 0 a = .ref it) (hc : zF Z 2 a = .int cn) (hKi : zK Z it = 21) (hLi : zL Z it = 12) : Ct l G YX6_append (0, 0, 0) Z [.ref a, .long v] (ΦI (fun r Z1 => ((cn < 0 ∨ ¬ cn < 12) → r = 0 ∧ Z1 = Z) ∧ (¬ (cn < 0 ∨ ¬ cn < 12) → r = 1 ∧ Z1 = sJ (sF Z 2 a (.int (cn + 1))) it cn.toNatClampNeg v))) := by
  refine ct_of [some (.ref a), some (.long v), none] (by decide +kernel) (Nat.le_of_ble_eq_true rfl) rfl (fun M => ?_)
  first | refine q_aload_n dX6_append_0 rfl ?_ | refine q_aload_nN dX6_append_0 rfl ?_
  refine q_getf dX6_append_1 fk_X6_19_5 (by first | assumption | (simp only [zK_sF, zK_sI, zK_sJ, zK_sR]; assumption)) (by first | assumption | (simp only [zF_sF, zF_sI, zF_sJ, zF_sR, true_and, and_true, false_and, and_false, if_true, if_false, eq_self, reduceIte, Nat.reduceEqDiff, OfNat.ofNat_ne_zero, OfNat.zero_ne_ofNat, OfNat.ofNat_ne_one, OfNat.one_ne_ofNat, reduceCtorEq]; first | rfl | assumption)) ?_
  refine q_if_lt 16 dX6_append_4 (by decide) (fun c4 => ?_) (fun c4 => ?_)
  · refine q_iconst (v := 0) dX6_append_16 (by decide) ?_
    exact q_zreturn dX6_append_17 rfl rfl (by decide) (by decide) (by first | exact ⟨fun _ => ⟨rfl, rfl⟩, fun z => absurd (by first | exact Or.inl (by assumption) | exact Or.inr (by assumption)) z⟩ | exact ⟨fun z => absurd z (fun z => z.elim (by assumption) (fun z => z (by assumption))), fun _ => ⟨rfl, rfl⟩⟩)
  · first | refine q_aload_n dX6_append_7 rfl ?_ | refine q_aload_nN dX6_append_7 rfl ?_
    refine q_getf dX6_append_8 fk_X6_19_5 (by first | assumption | (simp only [zK_sF, zK_sI, zK_sJ, zK_sR]; assumption)) (by first | assumption | (simp only [zF_sF, zF_sI, zF_sJ, zF_sR, true_and, and_true, false_and, and_false, if_true, if_false, eq_self, reduceIte, Nat.reduceEqDiff, OfNat.ofNat_ne_zero, OfNat.zero_ne_ofNat, OfNat.ofNat_ne_one, OfNat.one_ne_ofNat, reduceCtorEq]; first | rfl | assumption)) ?_
    refine q_bipush (v := 12) dX6_append_11 (by decide) ?_
    refine q_icmp_lt 18 dX6_append_13 (by decide) (fun c13 => ?_) (fun c13 => ?_)
    · first | refine q_aload_n dX6_append_18 rfl ?_ | refine q_aload_nN dX6_append_18 rfl ?_
      refine q_getf dX6_append_19 fk_X6_9_5 (by first | assumption | (simp only [zK_sF, zK_sI, zK_sJ, zK_sR]; assumption)) (by first | assumption | (simp only [zF_sF, zF_sI, zF_sJ, zF_sR, true_and, and_true, false_and, and_false, if_true, if_false, eq_self, reduceIte, Nat.reduceEqDiff, OfNat.ofNat_ne_zero, OfNat.zero_ne_ofNat, OfNat.ofNat_ne_one, OfNat.one_ne_ofNat, reduceCtorEq]; first | rfl | assumption)) ?_
      first | refine q_aload_n dX6_append_22 rfl ?_ | refine q_aload_nN dX6_append_22 rfl ?_
      refine q_dup dX6_append_23 rfl ?_
      refine q_getf dX6_append_24 fk_X6_19_5 (by first | assumption | (simp only [zK_sF, zK_sI, zK_sJ, zK_sR]; assumption)) (by first | assumption | (simp only [zF_sF, zF_sI, zF_sJ, zF_sR, true_and, and_true, false_and, and_false, if_true, if_false, eq_self, reduceIte, Nat.reduceEqDiff, OfNat.ofNat_ne_zero, OfNat.zero_ne_ofNat, OfNat.ofNat_ne_one, OfNat.one_ne_ofNat, reduceCtorEq]; first | rfl | assumption)) ?_
      refine q_dup_x1 dX6_append_27 rfl rfl ?_
      refine q_iconst (v := 1) dX6_append_28 (by decide) ?_
      refine q_iadd dX6_append_29 ?_
      refine q_putf dX6_append_30 fk_X6_19_5 rfl (by first | assumption | (simp only [zK_sF, zK_sI, zK_sJ, zK_sR]; assumption)) rfl rfl ?_
      refine q_lload_n dX6_append_33 rfl ?_
      refine q_last dX6_append_34 (by first | assumption | (simp only [zK_sF, zK_sI, zK_sJ, zK_sR]; assumption)) (by simp only [zL_sF]; rw [hLi]; exact in12 c4 c13) ?_
      refine q_iconst (v := 1) dX6_append_35 (by decide) ?_
      exact q_zreturn dX6_append_36 rfl rfl (by decide) (by decide) (by first | exact ⟨fun _ => ⟨rfl, rfl⟩, fun z => absurd (by first | exact Or.inl (by assumption) | exact Or.inr (by assumption)) z⟩ | exact ⟨fun z => absurd z (fun z => z.elim (by assumption) (fun z => z (by assumption))), fun _ => ⟨rfl, rfl⟩⟩)
    · refine q_iconst (v := 0) dX6_append_16 (by decide) ?_
      exact q_zreturn dX6_append_17 rfl rfl (by decide) (by decide) (by first | exact ⟨fun _ => ⟨rfl, rfl⟩, fun z => absurd (by first | exact Or.inl (by assumption) | exact Or.inr (by assumption)) z⟩ | exact ⟨fun z => absurd z (fun z => z.elim (by assumption) (fun z => z (by assumption))), fun _ => ⟨rfl, rfl⟩⟩)
set_option maxHeartbeats 600000 in
set_option maxRecDepth 100000 in
theorem c_X10_beginAsk (l : Launch) (G : Gt) (Z : Zt) (a : Nat) (hK : zK Z a = 10) : Ct l G YX10_beginAsk (0, 0, 0) Z [.ref a] (ΦV (fun Z1 => Z1 = sF Z 4 a (.int 0))) := by
  refine ct_of [some (.ref a)] (by decide +kernel) (Nat.le_of_ble_eq_true rfl) rfl (fun M => ?_)
  first | refine q_aload_n dX10_beginAsk_0 rfl ?_ | refine q_aload_nN dX10_beginAsk_0 rfl ?_
  refine q_iconst (v := 0) dX10_beginAsk_1 (by decide) ?_
  refine q_putf dX10_beginAsk_2 fk_X10_26_9 rfl (by first | assumption | (simp only [zK_sF, zK_sI, zK_sJ, zK_sR]; assumption)) rfl rfl ?_
  exact q_return dX10_beginAsk_5 rfl (by decide) (by decide) rfl
set_option maxHeartbeats 600000 in
set_option maxRecDepth 100000 in
theorem c_X10_beginRange (l : Launch) (G : Gt) (Z : Zt) (a : Nat) (hK : zK Z a = 10) : Ct l G YX10_beginRange (0, 0, 0) Z [.ref a] (ΦV (fun Z1 => Z1 = sF (sF Z 4 a (.int 0)) 3 a (.int 0))) := by
  refine ct_of [some (.ref a)] (by decide +kernel) (Nat.le_of_ble_eq_true rfl) rfl (fun M => ?_)
  first | refine q_aload_n dX10_beginRange_0 rfl ?_ | refine q_aload_nN dX10_beginRange_0 rfl ?_
  refine q_iconst (v := 0) dX10_beginRange_1 (by decide) ?_
  refine q_putf dX10_beginRange_2 fk_X10_26_9 rfl (by first | assumption | (simp only [zK_sF, zK_sI, zK_sJ, zK_sR]; assumption)) rfl rfl ?_
  first | refine q_aload_n dX10_beginRange_5 rfl ?_ | refine q_aload_nN dX10_beginRange_5 rfl ?_
  refine q_iconst (v := 0) dX10_beginRange_6 (by decide) ?_
  refine q_putf dX10_beginRange_7 fk_X10_29_9 rfl (by first | assumption | (simp only [zK_sF, zK_sI, zK_sJ, zK_sR]; assumption)) rfl rfl ?_
  exact q_return dX10_beginRange_10 rfl (by decide) (by decide) rfl
set_option maxHeartbeats 600000 in
set_option maxRecDepth 100000 in
theorem c_X10_fail (l : Launch) (G : Gt) (Z : Zt) (a : Nat) (fl fi fn : Int32) (hK : zK Z a = 10) (hf : zF Z 4 a = .int fl) : Ct l G YX10_fail (0, 0, 0) Z [.ref a, .int fi, .int fn] (ΦI (fun r Z1 => (20 ≤ fl → r = -18 ∧ Z1 = Z) ∧ (¬ 20 ≤ fl → r = -10 - fi ∧ Z1 = sF (sF Z 4 a (.int (fl + 1))) 5 a (.int fn)))) := by
  refine ct_of [some (.ref a), some (.int fi), some (.int fn)] (by decide +kernel) (Nat.le_of_ble_eq_true rfl) rfl (fun M => ?_)
  first | refine q_aload_n dX10_fail_0 rfl ?_ | refine q_aload_nN dX10_fail_0 rfl ?_
  refine q_getf dX10_fail_1 fk_X10_26_9 (by first | assumption | (simp only [zK_sF, zK_sI, zK_sJ, zK_sR]; assumption)) (by first | assumption | (simp only [zF_sF, zF_sI, zF_sJ, zF_sR, true_and, and_true, false_and, and_false, if_true, if_false, eq_self, reduceIte, Nat.reduceEqDiff, OfNat.ofNat_ne_zero, OfNat.zero_ne_ofNat, OfNat.ofNat_ne_one, OfNat.one_ne_ofNat, reduceCtorEq]; first | rfl | assumption)) ?_
  refine q_bipush (v := 20) dX10_fail_4 (by decide) ?_
  refine q_icmp_lt 12 dX10_fail_6 (by decide) (fun c6 => ?_) (fun c6 => ?_)
  · have c6 := Int32.not_le.mpr c6
    first | refine q_aload_n dX10_fail_12 rfl ?_ | refine q_aload_nN dX10_fail_12 rfl ?_
    refine q_dup dX10_fail_13 rfl ?_
    refine q_getf dX10_fail_14 fk_X10_26_9 (by first | assumption | (simp only [zK_sF, zK_sI, zK_sJ, zK_sR]; assumption)) (by first | assumption | (simp only [zF_sF, zF_sI, zF_sJ, zF_sR, true_and, and_true, false_and, and_false, if_true, if_false, eq_self, reduceIte, Nat.reduceEqDiff, OfNat.ofNat_ne_zero, OfNat.zero_ne_ofNat, OfNat.ofNat_ne_one, OfNat.one_ne_ofNat, reduceCtorEq]; first | rfl | assumption)) ?_
    refine q_iconst (v := 1) dX10_fail_17 (by decide) ?_
    refine q_iadd dX10_fail_18 ?_
    refine q_putf dX10_fail_19 fk_X10_26_9 rfl (by first | assumption | (simp only [zK_sF, zK_sI, zK_sJ, zK_sR]; assumption)) rfl rfl ?_
    first | refine q_aload_n dX10_fail_22 rfl ?_ | refine q_aload_nN dX10_fail_22 rfl ?_
    refine q_iload_n dX10_fail_23 rfl ?_
    refine q_putf dX10_fail_24 fk_X10_22_9 rfl (by first | assumption | (simp only [zK_sF, zK_sI, zK_sJ, zK_sR]; assumption)) rfl rfl ?_
    refine q_bipush (v := (-10)) dX10_fail_27 (by decide) ?_
    refine q_iload_n dX10_fail_29 rfl ?_
    refine q_isub dX10_fail_30 ?_
    exact q_ireturn dX10_fail_31 rfl (by decide) (by decide) ⟨fun z => absurd z c6, fun _ => ⟨rfl, rfl⟩⟩
  · have c6 := Int32.not_lt.mp c6
    refine q_bipush (v := (-18)) dX10_fail_9 (by decide) ?_
    exact q_ireturn dX10_fail_11 rfl (by decide) (by decide) ⟨fun _ => ⟨rfl, rfl⟩, fun z => absurd c6 z⟩
set_option maxHeartbeats 600000 in
set_option maxRecDepth 100000 in
theorem c_X10_barByLatest (l : Launch) (G : Gt) (Z : Zt) (a t0 t1 t2 : Nat) (bd ar vd : Int32) (n : Int64) (hK : zK Z a = 10) (h0 : zF Z 0 a = .ref t0) (h1 : zF Z 1 a = .ref t1) (h2 : zF Z 2 a = .ref t2) (hb : zF Z 3 a = .int bd) (ha : zF Z 5 a = .int ar) (k0 : zK Z t0 = 21) (k1 : zK Z t1 = 20) (k2 : zK Z t2 = 20) (l0 : zL Z t0 = 20) (l1 : zL Z t1 = 20) (l2 : zL Z t2 = 20) (hi : vp_in bd 20) (hlt : ¬ 20 ≤ bd) : Ct l G YX10_barByLatest (0, 0, 0) Z [.ref a, .long n, .int vd] (ΦV (fun Z1 => Z1 = sF (sI (sI (sJ Z t0 bd.toNatClampNeg n) t1 bd.toNatClampNeg (-10 - vd)) t2 bd.toNatClampNeg ar) 3 a (.int (bd + 1)))) := by
  refine ct_of [some (.ref a), some (.long n), none, some (.int vd)] (by decide +kernel) (Nat.le_of_ble_eq_true rfl) rfl (fun M => ?_)
  first | refine q_aload_n dX10_barByLatest_0 rfl ?_ | refine q_aload_nN dX10_barByLatest_0 rfl ?_
  refine q_getf dX10_barByLatest_1 fk_X10_29_9 (by first | assumption | (simp only [zK_sF, zK_sI, zK_sJ, zK_sR]; assumption)) (by first | assumption | (simp only [zF_sF, zF_sI, zF_sJ, zF_sR, true_and, and_true, false_and, and_false, if_true, if_false, eq_self, reduceIte, Nat.reduceEqDiff, OfNat.ofNat_ne_zero, OfNat.zero_ne_ofNat, OfNat.ofNat_ne_one, OfNat.one_ne_ofNat, reduceCtorEq]; first | rfl | assumption)) ?_
  refine q_bipush (v := 20) dX10_barByLatest_4 (by decide) ?_
  refine q_icmp_ge 55 dX10_barByLatest_6 (by decide) (fun c6 => absurd c6 hlt) (fun c6 => ?_)
  first | refine q_aload_n dX10_barByLatest_9 rfl ?_ | refine q_aload_nN dX10_barByLatest_9 rfl ?_
  refine q_getf dX10_barByLatest_10 fk_X10_9_9 (by first | assumption | (simp only [zK_sF, zK_sI, zK_sJ, zK_sR]; assumption)) (by first | assumption | (simp only [zF_sF, zF_sI, zF_sJ, zF_sR, true_and, and_true, false_and, and_false, if_true, if_false, eq_self, reduceIte, Nat.reduceEqDiff, OfNat.ofNat_ne_zero, OfNat.zero_ne_ofNat, OfNat.ofNat_ne_one, OfNat.one_ne_ofNat, reduceCtorEq]; first | rfl | assumption)) ?_
  first | refine q_aload_n dX10_barByLatest_13 rfl ?_ | refine q_aload_nN dX10_barByLatest_13 rfl ?_
  refine q_getf dX10_barByLatest_14 fk_X10_29_9 (by first | assumption | (simp only [zK_sF, zK_sI, zK_sJ, zK_sR]; assumption)) (by first | assumption | (simp only [zF_sF, zF_sI, zF_sJ, zF_sR, true_and, and_true, false_and, and_false, if_true, if_false, eq_self, reduceIte, Nat.reduceEqDiff, OfNat.ofNat_ne_zero, OfNat.zero_ne_ofNat, OfNat.ofNat_ne_one, OfNat.one_ne_ofNat, reduceCtorEq]; first | rfl | assumption)) ?_
  refine q_lload_n dX10_barByLatest_17 rfl ?_
  refine q_last dX10_barByLatest_18 (by first | assumption | (simp only [zK_sF, zK_sI, zK_sJ, zK_sR]; assumption)) (by rw [l0]; exact hi) ?_
  first | refine q_aload_n dX10_barByLatest_19 rfl ?_ | refine q_aload_nN dX10_barByLatest_19 rfl ?_
  refine q_getf dX10_barByLatest_20 fk_X10_15_9 (by first | assumption | (simp only [zK_sF, zK_sI, zK_sJ, zK_sR]; assumption)) (by first | assumption | (simp only [zF_sF, zF_sI, zF_sJ, zF_sR, true_and, and_true, false_and, and_false, if_true, if_false, eq_self, reduceIte, Nat.reduceEqDiff, OfNat.ofNat_ne_zero, OfNat.zero_ne_ofNat, OfNat.ofNat_ne_one, OfNat.one_ne_ofNat, reduceCtorEq]; first | rfl | assumption)) ?_
  first | refine q_aload_n dX10_barByLatest_23 rfl ?_ | refine q_aload_nN dX10_barByLatest_23 rfl ?_
  refine q_getf dX10_barByLatest_24 fk_X10_29_9 (by first | assumption | (simp only [zK_sF, zK_sI, zK_sJ, zK_sR]; assumption)) (by first | assumption | (simp only [zF_sF, zF_sI, zF_sJ, zF_sR, true_and, and_true, false_and, and_false, if_true, if_false, eq_self, reduceIte, Nat.reduceEqDiff, OfNat.ofNat_ne_zero, OfNat.zero_ne_ofNat, OfNat.ofNat_ne_one, OfNat.one_ne_ofNat, reduceCtorEq]; first | rfl | assumption)) ?_
  refine q_bipush (v := (-10)) dX10_barByLatest_27 (by decide) ?_
  refine q_iload_n dX10_barByLatest_29 rfl ?_
  refine q_isub dX10_barByLatest_30 ?_
  refine q_iast dX10_barByLatest_31 (by first | assumption | (simp only [zK_sF, zK_sI, zK_sJ, zK_sR]; assumption)) (by simp only [zL_sJ]; rw [l1]; exact hi) ?_
  first | refine q_aload_n dX10_barByLatest_32 rfl ?_ | refine q_aload_nN dX10_barByLatest_32 rfl ?_
  refine q_getf dX10_barByLatest_33 fk_X10_19_9 (by first | assumption | (simp only [zK_sF, zK_sI, zK_sJ, zK_sR]; assumption)) (by first | assumption | (simp only [zF_sF, zF_sI, zF_sJ, zF_sR, true_and, and_true, false_and, and_false, if_true, if_false, eq_self, reduceIte, Nat.reduceEqDiff, OfNat.ofNat_ne_zero, OfNat.zero_ne_ofNat, OfNat.ofNat_ne_one, OfNat.one_ne_ofNat, reduceCtorEq]; first | rfl | assumption)) ?_
  first | refine q_aload_n dX10_barByLatest_36 rfl ?_ | refine q_aload_nN dX10_barByLatest_36 rfl ?_
  refine q_getf dX10_barByLatest_37 fk_X10_29_9 (by first | assumption | (simp only [zK_sF, zK_sI, zK_sJ, zK_sR]; assumption)) (by first | assumption | (simp only [zF_sF, zF_sI, zF_sJ, zF_sR, true_and, and_true, false_and, and_false, if_true, if_false, eq_self, reduceIte, Nat.reduceEqDiff, OfNat.ofNat_ne_zero, OfNat.zero_ne_ofNat, OfNat.ofNat_ne_one, OfNat.one_ne_ofNat, reduceCtorEq]; first | rfl | assumption)) ?_
  first | refine q_aload_n dX10_barByLatest_40 rfl ?_ | refine q_aload_nN dX10_barByLatest_40 rfl ?_
  refine q_getf dX10_barByLatest_41 fk_X10_22_9 (by first | assumption | (simp only [zK_sF, zK_sI, zK_sJ, zK_sR]; assumption)) (by first | assumption | (simp only [zF_sF, zF_sI, zF_sJ, zF_sR, true_and, and_true, false_and, and_false, if_true, if_false, eq_self, reduceIte, Nat.reduceEqDiff, OfNat.ofNat_ne_zero, OfNat.zero_ne_ofNat, OfNat.ofNat_ne_one, OfNat.one_ne_ofNat, reduceCtorEq]; first | rfl | assumption)) ?_
  refine q_iast dX10_barByLatest_44 (by first | assumption | (simp only [zK_sF, zK_sI, zK_sJ, zK_sR]; assumption)) (by simp only [zL_sI, zL_sJ]; rw [l2]; exact hi) ?_
  first | refine q_aload_n dX10_barByLatest_45 rfl ?_ | refine q_aload_nN dX10_barByLatest_45 rfl ?_
  refine q_dup dX10_barByLatest_46 rfl ?_
  refine q_getf dX10_barByLatest_47 fk_X10_29_9 (by first | assumption | (simp only [zK_sF, zK_sI, zK_sJ, zK_sR]; assumption)) (by first | assumption | (simp only [zF_sF, zF_sI, zF_sJ, zF_sR, true_and, and_true, false_and, and_false, if_true, if_false, eq_self, reduceIte, Nat.reduceEqDiff, OfNat.ofNat_ne_zero, OfNat.zero_ne_ofNat, OfNat.ofNat_ne_one, OfNat.one_ne_ofNat, reduceCtorEq]; first | rfl | assumption)) ?_
  refine q_iconst (v := 1) dX10_barByLatest_50 (by decide) ?_
  refine q_iadd dX10_barByLatest_51 ?_
  refine q_putf dX10_barByLatest_52 fk_X10_29_9 rfl (by first | assumption | (simp only [zK_sF, zK_sI, zK_sJ, zK_sR]; assumption)) rfl rfl ?_
  exact q_return dX10_barByLatest_55 rfl (by decide) (by decide) rfl
set_option maxHeartbeats 600000 in
set_option maxRecDepth 100000 in
theorem c_X10_hasBarred (l : Launch) (G : Gt) (Z : Zt) (a : Nat) (bd i : Int32) (hK : zK Z a = 10) (hb : zF Z 3 a = .int bd) : Ct l G YX10_hasBarred (0, 0, 0) Z [.ref a, .int i] (ΦI (fun r Z1 => Z1 = Z ∧ rb r (¬ i < 0 ∧ ¬ bd ≤ i ∧ ¬ 20 ≤ i))) := by
  refine ct_of [some (.ref a), some (.int i)] (by decide +kernel) (Nat.le_of_ble_eq_true rfl) rfl (fun M => ?_)
  refine q_iload_n dX10_hasBarred_0 rfl ?_
  refine q_if_lt 22 dX10_hasBarred_1 (by decide) (fun c1 => ?_) (fun c1 => ?_)
  · refine q_iconst (v := 0) dX10_hasBarred_22 (by decide) ?_
    exact q_zreturn dX10_hasBarred_23 rfl rfl (by decide) (by decide) (by first | exact ⟨rfl, rb_1 (by simp_all)⟩ | exact ⟨rfl, rb_0 (by simp_all)⟩)
  · refine q_iload_n dX10_hasBarred_4 rfl ?_
    first | refine q_aload_n dX10_hasBarred_5 rfl ?_ | refine q_aload_nN dX10_hasBarred_5 rfl ?_
    refine q_getf dX10_hasBarred_6 fk_X10_29_9 (by first | assumption | (simp only [zK_sF, zK_sI, zK_sJ, zK_sR]; assumption)) (by first | assumption | (simp only [zF_sF, zF_sI, zF_sJ, zF_sR, true_and, and_true, false_and, and_false, if_true, if_false, eq_self, reduceIte, Nat.reduceEqDiff, OfNat.ofNat_ne_zero, OfNat.zero_ne_ofNat, OfNat.ofNat_ne_one, OfNat.one_ne_ofNat, reduceCtorEq]; first | rfl | assumption)) ?_
    refine q_icmp_ge 22 dX10_hasBarred_9 (by decide) (fun c9 => ?_) (fun c9 => ?_)
    · refine q_iconst (v := 0) dX10_hasBarred_22 (by decide) ?_
      exact q_zreturn dX10_hasBarred_23 rfl rfl (by decide) (by decide) (by first | exact ⟨rfl, rb_1 (by simp_all)⟩ | exact ⟨rfl, rb_0 (by simp_all)⟩)
    · refine q_iload_n dX10_hasBarred_12 rfl ?_
      refine q_bipush (v := 20) dX10_hasBarred_13 (by decide) ?_
      refine q_icmp_ge 22 dX10_hasBarred_15 (by decide) (fun c15 => ?_) (fun c15 => ?_)
      · refine q_iconst (v := 0) dX10_hasBarred_22 (by decide) ?_
        exact q_zreturn dX10_hasBarred_23 rfl rfl (by decide) (by decide) (by first | exact ⟨rfl, rb_1 (by simp_all)⟩ | exact ⟨rfl, rb_0 (by simp_all)⟩)
      · refine q_iconst (v := 1) dX10_hasBarred_18 (by decide) ?_
        refine q_goto 23 dX10_hasBarred_19 (by decide) ?_
        exact q_zreturn dX10_hasBarred_23 rfl rfl (by decide) (by decide) (by first | exact ⟨rfl, rb_1 (by simp_all)⟩ | exact ⟨rfl, rb_0 (by simp_all)⟩)
set_option maxHeartbeats 600000 in
set_option maxRecDepth 100000 in
theorem c_X10_canBeMet (l : Launch) (G : Gt) (Z : Zt) (v : Int32) : Ct l G YX10_canBeMet (0, 0, 0) Z [.int v] (ΦI (fun r Z1 => Z1 = Z ∧ rb r (¬ 0 ≤ v ∧ ¬ v = -18))) := by
  refine ct_of [some (.int v)] (by decide +kernel) (Nat.le_of_ble_eq_true rfl) rfl (fun M => ?_)
  refine q_iload_n dX10_canBeMet_0 rfl ?_
  refine q_if_ge 14 dX10_canBeMet_1 (by decide) (fun c1 => ?_) (fun c1 => ?_)
  · refine q_iconst (v := 0) dX10_canBeMet_14 (by decide) ?_
    exact q_zreturn dX10_canBeMet_15 rfl rfl (by decide) (by decide) (by first | exact ⟨rfl, rb_1 (by simp_all)⟩ | exact ⟨rfl, rb_0 (by simp_all)⟩)
  · refine q_iload_n dX10_canBeMet_4 rfl ?_
    refine q_bipush (v := (-18)) dX10_canBeMet_5 (by decide) ?_
    refine q_icmp_eq 14 dX10_canBeMet_7 (by decide) (fun c7 => ?_) (fun c7 => ?_)
    · refine q_iconst (v := 0) dX10_canBeMet_14 (by decide) ?_
      exact q_zreturn dX10_canBeMet_15 rfl rfl (by decide) (by decide) (by first | exact ⟨rfl, rb_1 (by simp_all)⟩ | exact ⟨rfl, rb_0 (by simp_all)⟩)
    · refine q_iconst (v := 1) dX10_canBeMet_10 (by decide) ?_
      refine q_goto 15 dX10_canBeMet_11 (by decide) ?_
      exact q_zreturn dX10_canBeMet_15 rfl rfl (by decide) (by decide) (by first | exact ⟨rfl, rb_1 (by simp_all)⟩ | exact ⟨rfl, rb_0 (by simp_all)⟩)
set_option maxHeartbeats 600000 in
set_option maxRecDepth 100000 in
theorem c_J7_fill (l : Launch) (G : Gt) (Z : Zt) (a : Nat) (v : Int64) (hK : zK Z a = 21) (hL : zL Z a < 2 ^ 31) : Ct l G YJ7_fill_d0a16 (0, 0, 0) Z [.ref a, .long v] (ΦV (fun Z1 => ∃ f, Z1 = tJ Z a f ∧ ∀ i, i < zL Z a → f i = v)) := by
  refine ct_of [some (.ref a), some (.long v), none, none, none] (by decide +kernel) (Nat.le_of_ble_eq_true rfl) rfl (fun M => ?_)
  have loop : ∀ (k i : Nat) (f : Nat → Int64), i + k = zL Z a → (∀ j, j < i → f j = v) → Jd l G YJ7_fill_d0a16 (0, 0, 0) M (tJ Z a f) 0 0 (Qm G (0, 0, 0) M (ΦV (fun Z1 => ∃ f, Z1 = tJ Z a f ∧ ∀ i, i < zL Z a → f i = v))) 6 [some (.ref a), some (.long v), none, some (.int (nI i)), some (.int (nI (zL Z a)))] [] := by
    intro k
    induction k with
    | zero =>
      intro i f hik hf
      refine q_iload_n dJ7_fill_d0a16_6 rfl ?_
      refine q_iload dJ7_fill_d0a16_7 rfl ?_
      refine q_icmp_ge 22 dJ7_fill_d0a16_9 (by decide) (fun c9 => ?_) (fun c9 => absurd c9 (not_not_intro (nI_le (by omega) (by omega))))
      exact q_return dJ7_fill_d0a16_22 rfl (by decide) (by decide) ⟨f, rfl, fun j hj => hf j (by omega)⟩
    | succ k ih =>
      intro i f hik hf
      refine q_iload_n dJ7_fill_d0a16_6 rfl ?_
      refine q_iload dJ7_fill_d0a16_7 rfl ?_
      refine q_icmp_ge 22 dJ7_fill_d0a16_9 (by decide) (fun c9 => absurd c9 (nI_ge (by omega) (by omega))) (fun c9 => ?_)
      first | refine q_aload_n dJ7_fill_d0a16_12 rfl ?_ | refine q_aload_nN dJ7_fill_d0a16_12 rfl ?_
      refine q_iload_n dJ7_fill_d0a16_13 rfl ?_
      refine q_lload_n dJ7_fill_d0a16_14 rfl ?_
      refine q_last dJ7_fill_d0a16_15 (by rw [zK_tJ]; exact hK) (by rw [zL_tJ]; exact vp_in_nI (by omega) hL) ?_
      refine q_iinc 1 (ls' := [_, _, _, _, _]) dJ7_fill_d0a16_16 rfl (by decide) rfl rfl (Nat.le_of_ble_eq_true rfl) (by decide) ?_
      refine q_goto 6 dJ7_fill_d0a16_19 (by decide) ?_
      rw [nI_1, sJ_t, tJ_tJ, zJ_tJ, if_pos rfl, nI_clamp (by omega)]
      refine ih (i + 1) _ (by omega) (fun j hj => ?_)
      by_cases e : j = i
      · subst e; exact pk_uLs
      · rw [pk_uLn e]; exact hf j (by omega)
  refine q_iconst (v := 0) dJ7_fill_d0a16_0 (by decide) ?_
  refine q_istore_n (ls' := [_, _, _, _, _]) dJ7_fill_d0a16_1 rfl rfl (Nat.le_of_ble_eq_true rfl) (by decide) ?_
  first | refine q_aload_n dJ7_fill_d0a16_2 rfl ?_ | refine q_aload_nN dJ7_fill_d0a16_2 rfl ?_
  refine q_alenJ dJ7_fill_d0a16_3 (by first | assumption | (simp only [zK_sF, zK_sI, zK_sJ, zK_sR]; assumption)) ?_
  refine q_istore (ls' := [_, _, _, _, _]) dJ7_fill_d0a16_4 rfl rfl (Nat.le_of_ble_eq_true rfl) (by decide) ?_
  have hl := loop (zL Z a) 0 (zJ Z a) (by omega) (fun j hj => absurd hj (by omega))
  rw [tJ_id] at hl
  exact hl
set_option maxHeartbeats 600000 in
set_option maxRecDepth 100000 in
theorem c_X11_gap (l : Launch) (G : Gt) (Z : Zt) (x y : Int64) : Ct l G YX11_gap (0, 0, 0) Z [.long x, .long y] (ΦL (fun r Z1 => Z1 = Z ∧ r = if x < y then y - x else x - y)) := by
  refine ct_of [some (.long x), none, some (.long y), none] (by decide +kernel) (Nat.le_of_ble_eq_true rfl) rfl (fun M => ?_)
  refine q_lload_n dX11_gap_0 rfl ?_
  refine q_lload_n dX11_gap_1 rfl ?_
  refine q_lcmp_lt 12 dX11_gap_2 dX11_gap_3 (by decide) (fun c2 => ?_) (fun c2 => ?_)
  · refine q_lload_n dX11_gap_12 rfl ?_
    refine q_lload_n dX11_gap_13 rfl ?_
    refine q_lsub dX11_gap_14 ?_
    exact q_lreturn dX11_gap_15 rfl (by decide) (by decide) (by first | exact ⟨rfl, (if_pos (by assumption)).symm⟩ | exact ⟨rfl, (if_neg (by assumption)).symm⟩)
  · refine q_lload_n dX11_gap_6 rfl ?_
    refine q_lload_n dX11_gap_7 rfl ?_
    refine q_lsub dX11_gap_8 ?_
    refine q_goto 15 dX11_gap_9 (by decide) ?_
    exact q_lreturn dX11_gap_15 rfl (by decide) (by decide) (by first | exact ⟨rfl, (if_pos (by assumption)).symm⟩ | exact ⟨rfl, (if_neg (by assumption)).symm⟩)
set_option maxHeartbeats 600000 in
set_option maxRecDepth 100000 in
theorem c_X11_unsignedBelow (l : Launch) (G : Gt) (Z : Zt) (x y : Int64) : Ct l G YX11_unsignedBelow (0, 0, 0) Z [.long x, .long y] (ΦI (fun r Z1 => Z1 = Z ∧ rb r ((x ^^^ (-9223372036854775808)) < (y ^^^ (-9223372036854775808))))) := by
  refine ct_of [some (.long x), none, some (.long y), none] (by decide +kernel) (Nat.le_of_ble_eq_true rfl) rfl (fun M => ?_)
  refine q_lload_n dX11_unsignedBelow_0 rfl ?_
  refine q_ldc2 dX11_unsignedBelow_1 kl_X11_261 ?_
  refine q_lxor dX11_unsignedBelow_4 ?_
  refine q_lload_n dX11_unsignedBelow_5 rfl ?_
  refine q_ldc2 dX11_unsignedBelow_6 kl_X11_261 ?_
  refine q_lxor dX11_unsignedBelow_9 ?_
  refine q_lcmp_ge 18 dX11_unsignedBelow_10 dX11_unsignedBelow_11 (by decide) (fun c10 => ?_) (fun c10 => ?_)
  · refine q_iconst (v := 0) dX11_unsignedBelow_18 (by decide) ?_
    exact q_zreturn dX11_unsignedBelow_19 rfl rfl (by decide) (by decide) (by first | exact ⟨rfl, rb_1 (Int64.not_le.mp (by assumption))⟩ | exact ⟨rfl, rb_0 (Int64.not_lt.mpr (by assumption))⟩)
  · refine q_iconst (v := 1) dX11_unsignedBelow_14 (by decide) ?_
    refine q_goto 19 dX11_unsignedBelow_15 (by decide) ?_
    exact q_zreturn dX11_unsignedBelow_19 rfl rfl (by decide) (by decide) (by first | exact ⟨rfl, rb_1 (Int64.not_le.mp (by assumption))⟩ | exact ⟨rfl, rb_0 (Int64.not_lt.mpr (by assumption))⟩)
