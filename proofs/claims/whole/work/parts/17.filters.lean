def failP (Z Z1 : Zt) (t : Nat) (fl nm e r : Int32) : Prop := (20 ≤ fl → r = -18 ∧ Z1 = Z) ∧ (¬ 20 ≤ fl → r = -10 - e ∧ Z1 = sF (sF Z 4 t (.int (fl + 1))) 5 t (.int nm))
def outP (Z Z1 : Zt) (t : Nat) (fl nm r : Int32) (w : Int32 ⊕ Int32) : Prop := match w with
  | .inl e => failP Z Z1 t fl nm e r
  | .inr x => r = x ∧ Z1 = Z
theorem outP_l {Z Z1 : Zt} {t : Nat} {fl nm e r : Int32} {w : Int32 ⊕ Int32} (hw : w = .inl e) (h : failP Z Z1 t fl nm e r) : outP Z Z1 t fl nm r w := by subst hw; exact h
theorem outP_r {Z : Zt} {t : Nat} {fl nm r : Int32} {w : Int32 ⊕ Int32} (hw : w = .inr r) : outP Z Z t fl nm r w := by subst hw; exact ⟨rfl, rfl⟩
def rmV (v c : Int64) : Int32 ⊕ Int32 := if c ≤ 12 then (if 0 ≤ c then .inr (if c < v then 0 else 1) else .inl 3) else .inl 7
def nfV (kd ai : Int32) (v c : Int64) : Int32 ⊕ Int32 :=
  if kd = 0 then .inr (if v ≤ c then 0 else 1)
  else if kd = 1 then (if v = 0 then .inl 6 else .inr (if c - c / v * v = ai.toInt64 then 1 else 0))
  else if kd = 2 then (if c = 0 then .inl 6 else .inr (if v / c ≤ ai.toInt64 then 0 else 1))
  else if kd = 4 then rmV v c
  else if c = v then .inl 7 else .inr 1
theorem nfV_0 (ai : Int32) (v c : Int64) : nfV 0 ai v c = .inr (if v ≤ c then 0 else 1) := rfl
theorem nfV_1 (ai : Int32) (v c : Int64) : nfV 1 ai v c = (if v = 0 then .inl 6 else .inr (if c - c / v * v = ai.toInt64 then 1 else 0)) := rfl
theorem nfV_2 (ai : Int32) (v c : Int64) : nfV 2 ai v c = (if c = 0 then .inl 6 else .inr (if v / c ≤ ai.toInt64 then 0 else 1)) := rfl
theorem nfV_3 (ai : Int32) (v c : Int64) : nfV 3 ai v c = (if c = v then .inl 7 else .inr 1) := rfl
theorem nfV_4 (ai : Int32) (v c : Int64) : nfV 4 ai v c = rmV v c := rfl
def sfV (wt skd cn pt : Int32) (v : Int64) (it : Nat → Int64) (c : Int64) : Int32 ⊕ Int32 :=
  if skd = 0 then .inl 1 else if skd = wt then (if wt = 3 then .inr (if c ≤ pt.toInt64 then 0 else 1) else if ¬ c < 0 ∧ ¬ cn.toInt64 ≤ c ∧ ¬ 12 ≤ c then .inr (if it c.toInt32.toNatClampNeg ≤ v then 0 else 1) else .inl 2) else .inl 5
theorem sfV_3 (cn pt : Int32) (v : Int64) (it : Nat → Int64) (c : Int64) : sfV 3 3 cn pt v it c = .inr (if c ≤ pt.toInt64 then 0 else 1) := rfl
theorem sfV_0 (wt cn pt : Int32) (v : Int64) (it : Nat → Int64) (c : Int64) : sfV wt 0 cn pt v it c = .inl 1 := rfl
theorem nfV_d {kd ai : Int32} {v : Int64} (n0 : ¬ kd = 0) (n1 : ¬ kd = 1) (n2 : ¬ kd = 2) (n4 : ¬ kd = 4) : nfV kd ai v v = .inl 7 := by rw [nfV, if_neg n0, if_neg n1, if_neg n2, if_neg n4, if_pos rfl]
def thF (c : Int64) : Int32 := if c - c / 3 * 3 = 0 then 2 else if c - c / 3 * 3 = 1 then 3 else 1
set_option maxHeartbeats 600000 in
set_option maxRecDepth 100000 in
theorem c_X4_judgeRoom (l : Launch) (G : Gt) (Z : Zt) (a t : Nat) (nm kd ai fl : Int32) (v c : Int64) (hK : zK Z a = 4) (h0 : zF Z 0 a = .int nm) (h2 : zF Z 2 a = .int kd) (h3 : zF Z 3 a = .int ai) (h4 : zF Z 4 a = .long v) (hKt : zK Z t = 10) (hf : zF Z 4 t = .int fl) : Ct l G YX4_judgeRoom (1, 0, 0) Z [.ref a, .long c, .ref t] (ΦI (fun r Z1 => outP Z Z1 t fl nm r (rmV v c))) := by
  refine ct_of [some (.ref a), some (.long c), none, some (.ref t)] (by decide +kernel) (Nat.le_of_ble_eq_true rfl) rfl (fun M => ?_)
  refine q_lload_n dX4_judgeRoom_0 rfl ?_
  refine q_ldc2 dX4_judgeRoom_1 kl_X4_39 ?_
  refine q_lcmp_le 19 dX4_judgeRoom_4 dX4_judgeRoom_5 (by decide) (fun c4 => ?_) (fun c4 => ?_)
  · refine q_lload_n dX4_judgeRoom_19 rfl ?_
    refine q_lconst (v := 0) dX4_judgeRoom_20 (by decide) ?_
    refine q_lcmp_ge 37 dX4_judgeRoom_21 dX4_judgeRoom_22 (by decide) (fun c21 => ?_) (fun c21 => ?_)
    · refine q_lload_n dX4_judgeRoom_37 rfl ?_
      first | refine q_aload_n dX4_judgeRoom_38 rfl ?_ | refine q_aload_nN dX4_judgeRoom_38 rfl ?_
      refine q_getf dX4_judgeRoom_39 fk_X4_18_3 (by first | assumption | (simp only [zK_sF, zK_sI, zK_sJ, zK_sR]; assumption)) (by first | assumption | (simp only [zF_sF, zF_sI, zF_sJ, zF_sR, true_and, and_true, false_and, and_false, if_true, if_false, eq_self, reduceIte, Nat.reduceEqDiff, OfNat.ofNat_ne_zero, OfNat.zero_ne_ofNat, OfNat.ofNat_ne_one, OfNat.one_ne_ofNat, reduceCtorEq]; first | rfl | assumption)) ?_
      refine q_lcmp_lt 50 dX4_judgeRoom_42 dX4_judgeRoom_43 (by decide) (fun c42 => ?_) (fun c42 => ?_)
      · refine q_iconst (v := 0) dX4_judgeRoom_50 (by decide) ?_
        refine q_callSU ⟨RX4, "verdict", "(Z)I"⟩ dX4_judgeRoom_51 us_X4_22 us_X4_sm rfl us_st (c_X2_verdict l G _ _) rfl np_X2_verdict (by decide) (by decide) (by decide) (Nat.le_of_ble_eq_true rfl) (kI (fun r Z1 h => ?_))
        obtain ⟨rfl, rfl⟩ := h
        first | rw [if_neg (show ¬ (1 : Int32) = 0 by decide)] | rw [if_pos (show (0 : Int32) = 0 from rfl)]
        exact q_ireturn dX4_judgeRoom_54 rfl (by decide) (by decide) (by first | (subst c159; exact outP_l (nfV_d n0 n1 n2 n4) h) | exact outP_l (by simp only [nfV_0, nfV_1, nfV_2, nfV_3, nfV_4, sfV_3, sfV_0, *, if_true, if_false, reduceIte, eq_self, not_false_eq_true, not_true_eq_false, and_self, and_true, true_and]) h | exact outP_r (by simp only [nfV_0, nfV_1, nfV_2, nfV_3, nfV_4, sfV_3, sfV_0, *, if_true, if_false, reduceIte, eq_self, not_false_eq_true, not_true_eq_false, and_self, and_true, true_and]) | (refine outP_l ?_ h; simp only [rmV, *, if_true, if_false, reduceIte, eq_self, not_false_eq_true, not_true_eq_false, and_self, and_true, true_and]; done) | (refine outP_r ?_; simp only [rmV, *, if_true, if_false, reduceIte, eq_self, not_false_eq_true, not_true_eq_false, and_self, and_true, true_and]; done))
      · refine q_iconst (v := 1) dX4_judgeRoom_46 (by decide) ?_
        refine q_goto 51 dX4_judgeRoom_47 (by decide) ?_
        refine q_callSU ⟨RX4, "verdict", "(Z)I"⟩ dX4_judgeRoom_51 us_X4_22 us_X4_sm rfl us_st (c_X2_verdict l G _ _) rfl np_X2_verdict (by decide) (by decide) (by decide) (Nat.le_of_ble_eq_true rfl) (kI (fun r Z1 h => ?_))
        obtain ⟨rfl, rfl⟩ := h
        first | rw [if_neg (show ¬ (1 : Int32) = 0 by decide)] | rw [if_pos (show (0 : Int32) = 0 from rfl)]
        exact q_ireturn dX4_judgeRoom_54 rfl (by decide) (by decide) (by first | (subst c159; exact outP_l (nfV_d n0 n1 n2 n4) h) | exact outP_l (by simp only [nfV_0, nfV_1, nfV_2, nfV_3, nfV_4, sfV_3, sfV_0, *, if_true, if_false, reduceIte, eq_self, not_false_eq_true, not_true_eq_false, and_self, and_true, true_and]) h | exact outP_r (by simp only [nfV_0, nfV_1, nfV_2, nfV_3, nfV_4, sfV_3, sfV_0, *, if_true, if_false, reduceIte, eq_self, not_false_eq_true, not_true_eq_false, and_self, and_true, true_and]) | (refine outP_l ?_ h; simp only [rmV, *, if_true, if_false, reduceIte, eq_self, not_false_eq_true, not_true_eq_false, and_self, and_true, true_and]; done) | (refine outP_r ?_; simp only [rmV, *, if_true, if_false, reduceIte, eq_self, not_false_eq_true, not_true_eq_false, and_self, and_true, true_and]; done))
    · first | refine q_aload_n dX4_judgeRoom_25 rfl ?_ | refine q_aload_nN dX4_judgeRoom_25 rfl ?_
      refine q_iconst (v := 3) dX4_judgeRoom_26 (by decide) ?_
      first | refine q_aload_n dX4_judgeRoom_27 rfl ?_ | refine q_aload_nN dX4_judgeRoom_27 rfl ?_
      refine q_getf dX4_judgeRoom_28 fk_X4_26_3 (by first | assumption | (simp only [zK_sF, zK_sI, zK_sJ, zK_sR]; assumption)) (by first | assumption | (simp only [zF_sF, zF_sI, zF_sJ, zF_sR, true_and, and_true, false_and, and_false, if_true, if_false, eq_self, reduceIte, Nat.reduceEqDiff, OfNat.ofNat_ne_zero, OfNat.zero_ne_ofNat, OfNat.ofNat_ne_one, OfNat.one_ne_ofNat, reduceCtorEq]; first | rfl | assumption)) ?_
      refine q_callV 9 dX4_judgeRoom_31 mk_X4_29 rfl (by first | assumption | (simp only [zK_sF, zK_sI, zK_sJ, zK_sR]; assumption)) (c_X10_fail l G _ t fl 3 nm hKt hf) rfl np_X10_fail (by decide) (by decide) (by decide) (Nat.le_of_ble_eq_true rfl) (kI (fun r Z1 h => ?_))
      refine q_goto 54 dX4_judgeRoom_34 (by decide) ?_
      exact q_ireturn dX4_judgeRoom_54 rfl (by decide) (by decide) (by first | (subst c159; exact outP_l (nfV_d n0 n1 n2 n4) h) | exact outP_l (by simp only [nfV_0, nfV_1, nfV_2, nfV_3, nfV_4, sfV_3, sfV_0, *, if_true, if_false, reduceIte, eq_self, not_false_eq_true, not_true_eq_false, and_self, and_true, true_and]) h | exact outP_r (by simp only [nfV_0, nfV_1, nfV_2, nfV_3, nfV_4, sfV_3, sfV_0, *, if_true, if_false, reduceIte, eq_self, not_false_eq_true, not_true_eq_false, and_self, and_true, true_and]) | (refine outP_l ?_ h; simp only [rmV, *, if_true, if_false, reduceIte, eq_self, not_false_eq_true, not_true_eq_false, and_self, and_true, true_and]; done) | (refine outP_r ?_; simp only [rmV, *, if_true, if_false, reduceIte, eq_self, not_false_eq_true, not_true_eq_false, and_self, and_true, true_and]; done))
  · first | refine q_aload_n dX4_judgeRoom_8 rfl ?_ | refine q_aload_nN dX4_judgeRoom_8 rfl ?_
    refine q_bipush (v := 7) dX4_judgeRoom_9 (by decide) ?_
    first | refine q_aload_n dX4_judgeRoom_11 rfl ?_ | refine q_aload_nN dX4_judgeRoom_11 rfl ?_
    refine q_getf dX4_judgeRoom_12 fk_X4_26_3 (by first | assumption | (simp only [zK_sF, zK_sI, zK_sJ, zK_sR]; assumption)) (by first | assumption | (simp only [zF_sF, zF_sI, zF_sJ, zF_sR, true_and, and_true, false_and, and_false, if_true, if_false, eq_self, reduceIte, Nat.reduceEqDiff, OfNat.ofNat_ne_zero, OfNat.zero_ne_ofNat, OfNat.ofNat_ne_one, OfNat.one_ne_ofNat, reduceCtorEq]; first | rfl | assumption)) ?_
    refine q_callV 9 dX4_judgeRoom_15 mk_X4_29 rfl (by first | assumption | (simp only [zK_sF, zK_sI, zK_sJ, zK_sR]; assumption)) (c_X10_fail l G _ t fl 7 nm hKt hf) rfl np_X10_fail (by decide) (by decide) (by decide) (Nat.le_of_ble_eq_true rfl) (kI (fun r Z1 h => ?_))
    exact q_ireturn dX4_judgeRoom_18 rfl (by decide) (by decide) (by first | (subst c159; exact outP_l (nfV_d n0 n1 n2 n4) h) | exact outP_l (by simp only [nfV_0, nfV_1, nfV_2, nfV_3, nfV_4, sfV_3, sfV_0, *, if_true, if_false, reduceIte, eq_self, not_false_eq_true, not_true_eq_false, and_self, and_true, true_and]) h | exact outP_r (by simp only [nfV_0, nfV_1, nfV_2, nfV_3, nfV_4, sfV_3, sfV_0, *, if_true, if_false, reduceIte, eq_self, not_false_eq_true, not_true_eq_false, and_self, and_true, true_and]) | (refine outP_l ?_ h; simp only [rmV, *, if_true, if_false, reduceIte, eq_self, not_false_eq_true, not_true_eq_false, and_self, and_true, true_and]; done) | (refine outP_r ?_; simp only [rmV, *, if_true, if_false, reduceIte, eq_self, not_false_eq_true, not_true_eq_false, and_self, and_true, true_and]; done))
set_option maxHeartbeats 600000 in
set_option maxRecDepth 100000 in
theorem c_X4_judge (l : Launch) (G : Gt) (Z : Zt) (a t : Nat) (nm kd ai fl : Int32) (v c : Int64) (hK : zK Z a = 4) (h0 : zF Z 0 a = .int nm) (h2 : zF Z 2 a = .int kd) (h3 : zF Z 3 a = .int ai) (h4 : zF Z 4 a = .long v) (hKt : zK Z t = 10) (hf : zF Z 4 t = .int fl) : Ct l G YX4_judge (2, 0, 0) Z [.ref a, .long c, .ref t] (ΦI (fun r Z1 => outP Z Z1 t fl nm r (nfV kd ai v c))) := by
  refine ct_of [some (.ref a), some (.long c), none, some (.ref t)] (by decide +kernel) (Nat.le_of_ble_eq_true rfl) rfl (fun M => ?_)
  first | refine q_aload_n dX4_judge_0 rfl ?_ | refine q_aload_nN dX4_judge_0 rfl ?_
  refine q_getf dX4_judge_1 fk_X4_9_3 (by first | assumption | (simp only [zK_sF, zK_sI, zK_sJ, zK_sR]; assumption)) (by first | assumption | (simp only [zF_sF, zF_sI, zF_sJ, zF_sR, true_and, and_true, false_and, and_false, if_true, if_false, eq_self, reduceIte, Nat.reduceEqDiff, OfNat.ofNat_ne_zero, OfNat.zero_ne_ofNat, OfNat.ofNat_ne_one, OfNat.one_ne_ofNat, reduceCtorEq]; first | rfl | assumption)) ?_
  refine q_tsw [(0, 40), (1, 58), (2, 104), (3, 154), (4, 147)] 154 dX4_judge_4 (by decide) (by decide) (by decide) (by decide) (fun q hq c4 => ?_) (fun c4 => ?_)
  · rcases List.mem_cons.mp hq with rfl | hq
    · dsimp only at c4 ⊢
      subst c4
      refine q_lload_n dX4_judge_40 rfl ?_
      first | refine q_aload_n dX4_judge_41 rfl ?_ | refine q_aload_nN dX4_judge_41 rfl ?_
      refine q_getf dX4_judge_42 fk_X4_18_3 (by first | assumption | (simp only [zK_sF, zK_sI, zK_sJ, zK_sR]; assumption)) (by first | assumption | (simp only [zF_sF, zF_sI, zF_sJ, zF_sR, true_and, and_true, false_and, and_false, if_true, if_false, eq_self, reduceIte, Nat.reduceEqDiff, OfNat.ofNat_ne_zero, OfNat.zero_ne_ofNat, OfNat.ofNat_ne_one, OfNat.one_ne_ofNat, reduceCtorEq]; first | rfl | assumption)) ?_
      refine q_lcmp_ge 53 dX4_judge_45 dX4_judge_46 (by decide) (fun c45 => ?_) (fun c45 => ?_)
      · refine q_iconst (v := 0) dX4_judge_53 (by decide) ?_
        refine q_callSU ⟨RX4, "verdict", "(Z)I"⟩ dX4_judge_54 us_X4_22 us_X4_sm rfl us_st (c_X2_verdict l G _ _) rfl np_X2_verdict (by decide) (by decide) (by decide) (Nat.le_of_ble_eq_true rfl) (kI (fun r Z1 h => ?_))
        obtain ⟨rfl, rfl⟩ := h
        first | rw [if_neg (show ¬ (1 : Int32) = 0 by decide)] | rw [if_pos (show (0 : Int32) = 0 from rfl)]
        exact q_ireturn dX4_judge_57 rfl (by decide) (by decide) (by first | (subst c159; exact outP_l (nfV_d n0 n1 n2 n4) h) | exact outP_l (by simp only [nfV_0, nfV_1, nfV_2, nfV_3, nfV_4, sfV_3, sfV_0, *, if_true, if_false, reduceIte, eq_self, not_false_eq_true, not_true_eq_false, and_self, and_true, true_and]) h | exact outP_r (by simp only [nfV_0, nfV_1, nfV_2, nfV_3, nfV_4, sfV_3, sfV_0, *, if_true, if_false, reduceIte, eq_self, not_false_eq_true, not_true_eq_false, and_self, and_true, true_and]) | (refine outP_l ?_ h; simp only [nfV, *, if_true, if_false, reduceIte, eq_self, not_false_eq_true, not_true_eq_false, and_self, and_true, true_and]; done) | (refine outP_r ?_; simp only [nfV, *, if_true, if_false, reduceIte, eq_self, not_false_eq_true, not_true_eq_false, and_self, and_true, true_and]; done))
      · refine q_iconst (v := 1) dX4_judge_49 (by decide) ?_
        refine q_goto 54 dX4_judge_50 (by decide) ?_
        refine q_callSU ⟨RX4, "verdict", "(Z)I"⟩ dX4_judge_54 us_X4_22 us_X4_sm rfl us_st (c_X2_verdict l G _ _) rfl np_X2_verdict (by decide) (by decide) (by decide) (Nat.le_of_ble_eq_true rfl) (kI (fun r Z1 h => ?_))
        obtain ⟨rfl, rfl⟩ := h
        first | rw [if_neg (show ¬ (1 : Int32) = 0 by decide)] | rw [if_pos (show (0 : Int32) = 0 from rfl)]
        exact q_ireturn dX4_judge_57 rfl (by decide) (by decide) (by first | (subst c159; exact outP_l (nfV_d n0 n1 n2 n4) h) | exact outP_l (by simp only [nfV_0, nfV_1, nfV_2, nfV_3, nfV_4, sfV_3, sfV_0, *, if_true, if_false, reduceIte, eq_self, not_false_eq_true, not_true_eq_false, and_self, and_true, true_and]) h | exact outP_r (by simp only [nfV_0, nfV_1, nfV_2, nfV_3, nfV_4, sfV_3, sfV_0, *, if_true, if_false, reduceIte, eq_self, not_false_eq_true, not_true_eq_false, and_self, and_true, true_and]) | (refine outP_l ?_ h; simp only [nfV, *, if_true, if_false, reduceIte, eq_self, not_false_eq_true, not_true_eq_false, and_self, and_true, true_and]; done) | (refine outP_r ?_; simp only [nfV, *, if_true, if_false, reduceIte, eq_self, not_false_eq_true, not_true_eq_false, and_self, and_true, true_and]; done))
    rcases List.mem_cons.mp hq with rfl | hq
    · dsimp only at c4 ⊢
      subst c4
      first | refine q_aload_n dX4_judge_58 rfl ?_ | refine q_aload_nN dX4_judge_58 rfl ?_
      refine q_getf dX4_judge_59 fk_X4_18_3 (by first | assumption | (simp only [zK_sF, zK_sI, zK_sJ, zK_sR]; assumption)) (by first | assumption | (simp only [zF_sF, zF_sI, zF_sJ, zF_sR, true_and, and_true, false_and, and_false, if_true, if_false, eq_self, reduceIte, Nat.reduceEqDiff, OfNat.ofNat_ne_zero, OfNat.zero_ne_ofNat, OfNat.ofNat_ne_one, OfNat.one_ne_ofNat, reduceCtorEq]; first | rfl | assumption)) ?_
      refine q_lconst (v := 0) dX4_judge_62 (by decide) ?_
      refine q_lcmp_ne 80 dX4_judge_63 dX4_judge_64 (by decide) (fun c63 => ?_) (fun c63 => ?_)
      · refine q_lload_n dX4_judge_80 rfl ?_
        first | refine q_aload_n dX4_judge_81 rfl ?_ | refine q_aload_nN dX4_judge_81 rfl ?_
        refine q_getf dX4_judge_82 fk_X4_18_3 (by first | assumption | (simp only [zK_sF, zK_sI, zK_sJ, zK_sR]; assumption)) (by first | assumption | (simp only [zF_sF, zF_sI, zF_sJ, zF_sR, true_and, and_true, false_and, and_false, if_true, if_false, eq_self, reduceIte, Nat.reduceEqDiff, OfNat.ofNat_ne_zero, OfNat.zero_ne_ofNat, OfNat.ofNat_ne_one, OfNat.one_ne_ofNat, reduceCtorEq]; first | rfl | assumption)) ?_
        refine q_lrem dX4_judge_85 (by assumption) ?_
        first | refine q_aload_n dX4_judge_86 rfl ?_ | refine q_aload_nN dX4_judge_86 rfl ?_
        refine q_getf dX4_judge_87 fk_X4_15_3 (by first | assumption | (simp only [zK_sF, zK_sI, zK_sJ, zK_sR]; assumption)) (by first | assumption | (simp only [zF_sF, zF_sI, zF_sJ, zF_sR, true_and, and_true, false_and, and_false, if_true, if_false, eq_self, reduceIte, Nat.reduceEqDiff, OfNat.ofNat_ne_zero, OfNat.zero_ne_ofNat, OfNat.ofNat_ne_one, OfNat.one_ne_ofNat, reduceCtorEq]; first | rfl | assumption)) ?_
        refine q_i2l dX4_judge_90 ?_
        refine q_lcmp_ne 99 dX4_judge_91 dX4_judge_92 (by decide) (fun c91 => ?_) (fun c91 => ?_)
        · refine q_iconst (v := 0) dX4_judge_99 (by decide) ?_
          refine q_callSU ⟨RX4, "verdict", "(Z)I"⟩ dX4_judge_100 us_X4_22 us_X4_sm rfl us_st (c_X2_verdict l G _ _) rfl np_X2_verdict (by decide) (by decide) (by decide) (Nat.le_of_ble_eq_true rfl) (kI (fun r Z1 h => ?_))
          obtain ⟨rfl, rfl⟩ := h
          first | rw [if_neg (show ¬ (1 : Int32) = 0 by decide)] | rw [if_pos (show (0 : Int32) = 0 from rfl)]
          exact q_ireturn dX4_judge_103 rfl (by decide) (by decide) (by first | (subst c159; exact outP_l (nfV_d n0 n1 n2 n4) h) | exact outP_l (by simp only [nfV_0, nfV_1, nfV_2, nfV_3, nfV_4, sfV_3, sfV_0, *, if_true, if_false, reduceIte, eq_self, not_false_eq_true, not_true_eq_false, and_self, and_true, true_and]) h | exact outP_r (by simp only [nfV_0, nfV_1, nfV_2, nfV_3, nfV_4, sfV_3, sfV_0, *, if_true, if_false, reduceIte, eq_self, not_false_eq_true, not_true_eq_false, and_self, and_true, true_and]) | (refine outP_l ?_ h; simp only [nfV, *, if_true, if_false, reduceIte, eq_self, not_false_eq_true, not_true_eq_false, and_self, and_true, true_and]; done) | (refine outP_r ?_; simp only [nfV, *, if_true, if_false, reduceIte, eq_self, not_false_eq_true, not_true_eq_false, and_self, and_true, true_and]; done))
        · refine q_iconst (v := 1) dX4_judge_95 (by decide) ?_
          refine q_goto 100 dX4_judge_96 (by decide) ?_
          refine q_callSU ⟨RX4, "verdict", "(Z)I"⟩ dX4_judge_100 us_X4_22 us_X4_sm rfl us_st (c_X2_verdict l G _ _) rfl np_X2_verdict (by decide) (by decide) (by decide) (Nat.le_of_ble_eq_true rfl) (kI (fun r Z1 h => ?_))
          obtain ⟨rfl, rfl⟩ := h
          first | rw [if_neg (show ¬ (1 : Int32) = 0 by decide)] | rw [if_pos (show (0 : Int32) = 0 from rfl)]
          exact q_ireturn dX4_judge_103 rfl (by decide) (by decide) (by first | (subst c159; exact outP_l (nfV_d n0 n1 n2 n4) h) | exact outP_l (by simp only [nfV_0, nfV_1, nfV_2, nfV_3, nfV_4, sfV_3, sfV_0, *, if_true, if_false, reduceIte, eq_self, not_false_eq_true, not_true_eq_false, and_self, and_true, true_and]) h | exact outP_r (by simp only [nfV_0, nfV_1, nfV_2, nfV_3, nfV_4, sfV_3, sfV_0, *, if_true, if_false, reduceIte, eq_self, not_false_eq_true, not_true_eq_false, and_self, and_true, true_and]) | (refine outP_l ?_ h; simp only [nfV, *, if_true, if_false, reduceIte, eq_self, not_false_eq_true, not_true_eq_false, and_self, and_true, true_and]; done) | (refine outP_r ?_; simp only [nfV, *, if_true, if_false, reduceIte, eq_self, not_false_eq_true, not_true_eq_false, and_self, and_true, true_and]; done))
      · first | refine q_aload_n dX4_judge_67 rfl ?_ | refine q_aload_nN dX4_judge_67 rfl ?_
        refine q_bipush (v := 6) dX4_judge_68 (by decide) ?_
        first | refine q_aload_n dX4_judge_70 rfl ?_ | refine q_aload_nN dX4_judge_70 rfl ?_
        refine q_getf dX4_judge_71 fk_X4_26_3 (by first | assumption | (simp only [zK_sF, zK_sI, zK_sJ, zK_sR]; assumption)) (by first | assumption | (simp only [zF_sF, zF_sI, zF_sJ, zF_sR, true_and, and_true, false_and, and_false, if_true, if_false, eq_self, reduceIte, Nat.reduceEqDiff, OfNat.ofNat_ne_zero, OfNat.zero_ne_ofNat, OfNat.ofNat_ne_one, OfNat.one_ne_ofNat, reduceCtorEq]; first | rfl | assumption)) ?_
        refine q_callV 9 dX4_judge_74 mk_X4_29 rfl (by first | assumption | (simp only [zK_sF, zK_sI, zK_sJ, zK_sR]; assumption)) (c_X10_fail l G _ t fl 6 nm hKt hf) rfl np_X10_fail (by decide) (by decide) (by decide) (Nat.le_of_ble_eq_true rfl) (kI (fun r Z1 h => ?_))
        refine q_goto 103 dX4_judge_77 (by decide) ?_
        exact q_ireturn dX4_judge_103 rfl (by decide) (by decide) (by first | (subst c159; exact outP_l (nfV_d n0 n1 n2 n4) h) | exact outP_l (by simp only [nfV_0, nfV_1, nfV_2, nfV_3, nfV_4, sfV_3, sfV_0, *, if_true, if_false, reduceIte, eq_self, not_false_eq_true, not_true_eq_false, and_self, and_true, true_and]) h | exact outP_r (by simp only [nfV_0, nfV_1, nfV_2, nfV_3, nfV_4, sfV_3, sfV_0, *, if_true, if_false, reduceIte, eq_self, not_false_eq_true, not_true_eq_false, and_self, and_true, true_and]) | (refine outP_l ?_ h; simp only [nfV, *, if_true, if_false, reduceIte, eq_self, not_false_eq_true, not_true_eq_false, and_self, and_true, true_and]; done) | (refine outP_r ?_; simp only [nfV, *, if_true, if_false, reduceIte, eq_self, not_false_eq_true, not_true_eq_false, and_self, and_true, true_and]; done))
    rcases List.mem_cons.mp hq with rfl | hq
    · dsimp only at c4 ⊢
      subst c4
      refine q_lload_n dX4_judge_104 rfl ?_
      refine q_lconst (v := 0) dX4_judge_105 (by decide) ?_
      refine q_lcmp_ne 123 dX4_judge_106 dX4_judge_107 (by decide) (fun c106 => ?_) (fun c106 => ?_)
      · first | refine q_aload_n dX4_judge_123 rfl ?_ | refine q_aload_nN dX4_judge_123 rfl ?_
        refine q_getf dX4_judge_124 fk_X4_18_3 (by first | assumption | (simp only [zK_sF, zK_sI, zK_sJ, zK_sR]; assumption)) (by first | assumption | (simp only [zF_sF, zF_sI, zF_sJ, zF_sR, true_and, and_true, false_and, and_false, if_true, if_false, eq_self, reduceIte, Nat.reduceEqDiff, OfNat.ofNat_ne_zero, OfNat.zero_ne_ofNat, OfNat.ofNat_ne_one, OfNat.one_ne_ofNat, reduceCtorEq]; first | rfl | assumption)) ?_
        refine q_lload_n dX4_judge_127 rfl ?_
        refine q_ldiv dX4_judge_128 (by assumption) ?_
        first | refine q_aload_n dX4_judge_129 rfl ?_ | refine q_aload_nN dX4_judge_129 rfl ?_
        refine q_getf dX4_judge_130 fk_X4_15_3 (by first | assumption | (simp only [zK_sF, zK_sI, zK_sJ, zK_sR]; assumption)) (by first | assumption | (simp only [zF_sF, zF_sI, zF_sJ, zF_sR, true_and, and_true, false_and, and_false, if_true, if_false, eq_self, reduceIte, Nat.reduceEqDiff, OfNat.ofNat_ne_zero, OfNat.zero_ne_ofNat, OfNat.ofNat_ne_one, OfNat.one_ne_ofNat, reduceCtorEq]; first | rfl | assumption)) ?_
        refine q_i2l dX4_judge_133 ?_
        refine q_lcmp_le 142 dX4_judge_134 dX4_judge_135 (by decide) (fun c134 => ?_) (fun c134 => ?_)
        · refine q_iconst (v := 0) dX4_judge_142 (by decide) ?_
          refine q_callSU ⟨RX4, "verdict", "(Z)I"⟩ dX4_judge_143 us_X4_22 us_X4_sm rfl us_st (c_X2_verdict l G _ _) rfl np_X2_verdict (by decide) (by decide) (by decide) (Nat.le_of_ble_eq_true rfl) (kI (fun r Z1 h => ?_))
          obtain ⟨rfl, rfl⟩ := h
          first | rw [if_neg (show ¬ (1 : Int32) = 0 by decide)] | rw [if_pos (show (0 : Int32) = 0 from rfl)]
          exact q_ireturn dX4_judge_146 rfl (by decide) (by decide) (by first | (subst c159; exact outP_l (nfV_d n0 n1 n2 n4) h) | exact outP_l (by simp only [nfV_0, nfV_1, nfV_2, nfV_3, nfV_4, sfV_3, sfV_0, *, if_true, if_false, reduceIte, eq_self, not_false_eq_true, not_true_eq_false, and_self, and_true, true_and]) h | exact outP_r (by simp only [nfV_0, nfV_1, nfV_2, nfV_3, nfV_4, sfV_3, sfV_0, *, if_true, if_false, reduceIte, eq_self, not_false_eq_true, not_true_eq_false, and_self, and_true, true_and]) | (refine outP_l ?_ h; simp only [nfV, *, if_true, if_false, reduceIte, eq_self, not_false_eq_true, not_true_eq_false, and_self, and_true, true_and]; done) | (refine outP_r ?_; simp only [nfV, *, if_true, if_false, reduceIte, eq_self, not_false_eq_true, not_true_eq_false, and_self, and_true, true_and]; done))
        · refine q_iconst (v := 1) dX4_judge_138 (by decide) ?_
          refine q_goto 143 dX4_judge_139 (by decide) ?_
          refine q_callSU ⟨RX4, "verdict", "(Z)I"⟩ dX4_judge_143 us_X4_22 us_X4_sm rfl us_st (c_X2_verdict l G _ _) rfl np_X2_verdict (by decide) (by decide) (by decide) (Nat.le_of_ble_eq_true rfl) (kI (fun r Z1 h => ?_))
          obtain ⟨rfl, rfl⟩ := h
          first | rw [if_neg (show ¬ (1 : Int32) = 0 by decide)] | rw [if_pos (show (0 : Int32) = 0 from rfl)]
          exact q_ireturn dX4_judge_146 rfl (by decide) (by decide) (by first | (subst c159; exact outP_l (nfV_d n0 n1 n2 n4) h) | exact outP_l (by simp only [nfV_0, nfV_1, nfV_2, nfV_3, nfV_4, sfV_3, sfV_0, *, if_true, if_false, reduceIte, eq_self, not_false_eq_true, not_true_eq_false, and_self, and_true, true_and]) h | exact outP_r (by simp only [nfV_0, nfV_1, nfV_2, nfV_3, nfV_4, sfV_3, sfV_0, *, if_true, if_false, reduceIte, eq_self, not_false_eq_true, not_true_eq_false, and_self, and_true, true_and]) | (refine outP_l ?_ h; simp only [nfV, *, if_true, if_false, reduceIte, eq_self, not_false_eq_true, not_true_eq_false, and_self, and_true, true_and]; done) | (refine outP_r ?_; simp only [nfV, *, if_true, if_false, reduceIte, eq_self, not_false_eq_true, not_true_eq_false, and_self, and_true, true_and]; done))
      · first | refine q_aload_n dX4_judge_110 rfl ?_ | refine q_aload_nN dX4_judge_110 rfl ?_
        refine q_bipush (v := 6) dX4_judge_111 (by decide) ?_
        first | refine q_aload_n dX4_judge_113 rfl ?_ | refine q_aload_nN dX4_judge_113 rfl ?_
        refine q_getf dX4_judge_114 fk_X4_26_3 (by first | assumption | (simp only [zK_sF, zK_sI, zK_sJ, zK_sR]; assumption)) (by first | assumption | (simp only [zF_sF, zF_sI, zF_sJ, zF_sR, true_and, and_true, false_and, and_false, if_true, if_false, eq_self, reduceIte, Nat.reduceEqDiff, OfNat.ofNat_ne_zero, OfNat.zero_ne_ofNat, OfNat.ofNat_ne_one, OfNat.one_ne_ofNat, reduceCtorEq]; first | rfl | assumption)) ?_
        refine q_callV 9 dX4_judge_117 mk_X4_29 rfl (by first | assumption | (simp only [zK_sF, zK_sI, zK_sJ, zK_sR]; assumption)) (c_X10_fail l G _ t fl 6 nm hKt hf) rfl np_X10_fail (by decide) (by decide) (by decide) (Nat.le_of_ble_eq_true rfl) (kI (fun r Z1 h => ?_))
        refine q_goto 146 dX4_judge_120 (by decide) ?_
        exact q_ireturn dX4_judge_146 rfl (by decide) (by decide) (by first | (subst c159; exact outP_l (nfV_d n0 n1 n2 n4) h) | exact outP_l (by simp only [nfV_0, nfV_1, nfV_2, nfV_3, nfV_4, sfV_3, sfV_0, *, if_true, if_false, reduceIte, eq_self, not_false_eq_true, not_true_eq_false, and_self, and_true, true_and]) h | exact outP_r (by simp only [nfV_0, nfV_1, nfV_2, nfV_3, nfV_4, sfV_3, sfV_0, *, if_true, if_false, reduceIte, eq_self, not_false_eq_true, not_true_eq_false, and_self, and_true, true_and]) | (refine outP_l ?_ h; simp only [nfV, *, if_true, if_false, reduceIte, eq_self, not_false_eq_true, not_true_eq_false, and_self, and_true, true_and]; done) | (refine outP_r ?_; simp only [nfV, *, if_true, if_false, reduceIte, eq_self, not_false_eq_true, not_true_eq_false, and_self, and_true, true_and]; done))
    rcases List.mem_cons.mp hq with rfl | hq
    · dsimp only at c4 ⊢
      subst c4
      refine q_lload_n dX4_judge_154 rfl ?_
      first | refine q_aload_n dX4_judge_155 rfl ?_ | refine q_aload_nN dX4_judge_155 rfl ?_
      refine q_getf dX4_judge_156 fk_X4_18_3 (by first | assumption | (simp only [zK_sF, zK_sI, zK_sJ, zK_sR]; assumption)) (by first | assumption | (simp only [zF_sF, zF_sI, zF_sJ, zF_sR, true_and, and_true, false_and, and_false, if_true, if_false, eq_self, reduceIte, Nat.reduceEqDiff, OfNat.ofNat_ne_zero, OfNat.zero_ne_ofNat, OfNat.ofNat_ne_one, OfNat.one_ne_ofNat, reduceCtorEq]; first | rfl | assumption)) ?_
      refine q_lcmp_ne 176 dX4_judge_159 dX4_judge_160 (by decide) (fun c159 => ?_) (fun c159 => ?_)
      · refine q_iconst (v := 1) dX4_judge_176 (by decide) ?_
        exact q_ireturn dX4_judge_177 rfl (by decide) (by decide) (by first | (subst c159; exact outP_l (nfV_d n0 n1 n2 n4) h) | exact outP_l (by simp only [nfV_0, nfV_1, nfV_2, nfV_3, nfV_4, sfV_3, sfV_0, *, if_true, if_false, reduceIte, eq_self, not_false_eq_true, not_true_eq_false, and_self, and_true, true_and]) h | exact outP_r (by simp only [nfV_0, nfV_1, nfV_2, nfV_3, nfV_4, sfV_3, sfV_0, *, if_true, if_false, reduceIte, eq_self, not_false_eq_true, not_true_eq_false, and_self, and_true, true_and]) | (refine outP_l ?_ h; simp only [nfV, *, if_true, if_false, reduceIte, eq_self, not_false_eq_true, not_true_eq_false, and_self, and_true, true_and]; done) | (refine outP_r ?_; simp only [nfV, *, if_true, if_false, reduceIte, eq_self, not_false_eq_true, not_true_eq_false, and_self, and_true, true_and]; done))
      · first | refine q_aload_n dX4_judge_163 rfl ?_ | refine q_aload_nN dX4_judge_163 rfl ?_
        refine q_bipush (v := 7) dX4_judge_164 (by decide) ?_
        first | refine q_aload_n dX4_judge_166 rfl ?_ | refine q_aload_nN dX4_judge_166 rfl ?_
        refine q_getf dX4_judge_167 fk_X4_26_3 (by first | assumption | (simp only [zK_sF, zK_sI, zK_sJ, zK_sR]; assumption)) (by first | assumption | (simp only [zF_sF, zF_sI, zF_sJ, zF_sR, true_and, and_true, false_and, and_false, if_true, if_false, eq_self, reduceIte, Nat.reduceEqDiff, OfNat.ofNat_ne_zero, OfNat.zero_ne_ofNat, OfNat.ofNat_ne_one, OfNat.one_ne_ofNat, reduceCtorEq]; first | rfl | assumption)) ?_
        refine q_callV 9 dX4_judge_170 mk_X4_29 rfl (by first | assumption | (simp only [zK_sF, zK_sI, zK_sJ, zK_sR]; assumption)) (c_X10_fail l G _ t fl 7 nm hKt hf) rfl np_X10_fail (by decide) (by decide) (by decide) (Nat.le_of_ble_eq_true rfl) (kI (fun r Z1 h => ?_))
        refine q_goto 177 dX4_judge_173 (by decide) ?_
        exact q_ireturn dX4_judge_177 rfl (by decide) (by decide) (by first | (subst c159; exact outP_l (nfV_d n0 n1 n2 n4) h) | exact outP_l (by simp only [nfV_0, nfV_1, nfV_2, nfV_3, nfV_4, sfV_3, sfV_0, *, if_true, if_false, reduceIte, eq_self, not_false_eq_true, not_true_eq_false, and_self, and_true, true_and]) h | exact outP_r (by simp only [nfV_0, nfV_1, nfV_2, nfV_3, nfV_4, sfV_3, sfV_0, *, if_true, if_false, reduceIte, eq_self, not_false_eq_true, not_true_eq_false, and_self, and_true, true_and]) | (refine outP_l ?_ h; simp only [nfV, *, if_true, if_false, reduceIte, eq_self, not_false_eq_true, not_true_eq_false, and_self, and_true, true_and]; done) | (refine outP_r ?_; simp only [nfV, *, if_true, if_false, reduceIte, eq_self, not_false_eq_true, not_true_eq_false, and_self, and_true, true_and]; done))
    rcases List.mem_cons.mp hq with rfl | hq
    · dsimp only at c4 ⊢
      subst c4
      first | refine q_aload_n dX4_judge_147 rfl ?_ | refine q_aload_nN dX4_judge_147 rfl ?_
      refine q_lload_n dX4_judge_148 rfl ?_
      first | refine q_aload_n dX4_judge_149 rfl ?_ | refine q_aload_nN dX4_judge_149 rfl ?_
      refine q_callV 3 dX4_judge_150 mk_X4_35 rfl (by first | assumption | (simp only [zK_sF, zK_sI, zK_sJ, zK_sR]; assumption)) (c_X4_judgeRoom l G _ a t nm 4 ai fl v c hK h0 h2 h3 h4 hKt hf) rfl np_X4_judgeRoom (by decide) (by decide) (by decide) (Nat.le_of_ble_eq_true rfl) (kI (fun r Z1 h => ?_))
      exact q_ireturn dX4_judge_153 rfl (by decide) (by decide) (by rw [nfV_4]; exact h)
    exact absurd hq List.not_mem_nil
  · have n0 : ¬ kd = 0 := c4 (0, 40) (by simp)
    have n1 : ¬ kd = 1 := c4 (1, 58) (by simp)
    have n2 : ¬ kd = 2 := c4 (2, 104) (by simp)
    have n4 : ¬ kd = 4 := c4 (4, 147) (by simp)
    refine q_lload_n dX4_judge_154 rfl ?_
    first | refine q_aload_n dX4_judge_155 rfl ?_ | refine q_aload_nN dX4_judge_155 rfl ?_
    refine q_getf dX4_judge_156 fk_X4_18_3 (by first | assumption | (simp only [zK_sF, zK_sI, zK_sJ, zK_sR]; assumption)) (by first | assumption | (simp only [zF_sF, zF_sI, zF_sJ, zF_sR, true_and, and_true, false_and, and_false, if_true, if_false, eq_self, reduceIte, Nat.reduceEqDiff, OfNat.ofNat_ne_zero, OfNat.zero_ne_ofNat, OfNat.ofNat_ne_one, OfNat.one_ne_ofNat, reduceCtorEq]; first | rfl | assumption)) ?_
    refine q_lcmp_ne 176 dX4_judge_159 dX4_judge_160 (by decide) (fun c159 => ?_) (fun c159 => ?_)
    · refine q_iconst (v := 1) dX4_judge_176 (by decide) ?_
      exact q_ireturn dX4_judge_177 rfl (by decide) (by decide) (by first | (subst c159; exact outP_l (nfV_d n0 n1 n2 n4) h) | exact outP_l (by simp only [nfV_0, nfV_1, nfV_2, nfV_3, nfV_4, sfV_3, sfV_0, *, if_true, if_false, reduceIte, eq_self, not_false_eq_true, not_true_eq_false, and_self, and_true, true_and]) h | exact outP_r (by simp only [nfV_0, nfV_1, nfV_2, nfV_3, nfV_4, sfV_3, sfV_0, *, if_true, if_false, reduceIte, eq_self, not_false_eq_true, not_true_eq_false, and_self, and_true, true_and]) | (refine outP_l ?_ h; simp only [nfV, *, if_true, if_false, reduceIte, eq_self, not_false_eq_true, not_true_eq_false, and_self, and_true, true_and]; done) | (refine outP_r ?_; simp only [nfV, *, if_true, if_false, reduceIte, eq_self, not_false_eq_true, not_true_eq_false, and_self, and_true, true_and]; done))
    · first | refine q_aload_n dX4_judge_163 rfl ?_ | refine q_aload_nN dX4_judge_163 rfl ?_
      refine q_bipush (v := 7) dX4_judge_164 (by decide) ?_
      first | refine q_aload_n dX4_judge_166 rfl ?_ | refine q_aload_nN dX4_judge_166 rfl ?_
      refine q_getf dX4_judge_167 fk_X4_26_3 (by first | assumption | (simp only [zK_sF, zK_sI, zK_sJ, zK_sR]; assumption)) (by first | assumption | (simp only [zF_sF, zF_sI, zF_sJ, zF_sR, true_and, and_true, false_and, and_false, if_true, if_false, eq_self, reduceIte, Nat.reduceEqDiff, OfNat.ofNat_ne_zero, OfNat.zero_ne_ofNat, OfNat.ofNat_ne_one, OfNat.one_ne_ofNat, reduceCtorEq]; first | rfl | assumption)) ?_
      refine q_callV 9 dX4_judge_170 mk_X4_29 rfl (by first | assumption | (simp only [zK_sF, zK_sI, zK_sJ, zK_sR]; assumption)) (c_X10_fail l G _ t fl 7 nm hKt hf) rfl np_X10_fail (by decide) (by decide) (by decide) (Nat.le_of_ble_eq_true rfl) (kI (fun r Z1 h => ?_))
      refine q_goto 177 dX4_judge_173 (by decide) ?_
      exact q_ireturn dX4_judge_177 rfl (by decide) (by decide) (by first | (subst c159; exact outP_l (nfV_d n0 n1 n2 n4) h) | exact outP_l (by simp only [nfV_0, nfV_1, nfV_2, nfV_3, nfV_4, sfV_3, sfV_0, *, if_true, if_false, reduceIte, eq_self, not_false_eq_true, not_true_eq_false, and_self, and_true, true_and]) h | exact outP_r (by simp only [nfV_0, nfV_1, nfV_2, nfV_3, nfV_4, sfV_3, sfV_0, *, if_true, if_false, reduceIte, eq_self, not_false_eq_true, not_true_eq_false, and_self, and_true, true_and]) | (refine outP_l ?_ h; simp only [nfV, *, if_true, if_false, reduceIte, eq_self, not_false_eq_true, not_true_eq_false, and_self, and_true, true_and]; done) | (refine outP_r ?_; simp only [nfV, *, if_true, if_false, reduceIte, eq_self, not_false_eq_true, not_true_eq_false, and_self, and_true, true_and]; done))
theorem in12L {c : Int64} (h0 : ¬ c < 0) (h : ¬ 12 ≤ c) : vp_in c.toInt32 12 ∧ c.toInt32.toNatClampNeg = uN c ∧ uN c < 12 := by
  obtain ⟨h1, h2⟩ := uN_pos h0
  have h3 : c.toInt < 12 := by have := Int64.lt_iff_toInt_lt.mp (Int64.not_le.mp h); simpa using this
  have h4 : uN c < 12 := by omega
  have h5 : c = lN (uN c) := uN_inj (by rw [uN_ofNat (uN_lt c)])
  have h6 : c.toInt32 = nI (uN c) := by rw [h5, lN_i, ← h5]
  rw [h6]
  exact ⟨vp_in_nI h4 (by decide), nI_clamp (by omega), h4⟩
set_option maxHeartbeats 600000 in
set_option maxRecDepth 100000 in
theorem c_X7_judge (l : Launch) (G : Gt) (Z : Zt) (a t hs it : Nat) (nm wt skd cn pt fl : Int32) (v c : Int64) (hK : zK Z a = 7) (h0 : zF Z 0 a = .int nm) (h2 : zF Z 2 a = .ref hs) (h3 : zF Z 3 a = .int wt) (h4 : zF Z 4 a = .long v) (hKs : zK Z hs = 6) (s0 : zF Z 0 hs = .ref it) (s1 : zF Z 1 hs = .int skd) (s2 : zF Z 2 hs = .int cn) (s3 : zF Z 3 hs = .int pt) (hKi : zK Z it = 21) (hLi : zL Z it = 12) (hKt : zK Z t = 10) (hf : zF Z 4 t = .int fl) : Ct l G YX7_judge (1, 0, 0) Z [.ref a, .long c, .ref t] (ΦI (fun r Z1 => outP Z Z1 t fl nm r (sfV wt skd cn pt v (zJ Z it) c))) := by
  refine ct_of [some (.ref a), some (.long c), none, some (.ref t)] (by decide +kernel) (Nat.le_of_ble_eq_true rfl) rfl (fun M => ?_)
  first | refine q_aload_n dX7_judge_0 rfl ?_ | refine q_aload_nN dX7_judge_0 rfl ?_
  refine q_getf dX7_judge_1 fk_X7_9_6 (by first | assumption | (simp only [zK_sF, zK_sI, zK_sJ, zK_sR]; assumption)) (by first | assumption | (simp only [zF_sF, zF_sI, zF_sJ, zF_sR, true_and, and_true, false_and, and_false, if_true, if_false, eq_self, reduceIte, Nat.reduceEqDiff, OfNat.ofNat_ne_zero, OfNat.zero_ne_ofNat, OfNat.ofNat_ne_one, OfNat.one_ne_ofNat, reduceCtorEq]; first | rfl | assumption)) ?_
  refine q_getf dX7_judge_4 fk_X7_23_5 (by first | assumption | (simp only [zK_sF, zK_sI, zK_sJ, zK_sR]; assumption)) (by first | assumption | (simp only [zF_sF, zF_sI, zF_sJ, zF_sR, true_and, and_true, false_and, and_false, if_true, if_false, eq_self, reduceIte, Nat.reduceEqDiff, OfNat.ofNat_ne_zero, OfNat.zero_ne_ofNat, OfNat.ofNat_ne_one, OfNat.one_ne_ofNat, reduceCtorEq]; first | rfl | assumption)) ?_
  refine q_if_ne 20 dX7_judge_7 (by decide) (fun c7 => ?_) (fun c7 => ?_)
  · first | refine q_aload_n dX7_judge_20 rfl ?_ | refine q_aload_nN dX7_judge_20 rfl ?_
    refine q_getf dX7_judge_21 fk_X7_9_6 (by first | assumption | (simp only [zK_sF, zK_sI, zK_sJ, zK_sR]; assumption)) (by first | assumption | (simp only [zF_sF, zF_sI, zF_sJ, zF_sR, true_and, and_true, false_and, and_false, if_true, if_false, eq_self, reduceIte, Nat.reduceEqDiff, OfNat.ofNat_ne_zero, OfNat.zero_ne_ofNat, OfNat.ofNat_ne_one, OfNat.one_ne_ofNat, reduceCtorEq]; first | rfl | assumption)) ?_
    refine q_getf dX7_judge_24 fk_X7_23_5 (by first | assumption | (simp only [zK_sF, zK_sI, zK_sJ, zK_sR]; assumption)) (by first | assumption | (simp only [zF_sF, zF_sI, zF_sJ, zF_sR, true_and, and_true, false_and, and_false, if_true, if_false, eq_self, reduceIte, Nat.reduceEqDiff, OfNat.ofNat_ne_zero, OfNat.zero_ne_ofNat, OfNat.ofNat_ne_one, OfNat.one_ne_ofNat, reduceCtorEq]; first | rfl | assumption)) ?_
    first | refine q_aload_n dX7_judge_27 rfl ?_ | refine q_aload_nN dX7_judge_27 rfl ?_
    refine q_getf dX7_judge_28 fk_X7_15_6 (by first | assumption | (simp only [zK_sF, zK_sI, zK_sJ, zK_sR]; assumption)) (by first | assumption | (simp only [zF_sF, zF_sI, zF_sJ, zF_sR, true_and, and_true, false_and, and_false, if_true, if_false, eq_self, reduceIte, Nat.reduceEqDiff, OfNat.ofNat_ne_zero, OfNat.zero_ne_ofNat, OfNat.ofNat_ne_one, OfNat.one_ne_ofNat, reduceCtorEq]; first | rfl | assumption)) ?_
    refine q_icmp_eq 44 dX7_judge_31 (by decide) (fun c31 => ?_) (fun c31 => ?_)
    · subst c31
      first | refine q_aload_n dX7_judge_44 rfl ?_ | refine q_aload_nN dX7_judge_44 rfl ?_
      refine q_getf dX7_judge_45 fk_X7_15_6 (by first | assumption | (simp only [zK_sF, zK_sI, zK_sJ, zK_sR]; assumption)) (by first | assumption | (simp only [zF_sF, zF_sI, zF_sJ, zF_sR, true_and, and_true, false_and, and_false, if_true, if_false, eq_self, reduceIte, Nat.reduceEqDiff, OfNat.ofNat_ne_zero, OfNat.zero_ne_ofNat, OfNat.ofNat_ne_one, OfNat.one_ne_ofNat, reduceCtorEq]; first | rfl | assumption)) ?_
      refine q_iconst (v := 3) dX7_judge_48 (by decide) ?_
      refine q_icmp_ne 74 dX7_judge_49 (by decide) (fun c49 => ?_) (fun c49 => ?_)
      · first | refine q_aload_n dX7_judge_74 rfl ?_ | refine q_aload_nN dX7_judge_74 rfl ?_
        refine q_getf dX7_judge_75 fk_X7_9_6 (by first | assumption | (simp only [zK_sF, zK_sI, zK_sJ, zK_sR]; assumption)) (by first | assumption | (simp only [zF_sF, zF_sI, zF_sJ, zF_sR, true_and, and_true, false_and, and_false, if_true, if_false, eq_self, reduceIte, Nat.reduceEqDiff, OfNat.ofNat_ne_zero, OfNat.zero_ne_ofNat, OfNat.ofNat_ne_one, OfNat.one_ne_ofNat, reduceCtorEq]; first | rfl | assumption)) ?_
        refine q_lload_n dX7_judge_78 rfl ?_
        refine q_callV 5 dX7_judge_79 mk_X7_44 rfl (by first | assumption | (simp only [zK_sF, zK_sI, zK_sJ, zK_sR]; assumption)) (c_X6_hasItem l G _ hs cn c hKs s2) rfl np_X6_hasItem (by decide) (by decide) (by decide) (Nat.le_of_ble_eq_true rfl) (kI (fun r Z2 hp => ?_))
        obtain ⟨rfl, hp⟩ := hp
        refine q_if_ne 95 dX7_judge_82 (by decide) (fun c82 => ?_) (fun c82 => ?_)
        · have hp := rb_t hp c82
          first | refine q_aload_n dX7_judge_95 rfl ?_ | refine q_aload_nN dX7_judge_95 rfl ?_
          refine q_getf dX7_judge_96 fk_X7_9_6 (by first | assumption | (simp only [zK_sF, zK_sI, zK_sJ, zK_sR]; assumption)) (by first | assumption | (simp only [zF_sF, zF_sI, zF_sJ, zF_sR, true_and, and_true, false_and, and_false, if_true, if_false, eq_self, reduceIte, Nat.reduceEqDiff, OfNat.ofNat_ne_zero, OfNat.zero_ne_ofNat, OfNat.ofNat_ne_one, OfNat.one_ne_ofNat, reduceCtorEq]; first | rfl | assumption)) ?_
          refine q_getf dX7_judge_99 fk_X7_48_5 (by first | assumption | (simp only [zK_sF, zK_sI, zK_sJ, zK_sR]; assumption)) (by first | assumption | (simp only [zF_sF, zF_sI, zF_sJ, zF_sR, true_and, and_true, false_and, and_false, if_true, if_false, eq_self, reduceIte, Nat.reduceEqDiff, OfNat.ofNat_ne_zero, OfNat.zero_ne_ofNat, OfNat.ofNat_ne_one, OfNat.one_ne_ofNat, reduceCtorEq]; first | rfl | assumption)) ?_
          refine q_lload_n dX7_judge_102 rfl ?_
          refine q_l2i dX7_judge_103 ?_
          refine q_lald dX7_judge_104 (by first | assumption | (simp only [zK_sF, zK_sI, zK_sJ, zK_sR]; assumption)) (by rw [hLi]; exact (in12L hp.1 hp.2.2).1) ?_
          first | refine q_aload_n dX7_judge_105 rfl ?_ | refine q_aload_nN dX7_judge_105 rfl ?_
          refine q_getf dX7_judge_106 fk_X7_19_6 (by first | assumption | (simp only [zK_sF, zK_sI, zK_sJ, zK_sR]; assumption)) (by first | assumption | (simp only [zF_sF, zF_sI, zF_sJ, zF_sR, true_and, and_true, false_and, and_false, if_true, if_false, eq_self, reduceIte, Nat.reduceEqDiff, OfNat.ofNat_ne_zero, OfNat.zero_ne_ofNat, OfNat.ofNat_ne_one, OfNat.one_ne_ofNat, reduceCtorEq]; first | rfl | assumption)) ?_
          refine q_lcmp_le 117 dX7_judge_109 dX7_judge_110 (by decide) (fun c109 => ?_) (fun c109 => ?_)
          · refine q_iconst (v := 0) dX7_judge_117 (by decide) ?_
            refine q_callSU ⟨RX7, "verdict", "(Z)I"⟩ dX7_judge_118 us_X7_40 us_X7_sm rfl us_st (c_X2_verdict l G _ _) rfl np_X2_verdict (by decide) (by decide) (by decide) (Nat.le_of_ble_eq_true rfl) (kI (fun r Z1 h => ?_))
            obtain ⟨rfl, rfl⟩ := h
            first | rw [if_neg (show ¬ (1 : Int32) = 0 by decide)] | rw [if_pos (show (0 : Int32) = 0 from rfl)]
            exact q_ireturn dX7_judge_121 rfl (by decide) (by decide) (by first | (subst c159; exact outP_l (nfV_d n0 n1 n2 n4) h) | exact outP_l (by simp only [nfV_0, nfV_1, nfV_2, nfV_3, nfV_4, sfV_3, sfV_0, *, if_true, if_false, reduceIte, eq_self, not_false_eq_true, not_true_eq_false, and_self, and_true, true_and]) h | exact outP_r (by simp only [nfV_0, nfV_1, nfV_2, nfV_3, nfV_4, sfV_3, sfV_0, *, if_true, if_false, reduceIte, eq_self, not_false_eq_true, not_true_eq_false, and_self, and_true, true_and]) | (refine outP_l ?_ h; simp only [sfV, *, if_true, if_false, reduceIte, eq_self, not_false_eq_true, not_true_eq_false, and_self, and_true, true_and]; done) | (refine outP_r ?_; simp only [sfV, *, if_true, if_false, reduceIte, eq_self, not_false_eq_true, not_true_eq_false, and_self, and_true, true_and]; done))
          · refine q_iconst (v := 1) dX7_judge_113 (by decide) ?_
            refine q_goto 118 dX7_judge_114 (by decide) ?_
            refine q_callSU ⟨RX7, "verdict", "(Z)I"⟩ dX7_judge_118 us_X7_40 us_X7_sm rfl us_st (c_X2_verdict l G _ _) rfl np_X2_verdict (by decide) (by decide) (by decide) (Nat.le_of_ble_eq_true rfl) (kI (fun r Z1 h => ?_))
            obtain ⟨rfl, rfl⟩ := h
            first | rw [if_neg (show ¬ (1 : Int32) = 0 by decide)] | rw [if_pos (show (0 : Int32) = 0 from rfl)]
            exact q_ireturn dX7_judge_121 rfl (by decide) (by decide) (by first | (subst c159; exact outP_l (nfV_d n0 n1 n2 n4) h) | exact outP_l (by simp only [nfV_0, nfV_1, nfV_2, nfV_3, nfV_4, sfV_3, sfV_0, *, if_true, if_false, reduceIte, eq_self, not_false_eq_true, not_true_eq_false, and_self, and_true, true_and]) h | exact outP_r (by simp only [nfV_0, nfV_1, nfV_2, nfV_3, nfV_4, sfV_3, sfV_0, *, if_true, if_false, reduceIte, eq_self, not_false_eq_true, not_true_eq_false, and_self, and_true, true_and]) | (refine outP_l ?_ h; simp only [sfV, *, if_true, if_false, reduceIte, eq_self, not_false_eq_true, not_true_eq_false, and_self, and_true, true_and]; done) | (refine outP_r ?_; simp only [sfV, *, if_true, if_false, reduceIte, eq_self, not_false_eq_true, not_true_eq_false, and_self, and_true, true_and]; done))
        · have hp := rb_f hp c82
          first | refine q_aload_n dX7_judge_85 rfl ?_ | refine q_aload_nN dX7_judge_85 rfl ?_
          refine q_iconst (v := 2) dX7_judge_86 (by decide) ?_
          first | refine q_aload_n dX7_judge_87 rfl ?_ | refine q_aload_nN dX7_judge_87 rfl ?_
          refine q_getf dX7_judge_88 fk_X7_28_6 (by first | assumption | (simp only [zK_sF, zK_sI, zK_sJ, zK_sR]; assumption)) (by first | assumption | (simp only [zF_sF, zF_sI, zF_sJ, zF_sR, true_and, and_true, false_and, and_false, if_true, if_false, eq_self, reduceIte, Nat.reduceEqDiff, OfNat.ofNat_ne_zero, OfNat.zero_ne_ofNat, OfNat.ofNat_ne_one, OfNat.one_ne_ofNat, reduceCtorEq]; first | rfl | assumption)) ?_
          refine q_callV 9 dX7_judge_91 mk_X7_31 rfl (by first | assumption | (simp only [zK_sF, zK_sI, zK_sJ, zK_sR]; assumption)) (c_X10_fail l G _ t fl 2 nm hKt hf) rfl np_X10_fail (by decide) (by decide) (by decide) (Nat.le_of_ble_eq_true rfl) (kI (fun r Z1 h => ?_))
          exact q_ireturn dX7_judge_94 rfl (by decide) (by decide) (by first | (subst c159; exact outP_l (nfV_d n0 n1 n2 n4) h) | exact outP_l (by simp only [nfV_0, nfV_1, nfV_2, nfV_3, nfV_4, sfV_3, sfV_0, *, if_true, if_false, reduceIte, eq_self, not_false_eq_true, not_true_eq_false, and_self, and_true, true_and]) h | exact outP_r (by simp only [nfV_0, nfV_1, nfV_2, nfV_3, nfV_4, sfV_3, sfV_0, *, if_true, if_false, reduceIte, eq_self, not_false_eq_true, not_true_eq_false, and_self, and_true, true_and]) | (refine outP_l ?_ h; simp only [sfV, *, if_true, if_false, reduceIte, eq_self, not_false_eq_true, not_true_eq_false, and_self, and_true, true_and]; done) | (refine outP_r ?_; simp only [sfV, *, if_true, if_false, reduceIte, eq_self, not_false_eq_true, not_true_eq_false, and_self, and_true, true_and]; done))
      · refine q_lload_n dX7_judge_52 rfl ?_
        first | refine q_aload_n dX7_judge_53 rfl ?_ | refine q_aload_nN dX7_judge_53 rfl ?_
        refine q_getf dX7_judge_54 fk_X7_9_6 (by first | assumption | (simp only [zK_sF, zK_sI, zK_sJ, zK_sR]; assumption)) (by first | assumption | (simp only [zF_sF, zF_sI, zF_sJ, zF_sR, true_and, and_true, false_and, and_false, if_true, if_false, eq_self, reduceIte, Nat.reduceEqDiff, OfNat.ofNat_ne_zero, OfNat.zero_ne_ofNat, OfNat.ofNat_ne_one, OfNat.one_ne_ofNat, reduceCtorEq]; first | rfl | assumption)) ?_
        refine q_getf dX7_judge_57 fk_X7_37_5 (by first | assumption | (simp only [zK_sF, zK_sI, zK_sJ, zK_sR]; assumption)) (by first | assumption | (simp only [zF_sF, zF_sI, zF_sJ, zF_sR, true_and, and_true, false_and, and_false, if_true, if_false, eq_self, reduceIte, Nat.reduceEqDiff, OfNat.ofNat_ne_zero, OfNat.zero_ne_ofNat, OfNat.ofNat_ne_one, OfNat.one_ne_ofNat, reduceCtorEq]; first | rfl | assumption)) ?_
        refine q_i2l dX7_judge_60 ?_
        refine q_lcmp_le 69 dX7_judge_61 dX7_judge_62 (by decide) (fun c61 => ?_) (fun c61 => ?_)
        · refine q_iconst (v := 0) dX7_judge_69 (by decide) ?_
          refine q_callSU ⟨RX7, "verdict", "(Z)I"⟩ dX7_judge_70 us_X7_40 us_X7_sm rfl us_st (c_X2_verdict l G _ _) rfl np_X2_verdict (by decide) (by decide) (by decide) (Nat.le_of_ble_eq_true rfl) (kI (fun r Z1 h => ?_))
          obtain ⟨rfl, rfl⟩ := h
          first | rw [if_neg (show ¬ (1 : Int32) = 0 by decide)] | rw [if_pos (show (0 : Int32) = 0 from rfl)]
          exact q_ireturn dX7_judge_73 rfl (by decide) (by decide) (by first | (subst c159; exact outP_l (nfV_d n0 n1 n2 n4) h) | exact outP_l (by simp only [nfV_0, nfV_1, nfV_2, nfV_3, nfV_4, sfV_3, sfV_0, *, if_true, if_false, reduceIte, eq_self, not_false_eq_true, not_true_eq_false, and_self, and_true, true_and]) h | exact outP_r (by simp only [nfV_0, nfV_1, nfV_2, nfV_3, nfV_4, sfV_3, sfV_0, *, if_true, if_false, reduceIte, eq_self, not_false_eq_true, not_true_eq_false, and_self, and_true, true_and]) | (refine outP_l ?_ h; simp only [sfV, *, if_true, if_false, reduceIte, eq_self, not_false_eq_true, not_true_eq_false, and_self, and_true, true_and]; done) | (refine outP_r ?_; simp only [sfV, *, if_true, if_false, reduceIte, eq_self, not_false_eq_true, not_true_eq_false, and_self, and_true, true_and]; done))
        · refine q_iconst (v := 1) dX7_judge_65 (by decide) ?_
          refine q_goto 70 dX7_judge_66 (by decide) ?_
          refine q_callSU ⟨RX7, "verdict", "(Z)I"⟩ dX7_judge_70 us_X7_40 us_X7_sm rfl us_st (c_X2_verdict l G _ _) rfl np_X2_verdict (by decide) (by decide) (by decide) (Nat.le_of_ble_eq_true rfl) (kI (fun r Z1 h => ?_))
          obtain ⟨rfl, rfl⟩ := h
          first | rw [if_neg (show ¬ (1 : Int32) = 0 by decide)] | rw [if_pos (show (0 : Int32) = 0 from rfl)]
          exact q_ireturn dX7_judge_73 rfl (by decide) (by decide) (by first | (subst c159; exact outP_l (nfV_d n0 n1 n2 n4) h) | exact outP_l (by simp only [nfV_0, nfV_1, nfV_2, nfV_3, nfV_4, sfV_3, sfV_0, *, if_true, if_false, reduceIte, eq_self, not_false_eq_true, not_true_eq_false, and_self, and_true, true_and]) h | exact outP_r (by simp only [nfV_0, nfV_1, nfV_2, nfV_3, nfV_4, sfV_3, sfV_0, *, if_true, if_false, reduceIte, eq_self, not_false_eq_true, not_true_eq_false, and_self, and_true, true_and]) | (refine outP_l ?_ h; simp only [sfV, *, if_true, if_false, reduceIte, eq_self, not_false_eq_true, not_true_eq_false, and_self, and_true, true_and]; done) | (refine outP_r ?_; simp only [sfV, *, if_true, if_false, reduceIte, eq_self, not_false_eq_true, not_true_eq_false, and_self, and_true, true_and]; done))
    · first | refine q_aload_n dX7_judge_34 rfl ?_ | refine q_aload_nN dX7_judge_34 rfl ?_
      refine q_iconst (v := 5) dX7_judge_35 (by decide) ?_
      first | refine q_aload_n dX7_judge_36 rfl ?_ | refine q_aload_nN dX7_judge_36 rfl ?_
      refine q_getf dX7_judge_37 fk_X7_28_6 (by first | assumption | (simp only [zK_sF, zK_sI, zK_sJ, zK_sR]; assumption)) (by first | assumption | (simp only [zF_sF, zF_sI, zF_sJ, zF_sR, true_and, and_true, false_and, and_false, if_true, if_false, eq_self, reduceIte, Nat.reduceEqDiff, OfNat.ofNat_ne_zero, OfNat.zero_ne_ofNat, OfNat.ofNat_ne_one, OfNat.one_ne_ofNat, reduceCtorEq]; first | rfl | assumption)) ?_
      refine q_callV 9 dX7_judge_40 mk_X7_31 rfl (by first | assumption | (simp only [zK_sF, zK_sI, zK_sJ, zK_sR]; assumption)) (c_X10_fail l G _ t fl 5 nm hKt hf) rfl np_X10_fail (by decide) (by decide) (by decide) (Nat.le_of_ble_eq_true rfl) (kI (fun r Z1 h => ?_))
      exact q_ireturn dX7_judge_43 rfl (by decide) (by decide) (by first | (subst c159; exact outP_l (nfV_d n0 n1 n2 n4) h) | exact outP_l (by simp only [nfV_0, nfV_1, nfV_2, nfV_3, nfV_4, sfV_3, sfV_0, *, if_true, if_false, reduceIte, eq_self, not_false_eq_true, not_true_eq_false, and_self, and_true, true_and]) h | exact outP_r (by simp only [nfV_0, nfV_1, nfV_2, nfV_3, nfV_4, sfV_3, sfV_0, *, if_true, if_false, reduceIte, eq_self, not_false_eq_true, not_true_eq_false, and_self, and_true, true_and]) | (refine outP_l ?_ h; simp only [sfV, *, if_true, if_false, reduceIte, eq_self, not_false_eq_true, not_true_eq_false, and_self, and_true, true_and]; done) | (refine outP_r ?_; simp only [sfV, *, if_true, if_false, reduceIte, eq_self, not_false_eq_true, not_true_eq_false, and_self, and_true, true_and]; done))
  · first | refine q_aload_n dX7_judge_10 rfl ?_ | refine q_aload_nN dX7_judge_10 rfl ?_
    refine q_iconst (v := 1) dX7_judge_11 (by decide) ?_
    first | refine q_aload_n dX7_judge_12 rfl ?_ | refine q_aload_nN dX7_judge_12 rfl ?_
    refine q_getf dX7_judge_13 fk_X7_28_6 (by first | assumption | (simp only [zK_sF, zK_sI, zK_sJ, zK_sR]; assumption)) (by first | assumption | (simp only [zF_sF, zF_sI, zF_sJ, zF_sR, true_and, and_true, false_and, and_false, if_true, if_false, eq_self, reduceIte, Nat.reduceEqDiff, OfNat.ofNat_ne_zero, OfNat.zero_ne_ofNat, OfNat.ofNat_ne_one, OfNat.one_ne_ofNat, reduceCtorEq]; first | rfl | assumption)) ?_
    refine q_callV 9 dX7_judge_16 mk_X7_31 rfl (by first | assumption | (simp only [zK_sF, zK_sI, zK_sJ, zK_sR]; assumption)) (c_X10_fail l G _ t fl 1 nm hKt hf) rfl np_X10_fail (by decide) (by decide) (by decide) (Nat.le_of_ble_eq_true rfl) (kI (fun r Z1 h => ?_))
    exact q_ireturn dX7_judge_19 rfl (by decide) (by decide) (by first | (subst c159; exact outP_l (nfV_d n0 n1 n2 n4) h) | exact outP_l (by simp only [nfV_0, nfV_1, nfV_2, nfV_3, nfV_4, sfV_3, sfV_0, *, if_true, if_false, reduceIte, eq_self, not_false_eq_true, not_true_eq_false, and_self, and_true, true_and]) h | exact outP_r (by simp only [nfV_0, nfV_1, nfV_2, nfV_3, nfV_4, sfV_3, sfV_0, *, if_true, if_false, reduceIte, eq_self, not_false_eq_true, not_true_eq_false, and_self, and_true, true_and]) | (refine outP_l ?_ h; simp only [sfV, *, if_true, if_false, reduceIte, eq_self, not_false_eq_true, not_true_eq_false, and_self, and_true, true_and]; done) | (refine outP_r ?_; simp only [sfV, *, if_true, if_false, reduceIte, eq_self, not_false_eq_true, not_true_eq_false, and_self, and_true, true_and]; done))
set_option maxHeartbeats 600000 in
set_option maxRecDepth 100000 in
theorem c_X1_thingFor (l : Launch) (G : Gt) (Z : Zt) (c : Int64) : Ct l G YX1_thingFor (0, 0, 0) Z [.long c] (ΦI (fun r Z1 => Z1 = Z ∧ r = thF c)) := by
  refine ct_of [some (.long c), none, none, none] (by decide +kernel) (Nat.le_of_ble_eq_true rfl) rfl (fun M => ?_)
  refine q_lload_n dX1_thingFor_0 rfl ?_
  refine q_ldc2 dX1_thingFor_1 kl_X1_38 ?_
  refine q_lrem dX1_thingFor_4 (by decide) ?_
  refine q_lstore_n (ls' := [_, _, _, _]) dX1_thingFor_5 rfl rfl (Nat.le_of_ble_eq_true rfl) (by decide) ?_
  refine q_lload_n dX1_thingFor_6 rfl ?_
  refine q_lconst (v := 0) dX1_thingFor_7 (by decide) ?_
  refine q_lcmp_ne 14 dX1_thingFor_8 dX1_thingFor_9 (by decide) (fun c8 => ?_) (fun c8 => ?_)
  · refine q_lload_n dX1_thingFor_14 rfl ?_
    refine q_lconst (v := 1) dX1_thingFor_15 (by decide) ?_
    refine q_lcmp_ne 24 dX1_thingFor_16 dX1_thingFor_17 (by decide) (fun c16 => ?_) (fun c16 => ?_)
    · refine q_iconst (v := 1) dX1_thingFor_24 (by decide) ?_
      exact q_ireturn dX1_thingFor_25 rfl (by decide) (by decide) (by refine ⟨rfl, ?_⟩; first | (rw [thF, if_pos c8]; done) | (rw [thF, if_neg c8, if_pos c16]; done) | (rw [thF, if_neg c8, if_neg c16]; done) | simp only [thF, *, if_true, if_false, reduceIte, eq_self, not_false_eq_true, not_true_eq_false, and_self, and_true, true_and])
    · refine q_iconst (v := 3) dX1_thingFor_20 (by decide) ?_
      refine q_goto 25 dX1_thingFor_21 (by decide) ?_
      exact q_ireturn dX1_thingFor_25 rfl (by decide) (by decide) (by refine ⟨rfl, ?_⟩; first | (rw [thF, if_pos c8]; done) | (rw [thF, if_neg c8, if_pos c16]; done) | (rw [thF, if_neg c8, if_neg c16]; done) | simp only [thF, *, if_true, if_false, reduceIte, eq_self, not_false_eq_true, not_true_eq_false, and_self, and_true, true_and])
  · refine q_iconst (v := 2) dX1_thingFor_12 (by decide) ?_
    exact q_ireturn dX1_thingFor_13 rfl (by decide) (by decide) (by refine ⟨rfl, ?_⟩; first | (rw [thF, if_pos c8]; done) | (rw [thF, if_neg c8, if_pos c16]; done) | (rw [thF, if_neg c8, if_neg c16]; done) | simp only [thF, *, if_true, if_false, reduceIte, eq_self, not_false_eq_true, not_true_eq_false, and_self, and_true, true_and])
set_option maxHeartbeats 600000 in
set_option maxRecDepth 100000 in
theorem c_X1_judge (l : Launch) (G : Gt) (Z : Zt) (a t hb tg : Nat) (nm nb it fl : Int32) (c : Int64) (hK : zK Z a = 2) (h0 : zF Z 0 a = .int nm) (h2 : zF Z 2 a = .ref hb) (h3 : zF Z 3 a = .int it) (hKb : zK Z hb = 1) (b0 : zF Z 0 hb = .ref tg) (b1 : zF Z 1 hb = .int nb) (hKg : zK Z tg = 20) (hLg : zL Z tg = 3) (hi : vp_in it 3) (hi0 : ¬ it < 0) (hi3 : ¬ 3 ≤ it) (hKt : zK Z t = 10) (hf : zF Z 4 t = .int fl) : Ct l G YX1_judge (2, 0, 0) Z [.ref a, .long c, .ref t] (ΦI (fun r Z1 => ((if nb = 0 then thF c = 1 ∨ thF c = 2 else if nb = 1 then thF c = 2 else True) → r = 1 ∧ Z1 = sI Z tg it.toNatClampNeg (thF c)) ∧ (¬ (if nb = 0 then thF c = 1 ∨ thF c = 2 else if nb = 1 then thF c = 2 else True) → failP Z Z1 t fl nm 4 r))) := by
  refine ct_of [some (.ref a), some (.long c), none, some (.ref t)] (by decide +kernel) (Nat.le_of_ble_eq_true rfl) rfl (fun M => ?_)
  first | refine q_aload_n dX1_judge_0 rfl ?_ | refine q_aload_nN dX1_judge_0 rfl ?_
  refine q_getf dX1_judge_1 fk_X1_9_1 (by first | assumption | (simp only [zK_sF, zK_sI, zK_sJ, zK_sR]; assumption)) (by first | assumption | (simp only [zF_sF, zF_sI, zF_sJ, zF_sR, true_and, and_true, false_and, and_false, if_true, if_false, eq_self, reduceIte, Nat.reduceEqDiff, OfNat.ofNat_ne_zero, OfNat.zero_ne_ofNat, OfNat.ofNat_ne_one, OfNat.one_ne_ofNat, reduceCtorEq]; first | rfl | assumption)) ?_
  first | refine q_aload_n dX1_judge_4 rfl ?_ | refine q_aload_nN dX1_judge_4 rfl ?_
  refine q_getf dX1_judge_5 fk_X1_15_1 (by first | assumption | (simp only [zK_sF, zK_sI, zK_sJ, zK_sR]; assumption)) (by first | assumption | (simp only [zF_sF, zF_sI, zF_sJ, zF_sR, true_and, and_true, false_and, and_false, if_true, if_false, eq_self, reduceIte, Nat.reduceEqDiff, OfNat.ofNat_ne_zero, OfNat.zero_ne_ofNat, OfNat.ofNat_ne_one, OfNat.one_ne_ofNat, reduceCtorEq]; first | rfl | assumption)) ?_
  refine q_lload_n dX1_judge_8 rfl ?_
  refine q_callS dX1_judge_9 mk_X1_19 (c_X1_thingFor l G _ c) rfl np_X1_thingFor (by decide) (by decide) (by decide) (Nat.le_of_ble_eq_true rfl) (kI (fun r Z1 h => ?_))
  obtain ⟨rfl, rfl⟩ := h
  refine q_callV 0 dX1_judge_12 mk_X1_23 rfl (by first | assumption | (simp only [zK_sF, zK_sI, zK_sJ, zK_sR]; assumption)) (c_X0_put l G _ hb tg nb it (thF c) hKb b1 b0 hKg hLg hi hi0 hi3) rfl np_X0_put (by decide) (by decide) (by decide) (Nat.le_of_ble_eq_true rfl) (kI (fun r Z1 h => ?_))
  refine q_if_eq 22 dX1_judge_15 (by decide) (fun c15 => ?_) (fun c15 => ?_)
  · have hp : ¬ (if nb = 0 then thF c = 1 ∨ thF c = 2 else if nb = 1 then thF c = 2 else True) := fun z => absurd ((h.1 z).1.symm.trans c15) (by decide)
    obtain ⟨rfl, rfl⟩ := h.2 hp
    first | refine q_aload_n dX1_judge_22 rfl ?_ | refine q_aload_nN dX1_judge_22 rfl ?_
    refine q_iconst (v := 4) dX1_judge_23 (by decide) ?_
    first | refine q_aload_n dX1_judge_24 rfl ?_ | refine q_aload_nN dX1_judge_24 rfl ?_
    refine q_getf dX1_judge_25 fk_X1_29_1 (by first | assumption | (simp only [zK_sF, zK_sI, zK_sJ, zK_sR]; assumption)) (by first | assumption | (simp only [zF_sF, zF_sI, zF_sJ, zF_sR, true_and, and_true, false_and, and_false, if_true, if_false, eq_self, reduceIte, Nat.reduceEqDiff, OfNat.ofNat_ne_zero, OfNat.zero_ne_ofNat, OfNat.ofNat_ne_one, OfNat.one_ne_ofNat, reduceCtorEq]; first | rfl | assumption)) ?_
    refine q_callV 9 dX1_judge_28 mk_X1_32 rfl (by first | assumption | (simp only [zK_sF, zK_sI, zK_sJ, zK_sR]; assumption)) (c_X10_fail l G _ t fl 4 nm hKt hf) rfl np_X10_fail (by decide) (by decide) (by decide) (Nat.le_of_ble_eq_true rfl) (kI (fun r Z2 h5 => ?_))
    exact q_ireturn dX1_judge_31 rfl (by decide) (by decide) (by first | exact ⟨fun _ => ⟨rfl, rfl⟩, fun z => absurd hp z⟩ | exact ⟨fun z => absurd z hp, fun _ => h5⟩)
  · have hp : (if nb = 0 then thF c = 1 ∨ thF c = 2 else if nb = 1 then thF c = 2 else True) := Classical.byContradiction fun z => c15 (h.2 z).1
    obtain ⟨rfl, rfl⟩ := h.1 hp
    refine q_iconst (v := 1) dX1_judge_18 (by decide) ?_
    refine q_goto 31 dX1_judge_19 (by decide) ?_
    exact q_ireturn dX1_judge_31 rfl (by decide) (by decide) (by first | exact ⟨fun _ => ⟨rfl, rfl⟩, fun z => absurd hp z⟩ | exact ⟨fun z => absurd z hp, fun _ => h5⟩)
set_option maxHeartbeats 600000 in
set_option maxRecDepth 100000 in
theorem c_X1_init (l : Launch) (G : Gt) (Z : Zt) (a hb : Nat) (n it : Int32) (hK : zK Z a = 2) : Ct l G YX1_init (2, 0, 0) Z [.ref a, .int n, .ref hb, .int it] (ΦV (fun Z1 => Z1 = sF (sF (sF (sF Z 0 a (.int n)) 1 a (.int 1)) 2 a (.ref hb)) 3 a (.int it))) := by
  refine ct_of [some (.ref a), some (.int n), some (.ref hb), some (.int it)] (by decide +kernel) (Nat.le_of_ble_eq_true rfl) rfl (fun M => ?_)
  first | refine q_aload_n dX1_init_0 rfl ?_ | refine q_aload_nN dX1_init_0 rfl ?_
  refine q_iload_n dX1_init_1 rfl ?_
  refine q_iconst (v := 1) dX1_init_2 (by decide) ?_
  refine q_callI dX1_init_3 mk_X1_3 rfl (c_X2_init_1 l G _ a n 1 hK) rfl np_X2_init (by decide) (by decide) (by decide) (Nat.le_of_ble_eq_true rfl) (kV (fun Z1 h => ?_))
  subst h
  first | refine q_aload_n dX1_init_6 rfl ?_ | refine q_aload_nN dX1_init_6 rfl ?_
  first | refine q_aload_n dX1_init_7 rfl ?_ | refine q_aload_nN dX1_init_7 rfl ?_
  refine q_putF dX1_init_8 fk_X1_9_1 rfl rfl rfl (by first | assumption | (simp only [zK_sF, zK_sI, zK_sJ, zK_sR]; assumption)) rfl rfl ?_
  first | refine q_aload_n dX1_init_11 rfl ?_ | refine q_aload_nN dX1_init_11 rfl ?_
  refine q_iload_n dX1_init_12 rfl ?_
  refine q_putF dX1_init_13 fk_X1_15_1 rfl rfl rfl (by first | assumption | (simp only [zK_sF, zK_sI, zK_sJ, zK_sR]; assumption)) rfl rfl ?_
  exact q_return dX1_init_16 rfl (by decide) (by decide) rfl
set_option maxHeartbeats 600000 in
set_option maxRecDepth 100000 in
theorem c_X4_init (l : Launch) (G : Gt) (Z : Zt) (a : Nat) (n kd ai : Int32) (v : Int64) (hK : zK Z a = 4) : Ct l G YX4_init (2, 0, 0) Z [.ref a, .int n, .int kd, .int ai, .long v] (ΦV (fun Z1 => Z1 = sF (sF (sF (sF (sF Z 0 a (.int n)) 1 a (.int 1)) 2 a (.int kd)) 3 a (.int ai)) 4 a (.long v))) := by
  refine ct_of [some (.ref a), some (.int n), some (.int kd), some (.int ai), some (.long v), none] (by decide +kernel) (Nat.le_of_ble_eq_true rfl) rfl (fun M => ?_)
  first | refine q_aload_n dX4_init_0 rfl ?_ | refine q_aload_nN dX4_init_0 rfl ?_
  refine q_iload_n dX4_init_1 rfl ?_
  refine q_iconst (v := 1) dX4_init_2 (by decide) ?_
  refine q_callI dX4_init_3 mk_X4_3 rfl (c_X2_init_3 l G _ a n 1 hK) rfl np_X2_init (by decide) (by decide) (by decide) (Nat.le_of_ble_eq_true rfl) (kV (fun Z1 h => ?_))
  subst h
  first | refine q_aload_n dX4_init_6 rfl ?_ | refine q_aload_nN dX4_init_6 rfl ?_
  refine q_iload_n dX4_init_7 rfl ?_
  refine q_putF dX4_init_8 fk_X4_9_3 rfl rfl rfl (by first | assumption | (simp only [zK_sF, zK_sI, zK_sJ, zK_sR]; assumption)) rfl rfl ?_
  first | refine q_aload_n dX4_init_11 rfl ?_ | refine q_aload_nN dX4_init_11 rfl ?_
  refine q_iload_n dX4_init_12 rfl ?_
  refine q_putF dX4_init_13 fk_X4_15_3 rfl rfl rfl (by first | assumption | (simp only [zK_sF, zK_sI, zK_sJ, zK_sR]; assumption)) rfl rfl ?_
  first | refine q_aload_n dX4_init_16 rfl ?_ | refine q_aload_nN dX4_init_16 rfl ?_
  refine q_lload dX4_init_17 rfl ?_
  refine q_putF dX4_init_19 fk_X4_18_3 rfl rfl rfl (by first | assumption | (simp only [zK_sF, zK_sI, zK_sJ, zK_sR]; assumption)) rfl rfl ?_
  exact q_return dX4_init_22 rfl (by decide) (by decide) rfl
set_option maxHeartbeats 600000 in
set_option maxRecDepth 100000 in
theorem c_X7_init (l : Launch) (G : Gt) (Z : Zt) (a hs : Nat) (n wt : Int32) (v : Int64) (hK : zK Z a = 7) : Ct l G YX7_init (2, 0, 0) Z [.ref a, .int n, .ref hs, .int wt, .long v] (ΦV (fun Z1 => Z1 = sF (sF (sF (sF (sF Z 0 a (.int n)) 1 a (.int 1)) 2 a (.ref hs)) 3 a (.int wt)) 4 a (.long v))) := by
  refine ct_of [some (.ref a), some (.int n), some (.ref hs), some (.int wt), some (.long v), none] (by decide +kernel) (Nat.le_of_ble_eq_true rfl) rfl (fun M => ?_)
  first | refine q_aload_n dX7_init_0 rfl ?_ | refine q_aload_nN dX7_init_0 rfl ?_
  refine q_iload_n dX7_init_1 rfl ?_
  refine q_iconst (v := 1) dX7_init_2 (by decide) ?_
  refine q_callI dX7_init_3 mk_X7_3 rfl (c_X2_init_6 l G _ a n 1 hK) rfl np_X2_init (by decide) (by decide) (by decide) (Nat.le_of_ble_eq_true rfl) (kV (fun Z1 h => ?_))
  subst h
  first | refine q_aload_n dX7_init_6 rfl ?_ | refine q_aload_nN dX7_init_6 rfl ?_
  first | refine q_aload_n dX7_init_7 rfl ?_ | refine q_aload_nN dX7_init_7 rfl ?_
  refine q_putF dX7_init_8 fk_X7_9_6 rfl rfl rfl (by first | assumption | (simp only [zK_sF, zK_sI, zK_sJ, zK_sR]; assumption)) rfl rfl ?_
  first | refine q_aload_n dX7_init_11 rfl ?_ | refine q_aload_nN dX7_init_11 rfl ?_
  refine q_iload_n dX7_init_12 rfl ?_
  refine q_putF dX7_init_13 fk_X7_15_6 rfl rfl rfl (by first | assumption | (simp only [zK_sF, zK_sI, zK_sJ, zK_sR]; assumption)) rfl rfl ?_
  first | refine q_aload_n dX7_init_16 rfl ?_ | refine q_aload_nN dX7_init_16 rfl ?_
  refine q_lload dX7_init_17 rfl ?_
  refine q_putF dX7_init_19 fk_X7_19_6 rfl rfl rfl (by first | assumption | (simp only [zK_sF, zK_sI, zK_sJ, zK_sR]; assumption)) rfl rfl ?_
  exact q_return dX7_init_22 rfl (by decide) (by decide) rfl
set_option maxHeartbeats 600000 in
set_option maxRecDepth 100000 in
theorem c_X3_init_two (l : Launch) (G : Gt) (Z : Zt) (a fa fb cf cs : Nat) (n kd df ds : Int32) (hK : zK Z a = 3) (hcf : fOK RX3 1 cf 1) (hKf : zK Z fa = cf + 1) (hdf : zF Z 1 fa = .int df) (hcs : fOK RX3 1 cs 1) (hKs : zK Z fb = cs + 1) (hds : zF Z 1 fb = .int ds) : Ct l G YX3_init (2, 0, 0) Z [.ref a, .int n, .int kd, .ref fa, .ref fb] (ΦV (fun Z1 => Z1 = sF (sF (sF (sF (sF Z 0 a (.int n)) 1 a (.int (1 + if df < ds then ds else df))) 2 a (.int kd)) 3 a (.ref fa)) 4 a (.ref fb))) := by
  refine ct_of [some (.ref a), some (.int n), some (.int kd), some (.ref fa), some (.ref fb)] (by decide +kernel) (Nat.le_of_ble_eq_true rfl) rfl (fun M => ?_)
  first | refine q_aload_n dX3_init_0 rfl ?_ | refine q_aload_nN dX3_init_0 rfl ?_
  refine q_iload_n dX3_init_1 rfl ?_
  refine q_iconst (v := 1) dX3_init_2 (by decide) ?_
  first | refine q_aload_n dX3_init_3 rfl ?_ | refine q_aload_nN dX3_init_3 rfl ?_
  refine q_getf dX3_init_4 hcf hKf hdf ?_
  first | refine q_aload dX3_init_7 rfl ?_ | refine q_aloadN dX3_init_7 rfl ?_
  refine q_ifnonnull 16 dX3_init_9 (by decide) ?_
  first | refine q_aload dX3_init_16 rfl ?_ | refine q_aloadN dX3_init_16 rfl ?_
  refine q_getf dX3_init_18 hcs hKs hds ?_
  refine q_mmax dX3_init_21 mk_X3_7 (by decide) (Nat.le_of_ble_eq_true rfl) (by decide) (by decide) ?_
  refine q_iadd dX3_init_24 ?_
  refine q_callI dX3_init_25 mk_X3_13 rfl (c_X2_init_2 l G _ a n _ hK) rfl np_X2_init (by decide) (by decide) (by decide) (Nat.le_of_ble_eq_true rfl) (kV (fun Z1 h => ?_))
  subst h
  first | refine q_aload_n dX3_init_28 rfl ?_ | refine q_aload_nN dX3_init_28 rfl ?_
  refine q_iload_n dX3_init_29 rfl ?_
  refine q_putF dX3_init_30 fk_X3_17_2 rfl rfl rfl (by first | assumption | (simp only [zK_sF, zK_sI, zK_sJ, zK_sR]; assumption)) rfl rfl ?_
  first | refine q_aload_n dX3_init_33 rfl ?_ | refine q_aload_nN dX3_init_33 rfl ?_
  first | refine q_aload_n dX3_init_34 rfl ?_ | refine q_aload_nN dX3_init_34 rfl ?_
  refine q_putF dX3_init_35 fk_X3_22_2 rfl rfl rfl (by first | assumption | (simp only [zK_sF, zK_sI, zK_sJ, zK_sR]; assumption)) rfl rfl ?_
  first | refine q_aload_n dX3_init_38 rfl ?_ | refine q_aload_nN dX3_init_38 rfl ?_
  first | refine q_aload dX3_init_39 rfl ?_ | refine q_aloadN dX3_init_39 rfl ?_
  refine q_putF dX3_init_41 fk_X3_26_2 rfl rfl rfl (by first | assumption | (simp only [zK_sF, zK_sI, zK_sJ, zK_sR]; assumption)) rfl rfl ?_
  exact q_return dX3_init_44 rfl (by decide) (by decide) rfl
set_option maxHeartbeats 600000 in
set_option maxRecDepth 100000 in
theorem c_X3_init_one (l : Launch) (G : Gt) (Z : Zt) (a fa cf : Nat) (n kd df : Int32) (hK : zK Z a = 3) (hcf : fOK RX3 1 cf 1) (hKf : zK Z fa = cf + 1) (hdf : zF Z 1 fa = .int df) : Ct l G YX3_init (2, 0, 0) Z [.ref a, .int n, .int kd, .ref fa, .null] (ΦV (fun Z1 => Z1 = sF (sF (sF (sF (sF Z 0 a (.int n)) 1 a (.int (1 + if df < 0 then 0 else df))) 2 a (.int kd)) 3 a (.ref fa)) 4 a .null)) := by
  refine ct_of [some (.ref a), some (.int n), some (.int kd), some (.ref fa), some (.null)] (by decide +kernel) (Nat.le_of_ble_eq_true rfl) rfl (fun M => ?_)
  first | refine q_aload_n dX3_init_0 rfl ?_ | refine q_aload_nN dX3_init_0 rfl ?_
  refine q_iload_n dX3_init_1 rfl ?_
  refine q_iconst (v := 1) dX3_init_2 (by decide) ?_
  first | refine q_aload_n dX3_init_3 rfl ?_ | refine q_aload_nN dX3_init_3 rfl ?_
  refine q_getf dX3_init_4 hcf hKf hdf ?_
  first | refine q_aload dX3_init_7 rfl ?_ | refine q_aloadN dX3_init_7 rfl ?_
  refine q_ifnonnullN dX3_init_9 ?_
  refine q_iconst (v := 0) dX3_init_12 (by decide) ?_
  refine q_goto 21 dX3_init_13 (by decide) ?_
  refine q_mmax dX3_init_21 mk_X3_7 (by decide) (Nat.le_of_ble_eq_true rfl) (by decide) (by decide) ?_
  refine q_iadd dX3_init_24 ?_
  refine q_callI dX3_init_25 mk_X3_13 rfl (c_X2_init_2 l G _ a n _ hK) rfl np_X2_init (by decide) (by decide) (by decide) (Nat.le_of_ble_eq_true rfl) (kV (fun Z1 h => ?_))
  subst h
  first | refine q_aload_n dX3_init_28 rfl ?_ | refine q_aload_nN dX3_init_28 rfl ?_
  refine q_iload_n dX3_init_29 rfl ?_
  refine q_putF dX3_init_30 fk_X3_17_2 rfl rfl rfl (by first | assumption | (simp only [zK_sF, zK_sI, zK_sJ, zK_sR]; assumption)) rfl rfl ?_
  first | refine q_aload_n dX3_init_33 rfl ?_ | refine q_aload_nN dX3_init_33 rfl ?_
  first | refine q_aload_n dX3_init_34 rfl ?_ | refine q_aload_nN dX3_init_34 rfl ?_
  refine q_putF dX3_init_35 fk_X3_22_2 rfl rfl rfl (by first | assumption | (simp only [zK_sF, zK_sI, zK_sJ, zK_sR]; assumption)) rfl rfl ?_
  first | refine q_aload_n dX3_init_38 rfl ?_ | refine q_aload_nN dX3_init_38 rfl ?_
  first | refine q_aload dX3_init_39 rfl ?_ | refine q_aloadN dX3_init_39 rfl ?_
  refine q_putF dX3_init_41 fk_X3_26_2 rfl rfl rfl (by first | assumption | (simp only [zK_sF, zK_sI, zK_sJ, zK_sR]; assumption)) rfl rfl ?_
  exact q_return dX3_init_44 rfl (by decide) (by decide) rfl
set_option maxHeartbeats 600000 in
set_option maxRecDepth 100000 in
theorem c_X3_leavesItToSecond (l : Launch) (G : Gt) (Z : Zt) (a : Nat) (kd v : Int32) (hK : zK Z a = 3) (h2 : zF Z 2 a = .int kd) : Ct l G YX3_leavesItToSecond (1, 0, 0) Z [.ref a, .int v] (ΦI (fun r Z1 => Z1 = Z ∧ rb r (if kd = 8 then v = 1 else if kd = 9 then v = 0 else ¬ 0 ≤ v ∧ ¬ v = -18))) := by
  refine ct_of [some (.ref a), some (.int v)] (by decide +kernel) (Nat.le_of_ble_eq_true rfl) rfl (fun M => ?_)
  first | refine q_aload_n dX3_leavesItToSecond_0 rfl ?_ | refine q_aload_nN dX3_leavesItToSecond_0 rfl ?_
  refine q_getf dX3_leavesItToSecond_1 fk_X3_17_2 (by first | assumption | (simp only [zK_sF, zK_sI, zK_sJ, zK_sR]; assumption)) (by first | assumption | (simp only [zF_sF, zF_sI, zF_sJ, zF_sR, true_and, and_true, false_and, and_false, if_true, if_false, eq_self, reduceIte, Nat.reduceEqDiff, OfNat.ofNat_ne_zero, OfNat.zero_ne_ofNat, OfNat.ofNat_ne_one, OfNat.one_ne_ofNat, reduceCtorEq]; first | rfl | assumption)) ?_
  refine q_lsw [(8, 32), (9, 43)] 53 dX3_leavesItToSecond_4 (by decide) (by decide) (by decide) (fun q hq c4 => ?_) (fun c4 => ?_)
  · rcases List.mem_cons.mp hq with rfl | hq
    · dsimp only at c4 ⊢
      subst c4
      refine q_iload_n dX3_leavesItToSecond_32 rfl ?_
      refine q_iconst (v := 1) dX3_leavesItToSecond_33 (by decide) ?_
      refine q_icmp_ne 41 dX3_leavesItToSecond_34 (by decide) (fun c34 => ?_) (fun c34 => ?_)
      · refine q_iconst (v := 0) dX3_leavesItToSecond_41 (by decide) ?_
        exact q_zreturn dX3_leavesItToSecond_42 rfl rfl (by decide) (by decide) (by first | exact ⟨rfl, rb_1 (by simp_all)⟩ | exact ⟨rfl, rb_0 (by simp_all)⟩)
      · refine q_iconst (v := 1) dX3_leavesItToSecond_37 (by decide) ?_
        refine q_goto 42 dX3_leavesItToSecond_38 (by decide) ?_
        exact q_zreturn dX3_leavesItToSecond_42 rfl rfl (by decide) (by decide) (by first | exact ⟨rfl, rb_1 (by simp_all)⟩ | exact ⟨rfl, rb_0 (by simp_all)⟩)
    rcases List.mem_cons.mp hq with rfl | hq
    · dsimp only at c4 ⊢
      subst c4
      refine q_iload_n dX3_leavesItToSecond_43 rfl ?_
      refine q_if_ne 51 dX3_leavesItToSecond_44 (by decide) (fun c44 => ?_) (fun c44 => ?_)
      · refine q_iconst (v := 0) dX3_leavesItToSecond_51 (by decide) ?_
        exact q_zreturn dX3_leavesItToSecond_52 rfl rfl (by decide) (by decide) (by first | exact ⟨rfl, rb_1 (by simp_all)⟩ | exact ⟨rfl, rb_0 (by simp_all)⟩)
      · refine q_iconst (v := 1) dX3_leavesItToSecond_47 (by decide) ?_
        refine q_goto 52 dX3_leavesItToSecond_48 (by decide) ?_
        exact q_zreturn dX3_leavesItToSecond_52 rfl rfl (by decide) (by decide) (by first | exact ⟨rfl, rb_1 (by simp_all)⟩ | exact ⟨rfl, rb_0 (by simp_all)⟩)
    exact absurd hq List.not_mem_nil
  · have n8 : ¬ kd = 8 := c4 (8, 32) (by simp)
    have n9 : ¬ kd = 9 := c4 (9, 43) (by simp)
    refine q_iload_n dX3_leavesItToSecond_53 rfl ?_
    refine q_callS dX3_leavesItToSecond_54 mk_X3_40 (c_X10_canBeMet l G _ v) rfl np_X10_canBeMet (by decide) (by decide) (by decide) (Nat.le_of_ble_eq_true rfl) (kI (fun r Z1 h => ?_))
    exact q_zreturn dX3_leavesItToSecond_57 rfl (by rcases rb_z h.2 with e | e <;> rw [e] <;> rfl) (by decide) (by decide) (by rw [if_neg n8, if_neg n9]; exact h)
set_option maxHeartbeats 600000 in
set_option maxRecDepth 100000 in
theorem c_X3_timesAsked (l : Launch) (G : Gt) (Z : Zt) (a : Nat) (kd ta : Int32) (hK : zK Z a = 3) (h2 : zF Z 2 a = .int kd) (h5 : zF Z 5 a = .int ta) : Ct l G YX3_timesAsked (0, 0, 0) Z [.ref a] (ΦI (fun r Z1 => Z1 = Z ∧ r = if kd = 11 then ta else 0)) := by
  refine ct_of [some (.ref a)] (by decide +kernel) (Nat.le_of_ble_eq_true rfl) rfl (fun M => ?_)
  first | refine q_aload_n dX3_timesAsked_0 rfl ?_ | refine q_aload_nN dX3_timesAsked_0 rfl ?_
  refine q_getf dX3_timesAsked_1 fk_X3_17_2 (by first | assumption | (simp only [zK_sF, zK_sI, zK_sJ, zK_sR]; assumption)) (by first | assumption | (simp only [zF_sF, zF_sI, zF_sJ, zF_sR, true_and, and_true, false_and, and_false, if_true, if_false, eq_self, reduceIte, Nat.reduceEqDiff, OfNat.ofNat_ne_zero, OfNat.zero_ne_ofNat, OfNat.ofNat_ne_one, OfNat.one_ne_ofNat, reduceCtorEq]; first | rfl | assumption)) ?_
  refine q_bipush (v := 11) dX3_timesAsked_4 (by decide) ?_
  refine q_icmp_ne 16 dX3_timesAsked_6 (by decide) (fun c6 => ?_) (fun c6 => ?_)
  · refine q_iconst (v := 0) dX3_timesAsked_16 (by decide) ?_
    exact q_ireturn dX3_timesAsked_17 rfl (by decide) (by decide) (by simp_all)
  · first | refine q_aload_n dX3_timesAsked_9 rfl ?_ | refine q_aload_nN dX3_timesAsked_9 rfl ?_
    refine q_getf dX3_timesAsked_10 fk_X3_29_2 (by first | assumption | (simp only [zK_sF, zK_sI, zK_sJ, zK_sR]; assumption)) (by first | assumption | (simp only [zF_sF, zF_sI, zF_sJ, zF_sR, true_and, and_true, false_and, and_false, if_true, if_false, eq_self, reduceIte, Nat.reduceEqDiff, OfNat.ofNat_ne_zero, OfNat.zero_ne_ofNat, OfNat.ofNat_ne_one, OfNat.one_ne_ofNat, reduceCtorEq]; first | rfl | assumption)) ?_
    refine q_goto 17 dX3_timesAsked_13 (by decide) ?_
    exact q_ireturn dX3_timesAsked_17 rfl (by decide) (by decide) (by simp_all)
