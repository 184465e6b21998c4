set_option maxHeartbeats 600000 in
set_option maxRecDepth 100000 in
theorem c_X4_judge_b (l : Launch) (G : Gt) (Z : Zt) (b : Nat) (a t : Nat) (nm kd ai fl : Int32) (v c : Int64) (hK : zK Z a = 4) (h0 : zF Z 0 a = .int nm) (h2 : zF Z 2 a = .int kd) (h3 : zF Z 3 a = .int ai) (h4 : zF Z 4 a = .long v) (hKt : zK Z t = 10) (hf : zF Z 4 t = .int fl) : Ct l G YX4_judge (b + 2, 0, 0) Z [.ref a, .long c, .ref t] (ΦI (fun r Z1 => outP Z Z1 t fl nm r (nfV kd ai v c))) := by
  refine ct_of [some (.ref a), some (.long c), none, some (.ref t)] (by decide +kernel) (Nat.le_of_ble_eq_true rfl) rfl (fun M => ?_)
  first | refine q_aload_n dX4_judge_0 rfl ?_ | refine q_aload_nN dX4_judge_0 rfl ?_
  refine q_getf dX4_judge_1 fk_X4_9_3 (by first | assumption | (simp only [zK_sF, zK_sI, zK_sJ, zK_sR]; assumption)) (by first | assumption | (simp only [zF_sF, zF_sI, zF_sJ, zF_sR, true_and, and_true, false_and, and_false, if_true, if_false, eq_self, reduceIte, Nat.reduceEqDiff, OfNat.ofNat_ne_zero, OfNat.zero_ne_ofNat, OfNat.ofNat_ne_one, OfNat.one_ne_ofNat, reduceCtorEq]; first | rfl | assumption)) ?_
  refine q_tsw [(0, 40), (1, 58), (2, 104), (3, 154), (4, 147)] 154 dX4_judge_4 (by decide) (by decide) (by decide) (by decide) (fun q hq c4 => ?_) (fun c4 => ?_)
  · rcases List.mem_cons.mp hq with rfl | hq
    · dsimp only at c4 ⊢
      subst c4
      refine q_lload_n dX4_judge_40 rfl ?_
      first | refine q_aload_n dX4_judge_41 rfl ?_ | refine q_aload_nN dX4_judge_41 rfl ?_
      refine q_getf dX4_judge_42 fk_X4_18_3 (by first | assumption | (simp only [zK_sF, zK_sI, zK_sJ, zK_sR]; assumption)) (by first | assumption | (simp only [zF_sF, zF_sI, zF_sJ, zF_sR, true_and, and_true, false_and, and_false, if_true, if_false, eq_self, reduceIte, Nat.reduceEqDiff, OfNat.ofNat_ne_zero, OfNat.zero_ne_ofNat, OfNat.ofNat_ne_one, OfNat.one_ne_ofNat, reduceCtorEq]; first | rfl | assumption)) ?_
      refine q_lcmp_ge 53 dX4_judge_45 dX4_judge_46 (by decide) (fun c45 => ?_) (fun c45 => ?_)
      · refine q_iconst (v := 0) dX4_judge_53 (by decide) ?_
        refine q_callSU ⟨RX4, "verdict", "(Z)I"⟩ dX4_judge_54 us_X4_22 us_X4_sm rfl us_st (c_X2_verdict l G _ _) rfl np_X2_verdict (by first | decide | omega | (dsimp only; omega)) (by first | decide | omega | (dsimp only; omega)) (by first | decide | omega | (dsimp only; omega)) (Nat.le_of_ble_eq_true rfl) (kI (fun r Z1 h => ?_))
        obtain ⟨rfl, rfl⟩ := h
        first | rw [if_neg (show ¬ (1 : Int32) = 0 by decide)] | rw [if_pos (show (0 : Int32) = 0 from rfl)]
        exact q_ireturn dX4_judge_57 rfl (by first | decide | omega | (dsimp only; omega)) (by first | decide | omega | (dsimp only; omega)) (by first | (subst c159; exact outP_l (nfV_d n0 n1 n2 n4) h) | exact outP_l (by simp only [nfV_0, nfV_1, nfV_2, nfV_3, nfV_4, sfV_3, sfV_0, *, if_true, if_false, reduceIte, eq_self, not_false_eq_true, not_true_eq_false, and_self, and_true, true_and]) h | exact outP_r (by simp only [nfV_0, nfV_1, nfV_2, nfV_3, nfV_4, sfV_3, sfV_0, *, if_true, if_false, reduceIte, eq_self, not_false_eq_true, not_true_eq_false, and_self, and_true, true_and]) | (refine outP_l ?_ h; simp only [nfV, *, if_true, if_false, reduceIte, eq_self, not_false_eq_true, not_true_eq_false, and_self, and_true, true_and]; done) | (refine outP_r ?_; simp only [nfV, *, if_true, if_false, reduceIte, eq_self, not_false_eq_true, not_true_eq_false, and_self, and_true, true_and]; done))
      · refine q_iconst (v := 1) dX4_judge_49 (by decide) ?_
        refine q_goto 54 dX4_judge_50 (by decide) ?_
        refine q_callSU ⟨RX4, "verdict", "(Z)I"⟩ dX4_judge_54 us_X4_22 us_X4_sm rfl us_st (c_X2_verdict l G _ _) rfl np_X2_verdict (by first | decide | omega | (dsimp only; omega)) (by first | decide | omega | (dsimp only; omega)) (by first | decide | omega | (dsimp only; omega)) (Nat.le_of_ble_eq_true rfl) (kI (fun r Z1 h => ?_))
        obtain ⟨rfl, rfl⟩ := h
        first | rw [if_neg (show ¬ (1 : Int32) = 0 by decide)] | rw [if_pos (show (0 : Int32) = 0 from rfl)]
        exact q_ireturn dX4_judge_57 rfl (by first | decide | omega | (dsimp only; omega)) (by first | decide | omega | (dsimp only; omega)) (by first | (subst c159; exact outP_l (nfV_d n0 n1 n2 n4) h) | exact outP_l (by simp only [nfV_0, nfV_1, nfV_2, nfV_3, nfV_4, sfV_3, sfV_0, *, if_true, if_false, reduceIte, eq_self, not_false_eq_true, not_true_eq_false, and_self, and_true, true_and]) h | exact outP_r (by simp only [nfV_0, nfV_1, nfV_2, nfV_3, nfV_4, sfV_3, sfV_0, *, if_true, if_false, reduceIte, eq_self, not_false_eq_true, not_true_eq_false, and_self, and_true, true_and]) | (refine outP_l ?_ h; simp only [nfV, *, if_true, if_false, reduceIte, eq_self, not_false_eq_true, not_true_eq_false, and_self, and_true, true_and]; done) | (refine outP_r ?_; simp only [nfV, *, if_true, if_false, reduceIte, eq_self, not_false_eq_true, not_true_eq_false, and_self, and_true, true_and]; done))
    rcases List.mem_cons.mp hq with rfl | hq
    · dsimp only at c4 ⊢
      subst c4
      first | refine q_aload_n dX4_judge_58 rfl ?_ | refine q_aload_nN dX4_judge_58 rfl ?_
      refine q_getf dX4_judge_59 fk_X4_18_3 (by first | assumption | (simp only [zK_sF, zK_sI, zK_sJ, zK_sR]; assumption)) (by first | assumption | (simp only [zF_sF, zF_sI, zF_sJ, zF_sR, true_and, and_true, false_and, and_false, if_true, if_false, eq_self, reduceIte, Nat.reduceEqDiff, OfNat.ofNat_ne_zero, OfNat.zero_ne_ofNat, OfNat.ofNat_ne_one, OfNat.one_ne_ofNat, reduceCtorEq]; first | rfl | assumption)) ?_
      refine q_lconst (v := 0) dX4_judge_62 (by decide) ?_
      refine q_lcmp_ne 80 dX4_judge_63 dX4_judge_64 (by decide) (fun c63 => ?_) (fun c63 => ?_)
      · refine q_lload_n dX4_judge_80 rfl ?_
        first | refine q_aload_n dX4_judge_81 rfl ?_ | refine q_aload_nN dX4_judge_81 rfl ?_
        refine q_getf dX4_judge_82 fk_X4_18_3 (by first | assumption | (simp only [zK_sF, zK_sI, zK_sJ, zK_sR]; assumption)) (by first | assumption | (simp only [zF_sF, zF_sI, zF_sJ, zF_sR, true_and, and_true, false_and, and_false, if_true, if_false, eq_self, reduceIte, Nat.reduceEqDiff, OfNat.ofNat_ne_zero, OfNat.zero_ne_ofNat, OfNat.ofNat_ne_one, OfNat.one_ne_ofNat, reduceCtorEq]; first | rfl | assumption)) ?_
        refine q_lrem dX4_judge_85 (by assumption) ?_
        first | refine q_aload_n dX4_judge_86 rfl ?_ | refine q_aload_nN dX4_judge_86 rfl ?_
        refine q_getf dX4_judge_87 fk_X4_15_3 (by first | assumption | (simp only [zK_sF, zK_sI, zK_sJ, zK_sR]; assumption)) (by first | assumption | (simp only [zF_sF, zF_sI, zF_sJ, zF_sR, true_and, and_true, false_and, and_false, if_true, if_false, eq_self, reduceIte, Nat.reduceEqDiff, OfNat.ofNat_ne_zero, OfNat.zero_ne_ofNat, OfNat.ofNat_ne_one, OfNat.one_ne_ofNat, reduceCtorEq]; first | rfl | assumption)) ?_
        refine q_i2l dX4_judge_90 ?_
        refine q_lcmp_ne 99 dX4_judge_91 dX4_judge_92 (by decide) (fun c91 => ?_) (fun c91 => ?_)
        · refine q_iconst (v := 0) dX4_judge_99 (by decide) ?_
          refine q_callSU ⟨RX4, "verdict", "(Z)I"⟩ dX4_judge_100 us_X4_22 us_X4_sm rfl us_st (c_X2_verdict l G _ _) rfl np_X2_verdict (by first | decide | omega | (dsimp only; omega)) (by first | decide | omega | (dsimp only; omega)) (by first | decide | omega | (dsimp only; omega)) (Nat.le_of_ble_eq_true rfl) (kI (fun r Z1 h => ?_))
          obtain ⟨rfl, rfl⟩ := h
          first | rw [if_neg (show ¬ (1 : Int32) = 0 by decide)] | rw [if_pos (show (0 : Int32) = 0 from rfl)]
          exact q_ireturn dX4_judge_103 rfl (by first | decide | omega | (dsimp only; omega)) (by first | decide | omega | (dsimp only; omega)) (by first | (subst c159; exact outP_l (nfV_d n0 n1 n2 n4) h) | exact outP_l (by simp only [nfV_0, nfV_1, nfV_2, nfV_3, nfV_4, sfV_3, sfV_0, *, if_true, if_false, reduceIte, eq_self, not_false_eq_true, not_true_eq_false, and_self, and_true, true_and]) h | exact outP_r (by simp only [nfV_0, nfV_1, nfV_2, nfV_3, nfV_4, sfV_3, sfV_0, *, if_true, if_false, reduceIte, eq_self, not_false_eq_true, not_true_eq_false, and_self, and_true, true_and]) | (refine outP_l ?_ h; simp only [nfV, *, if_true, if_false, reduceIte, eq_self, not_false_eq_true, not_true_eq_false, and_self, and_true, true_and]; done) | (refine outP_r ?_; simp only [nfV, *, if_true, if_false, reduceIte, eq_self, not_false_eq_true, not_true_eq_false, and_self, and_true, true_and]; done))
        · refine q_iconst (v := 1) dX4_judge_95 (by decide) ?_
          refine q_goto 100 dX4_judge_96 (by decide) ?_
          refine q_callSU ⟨RX4, "verdict", "(Z)I"⟩ dX4_judge_100 us_X4_22 us_X4_sm rfl us_st (c_X2_verdict l G _ _) rfl np_X2_verdict (by first | decide | omega | (dsimp only; omega)) (by first | decide | omega | (dsimp only; omega)) (by first | decide | omega | (dsimp only; omega)) (Nat.le_of_ble_eq_true rfl) (kI (fun r Z1 h => ?_))
          obtain ⟨rfl, rfl⟩ := h
          first | rw [if_neg (show ¬ (1 : Int32) = 0 by decide)] | rw [if_pos (show (0 : Int32) = 0 from rfl)]
          exact q_ireturn dX4_judge_103 rfl (by first | decide | omega | (dsimp only; omega)) (by first | decide | omega | (dsimp only; omega)) (by first | (subst c159; exact outP_l (nfV_d n0 n1 n2 n4) h) | exact outP_l (by simp only [nfV_0, nfV_1, nfV_2, nfV_3, nfV_4, sfV_3, sfV_0, *, if_true, if_false, reduceIte, eq_self, not_false_eq_true, not_true_eq_false, and_self, and_true, true_and]) h | exact outP_r (by simp only [nfV_0, nfV_1, nfV_2, nfV_3, nfV_4, sfV_3, sfV_0, *, if_true, if_false, reduceIte, eq_self, not_false_eq_true, not_true_eq_false, and_self, and_true, true_and]) | (refine outP_l ?_ h; simp only [nfV, *, if_true, if_false, reduceIte, eq_self, not_false_eq_true, not_true_eq_false, and_self, and_true, true_and]; done) | (refine outP_r ?_; simp only [nfV, *, if_true, if_false, reduceIte, eq_self, not_false_eq_true, not_true_eq_false, and_self, and_true, true_and]; done))
      · first | refine q_aload_n dX4_judge_67 rfl ?_ | refine q_aload_nN dX4_judge_67 rfl ?_
        refine q_bipush (v := 6) dX4_judge_68 (by decide) ?_
        first | refine q_aload_n dX4_judge_70 rfl ?_ | refine q_aload_nN dX4_judge_70 rfl ?_
        refine q_getf dX4_judge_71 fk_X4_26_3 (by first | assumption | (simp only [zK_sF, zK_sI, zK_sJ, zK_sR]; assumption)) (by first | assumption | (simp only [zF_sF, zF_sI, zF_sJ, zF_sR, true_and, and_true, false_and, and_false, if_true, if_false, eq_self, reduceIte, Nat.reduceEqDiff, OfNat.ofNat_ne_zero, OfNat.zero_ne_ofNat, OfNat.ofNat_ne_one, OfNat.one_ne_ofNat, reduceCtorEq]; first | rfl | assumption)) ?_
        refine q_callV 9 dX4_judge_74 mk_X4_29 rfl (by first | assumption | (simp only [zK_sF, zK_sI, zK_sJ, zK_sR]; assumption)) (c_X10_fail l G _ t fl 6 nm hKt hf) rfl np_X10_fail (by first | decide | omega | (dsimp only; omega)) (by first | decide | omega | (dsimp only; omega)) (by first | decide | omega | (dsimp only; omega)) (Nat.le_of_ble_eq_true rfl) (kI (fun r Z1 h => ?_))
        refine q_goto 103 dX4_judge_77 (by decide) ?_
        exact q_ireturn dX4_judge_103 rfl (by first | decide | omega | (dsimp only; omega)) (by first | decide | omega | (dsimp only; omega)) (by first | (subst c159; exact outP_l (nfV_d n0 n1 n2 n4) h) | exact outP_l (by simp only [nfV_0, nfV_1, nfV_2, nfV_3, nfV_4, sfV_3, sfV_0, *, if_true, if_false, reduceIte, eq_self, not_false_eq_true, not_true_eq_false, and_self, and_true, true_and]) h | exact outP_r (by simp only [nfV_0, nfV_1, nfV_2, nfV_3, nfV_4, sfV_3, sfV_0, *, if_true, if_false, reduceIte, eq_self, not_false_eq_true, not_true_eq_false, and_self, and_true, true_and]) | (refine outP_l ?_ h; simp only [nfV, *, if_true, if_false, reduceIte, eq_self, not_false_eq_true, not_true_eq_false, and_self, and_true, true_and]; done) | (refine outP_r ?_; simp only [nfV, *, if_true, if_false, reduceIte, eq_self, not_false_eq_true, not_true_eq_false, and_self, and_true, true_and]; done))
    rcases List.mem_cons.mp hq with rfl | hq
    · dsimp only at c4 ⊢
      subst c4
      refine q_lload_n dX4_judge_104 rfl ?_
      refine q_lconst (v := 0) dX4_judge_105 (by decide) ?_
      refine q_lcmp_ne 123 dX4_judge_106 dX4_judge_107 (by decide) (fun c106 => ?_) (fun c106 => ?_)
      · first | refine q_aload_n dX4_judge_123 rfl ?_ | refine q_aload_nN dX4_judge_123 rfl ?_
        refine q_getf dX4_judge_124 fk_X4_18_3 (by first | assumption | (simp only [zK_sF, zK_sI, zK_sJ, zK_sR]; assumption)) (by first | assumption | (simp only [zF_sF, zF_sI, zF_sJ, zF_sR, true_and, and_true, false_and, and_false, if_true, if_false, eq_self, reduceIte, Nat.reduceEqDiff, OfNat.ofNat_ne_zero, OfNat.zero_ne_ofNat, OfNat.ofNat_ne_one, OfNat.one_ne_ofNat, reduceCtorEq]; first | rfl | assumption)) ?_
        refine q_lload_n dX4_judge_127 rfl ?_
        refine q_ldiv dX4_judge_128 (by assumption) ?_
        first | refine q_aload_n dX4_judge_129 rfl ?_ | refine q_aload_nN dX4_judge_129 rfl ?_
        refine q_getf dX4_judge_130 fk_X4_15_3 (by first | assumption | (simp only [zK_sF, zK_sI, zK_sJ, zK_sR]; assumption)) (by first | assumption | (simp only [zF_sF, zF_sI, zF_sJ, zF_sR, true_and, and_true, false_and, and_false, if_true, if_false, eq_self, reduceIte, Nat.reduceEqDiff, OfNat.ofNat_ne_zero, OfNat.zero_ne_ofNat, OfNat.ofNat_ne_one, OfNat.one_ne_ofNat, reduceCtorEq]; first | rfl | assumption)) ?_
        refine q_i2l dX4_judge_133 ?_
        refine q_lcmp_le 142 dX4_judge_134 dX4_judge_135 (by decide) (fun c134 => ?_) (fun c134 => ?_)
        · refine q_iconst (v := 0) dX4_judge_142 (by decide) ?_
          refine q_callSU ⟨RX4, "verdict", "(Z)I"⟩ dX4_judge_143 us_X4_22 us_X4_sm rfl us_st (c_X2_verdict l G _ _) rfl np_X2_verdict (by first | decide | omega | (dsimp only; omega)) (by first | decide | omega | (dsimp only; omega)) (by first | decide | omega | (dsimp only; omega)) (Nat.le_of_ble_eq_true rfl) (kI (fun r Z1 h => ?_))
          obtain ⟨rfl, rfl⟩ := h
          first | rw [if_neg (show ¬ (1 : Int32) = 0 by decide)] | rw [if_pos (show (0 : Int32) = 0 from rfl)]
          exact q_ireturn dX4_judge_146 rfl (by first | decide | omega | (dsimp only; omega)) (by first | decide | omega | (dsimp only; omega)) (by first | (subst c159; exact outP_l (nfV_d n0 n1 n2 n4) h) | exact outP_l (by simp only [nfV_0, nfV_1, nfV_2, nfV_3, nfV_4, sfV_3, sfV_0, *, if_true, if_false, reduceIte, eq_self, not_false_eq_true, not_true_eq_false, and_self, and_true, true_and]) h | exact outP_r (by simp only [nfV_0, nfV_1, nfV_2, nfV_3, nfV_4, sfV_3, sfV_0, *, if_true, if_false, reduceIte, eq_self, not_false_eq_true, not_true_eq_false, and_self, and_true, true_and]) | (refine outP_l ?_ h; simp only [nfV, *, if_true, if_false, reduceIte, eq_self, not_false_eq_true, not_true_eq_false, and_self, and_true, true_and]; done) | (refine outP_r ?_; simp only [nfV, *, if_true, if_false, reduceIte, eq_self, not_false_eq_true, not_true_eq_false, and_self, and_true, true_and]; done))
        · refine q_iconst (v := 1) dX4_judge_138 (by decide) ?_
          refine q_goto 143 dX4_judge_139 (by decide) ?_
          refine q_callSU ⟨RX4, "verdict", "(Z)I"⟩ dX4_judge_143 us_X4_22 us_X4_sm rfl us_st (c_X2_verdict l G _ _) rfl np_X2_verdict (by first | decide | omega | (dsimp only; omega)) (by first | decide | omega | (dsimp only; omega)) (by first | decide | omega | (dsimp only; omega)) (Nat.le_of_ble_eq_true rfl) (kI (fun r Z1 h => ?_))
          obtain ⟨rfl, rfl⟩ := h
          first | rw [if_neg (show ¬ (1 : Int32) = 0 by decide)] | rw [if_pos (show (0 : Int32) = 0 from rfl)]
          exact q_ireturn dX4_judge_146 rfl (by first | decide | omega | (dsimp only; omega)) (by first | decide | omega | (dsimp only; omega)) (by first | (subst c159; exact outP_l (nfV_d n0 n1 n2 n4) h) | exact outP_l (by simp only [nfV_0, nfV_1, nfV_2, nfV_3, nfV_4, sfV_3, sfV_0, *, if_true, if_false, reduceIte, eq_self, not_false_eq_true, not_true_eq_false, and_self, and_true, true_and]) h | exact outP_r (by simp only [nfV_0, nfV_1, nfV_2, nfV_3, nfV_4, sfV_3, sfV_0, *, if_true, if_false, reduceIte, eq_self, not_false_eq_true, not_true_eq_false, and_self, and_true, true_and]) | (refine outP_l ?_ h; simp only [nfV, *, if_true, if_false, reduceIte, eq_self, not_false_eq_true, not_true_eq_false, and_self, and_true, true_and]; done) | (refine outP_r ?_; simp only [nfV, *, if_true, if_false, reduceIte, eq_self, not_false_eq_true, not_true_eq_false, and_self, and_true, true_and]; done))
      · first | refine q_aload_n dX4_judge_110 rfl ?_ | refine q_aload_nN dX4_judge_110 rfl ?_
        refine q_bipush (v := 6) dX4_judge_111 (by decide) ?_
        first | refine q_aload_n dX4_judge_113 rfl ?_ | refine q_aload_nN dX4_judge_113 rfl ?_
        refine q_getf dX4_judge_114 fk_X4_26_3 (by first | assumption | (simp only [zK_sF, zK_sI, zK_sJ, zK_sR]; assumption)) (by first | assumption | (simp only [zF_sF, zF_sI, zF_sJ, zF_sR, true_and, and_true, false_and, and_false, if_true, if_false, eq_self, reduceIte, Nat.reduceEqDiff, OfNat.ofNat_ne_zero, OfNat.zero_ne_ofNat, OfNat.ofNat_ne_one, OfNat.one_ne_ofNat, reduceCtorEq]; first | rfl | assumption)) ?_
        refine q_callV 9 dX4_judge_117 mk_X4_29 rfl (by first | assumption | (simp only [zK_sF, zK_sI, zK_sJ, zK_sR]; assumption)) (c_X10_fail l G _ t fl 6 nm hKt hf) rfl np_X10_fail (by first | decide | omega | (dsimp only; omega)) (by first | decide | omega | (dsimp only; omega)) (by first | decide | omega | (dsimp only; omega)) (Nat.le_of_ble_eq_true rfl) (kI (fun r Z1 h => ?_))
        refine q_goto 146 dX4_judge_120 (by decide) ?_
        exact q_ireturn dX4_judge_146 rfl (by first | decide | omega | (dsimp only; omega)) (by first | decide | omega | (dsimp only; omega)) (by first | (subst c159; exact outP_l (nfV_d n0 n1 n2 n4) h) | exact outP_l (by simp only [nfV_0, nfV_1, nfV_2, nfV_3, nfV_4, sfV_3, sfV_0, *, if_true, if_false, reduceIte, eq_self, not_false_eq_true, not_true_eq_false, and_self, and_true, true_and]) h | exact outP_r (by simp only [nfV_0, nfV_1, nfV_2, nfV_3, nfV_4, sfV_3, sfV_0, *, if_true, if_false, reduceIte, eq_self, not_false_eq_true, not_true_eq_false, and_self, and_true, true_and]) | (refine outP_l ?_ h; simp only [nfV, *, if_true, if_false, reduceIte, eq_self, not_false_eq_true, not_true_eq_false, and_self, and_true, true_and]; done) | (refine outP_r ?_; simp only [nfV, *, if_true, if_false, reduceIte, eq_self, not_false_eq_true, not_true_eq_false, and_self, and_true, true_and]; done))
    rcases List.mem_cons.mp hq with rfl | hq
    · dsimp only at c4 ⊢
      subst c4
      refine q_lload_n dX4_judge_154 rfl ?_
      first | refine q_aload_n dX4_judge_155 rfl ?_ | refine q_aload_nN dX4_judge_155 rfl ?_
      refine q_getf dX4_judge_156 fk_X4_18_3 (by first | assumption | (simp only [zK_sF, zK_sI, zK_sJ, zK_sR]; assumption)) (by first | assumption | (simp only [zF_sF, zF_sI, zF_sJ, zF_sR, true_and, and_true, false_and, and_false, if_true, if_false, eq_self, reduceIte, Nat.reduceEqDiff, OfNat.ofNat_ne_zero, OfNat.zero_ne_ofNat, OfNat.ofNat_ne_one, OfNat.one_ne_ofNat, reduceCtorEq]; first | rfl | assumption)) ?_
      refine q_lcmp_ne 176 dX4_judge_159 dX4_judge_160 (by decide) (fun c159 => ?_) (fun c159 => ?_)
      · refine q_iconst (v := 1) dX4_judge_176 (by decide) ?_
        exact q_ireturn dX4_judge_177 rfl (by first | decide | omega | (dsimp only; omega)) (by first | decide | omega | (dsimp only; omega)) (by first | (subst c159; exact outP_l (nfV_d n0 n1 n2 n4) h) | exact outP_l (by simp only [nfV_0, nfV_1, nfV_2, nfV_3, nfV_4, sfV_3, sfV_0, *, if_true, if_false, reduceIte, eq_self, not_false_eq_true, not_true_eq_false, and_self, and_true, true_and]) h | exact outP_r (by simp only [nfV_0, nfV_1, nfV_2, nfV_3, nfV_4, sfV_3, sfV_0, *, if_true, if_false, reduceIte, eq_self, not_false_eq_true, not_true_eq_false, and_self, and_true, true_and]) | (refine outP_l ?_ h; simp only [nfV, *, if_true, if_false, reduceIte, eq_self, not_false_eq_true, not_true_eq_false, and_self, and_true, true_and]; done) | (refine outP_r ?_; simp only [nfV, *, if_true, if_false, reduceIte, eq_self, not_false_eq_true, not_true_eq_false, and_self, and_true, true_and]; done))
      · first | refine q_aload_n dX4_judge_163 rfl ?_ | refine q_aload_nN dX4_judge_163 rfl ?_
        refine q_bipush (v := 7) dX4_judge_164 (by decide) ?_
        first | refine q_aload_n dX4_judge_166 rfl ?_ | refine q_aload_nN dX4_judge_166 rfl ?_
        refine q_getf dX4_judge_167 fk_X4_26_3 (by first | assumption | (simp only [zK_sF, zK_sI, zK_sJ, zK_sR]; assumption)) (by first | assumption | (simp only [zF_sF, zF_sI, zF_sJ, zF_sR, true_and, and_true, false_and, and_false, if_true, if_false, eq_self, reduceIte, Nat.reduceEqDiff, OfNat.ofNat_ne_zero, OfNat.zero_ne_ofNat, OfNat.ofNat_ne_one, OfNat.one_ne_ofNat, reduceCtorEq]; first | rfl | assumption)) ?_
        refine q_callV 9 dX4_judge_170 mk_X4_29 rfl (by first | assumption | (simp only [zK_sF, zK_sI, zK_sJ, zK_sR]; assumption)) (c_X10_fail l G _ t fl 7 nm hKt hf) rfl np_X10_fail (by first | decide | omega | (dsimp only; omega)) (by first | decide | omega | (dsimp only; omega)) (by first | decide | omega | (dsimp only; omega)) (Nat.le_of_ble_eq_true rfl) (kI (fun r Z1 h => ?_))
        refine q_goto 177 dX4_judge_173 (by decide) ?_
        exact q_ireturn dX4_judge_177 rfl (by first | decide | omega | (dsimp only; omega)) (by first | decide | omega | (dsimp only; omega)) (by first | (subst c159; exact outP_l (nfV_d n0 n1 n2 n4) h) | exact outP_l (by simp only [nfV_0, nfV_1, nfV_2, nfV_3, nfV_4, sfV_3, sfV_0, *, if_true, if_false, reduceIte, eq_self, not_false_eq_true, not_true_eq_false, and_self, and_true, true_and]) h | exact outP_r (by simp only [nfV_0, nfV_1, nfV_2, nfV_3, nfV_4, sfV_3, sfV_0, *, if_true, if_false, reduceIte, eq_self, not_false_eq_true, not_true_eq_false, and_self, and_true, true_and]) | (refine outP_l ?_ h; simp only [nfV, *, if_true, if_false, reduceIte, eq_self, not_false_eq_true, not_true_eq_false, and_self, and_true, true_and]; done) | (refine outP_r ?_; simp only [nfV, *, if_true, if_false, reduceIte, eq_self, not_false_eq_true, not_true_eq_false, and_self, and_true, true_and]; done))
    rcases List.mem_cons.mp hq with rfl | hq
    · dsimp only at c4 ⊢
      subst c4
      first | refine q_aload_n dX4_judge_147 rfl ?_ | refine q_aload_nN dX4_judge_147 rfl ?_
      refine q_lload_n dX4_judge_148 rfl ?_
      first | refine q_aload_n dX4_judge_149 rfl ?_ | refine q_aload_nN dX4_judge_149 rfl ?_
      refine q_callV 3 dX4_judge_150 mk_X4_35 rfl (by first | assumption | (simp only [zK_sF, zK_sI, zK_sJ, zK_sR]; assumption)) (c_X4_judgeRoom l G _ a t nm 4 ai fl v c hK h0 h2 h3 h4 hKt hf) rfl np_X4_judgeRoom (by first | decide | omega | (dsimp only; omega)) (by first | decide | omega | (dsimp only; omega)) (by first | decide | omega | (dsimp only; omega)) (Nat.le_of_ble_eq_true rfl) (kI (fun r Z1 h => ?_))
      exact q_ireturn dX4_judge_153 rfl (by first | decide | omega | (dsimp only; omega)) (by first | decide | omega | (dsimp only; omega)) (by rw [nfV_4]; exact h)
    exact absurd hq List.not_mem_nil
  · have n0 : ¬ kd = 0 := c4 (0, 40) (by simp)
    have n1 : ¬ kd = 1 := c4 (1, 58) (by simp)
    have n2 : ¬ kd = 2 := c4 (2, 104) (by simp)
    have n4 : ¬ kd = 4 := c4 (4, 147) (by simp)
    refine q_lload_n dX4_judge_154 rfl ?_
    first | refine q_aload_n dX4_judge_155 rfl ?_ | refine q_aload_nN dX4_judge_155 rfl ?_
    refine q_getf dX4_judge_156 fk_X4_18_3 (by first | assumption | (simp only [zK_sF, zK_sI, zK_sJ, zK_sR]; assumption)) (by first | assumption | (simp only [zF_sF, zF_sI, zF_sJ, zF_sR, true_and, and_true, false_and, and_false, if_true, if_false, eq_self, reduceIte, Nat.reduceEqDiff, OfNat.ofNat_ne_zero, OfNat.zero_ne_ofNat, OfNat.ofNat_ne_one, OfNat.one_ne_ofNat, reduceCtorEq]; first | rfl | assumption)) ?_
    refine q_lcmp_ne 176 dX4_judge_159 dX4_judge_160 (by decide) (fun c159 => ?_) (fun c159 => ?_)
    · refine q_iconst (v := 1) dX4_judge_176 (by decide) ?_
      exact q_ireturn dX4_judge_177 rfl (by first | decide | omega | (dsimp only; omega)) (by first | decide | omega | (dsimp only; omega)) (by first | (subst c159; exact outP_l (nfV_d n0 n1 n2 n4) h) | exact outP_l (by simp only [nfV_0, nfV_1, nfV_2, nfV_3, nfV_4, sfV_3, sfV_0, *, if_true, if_false, reduceIte, eq_self, not_false_eq_true, not_true_eq_false, and_self, and_true, true_and]) h | exact outP_r (by simp only [nfV_0, nfV_1, nfV_2, nfV_3, nfV_4, sfV_3, sfV_0, *, if_true, if_false, reduceIte, eq_self, not_false_eq_true, not_true_eq_false, and_self, and_true, true_and]) | (refine outP_l ?_ h; simp only [nfV, *, if_true, if_false, reduceIte, eq_self, not_false_eq_true, not_true_eq_false, and_self, and_true, true_and]; done) | (refine outP_r ?_; simp only [nfV, *, if_true, if_false, reduceIte, eq_self, not_false_eq_true, not_true_eq_false, and_self, and_true, true_and]; done))
    · first | refine q_aload_n dX4_judge_163 rfl ?_ | refine q_aload_nN dX4_judge_163 rfl ?_
      refine q_bipush (v := 7) dX4_judge_164 (by decide) ?_
      first | refine q_aload_n dX4_judge_166 rfl ?_ | refine q_aload_nN dX4_judge_166 rfl ?_
      refine q_getf dX4_judge_167 fk_X4_26_3 (by first | assumption | (simp only [zK_sF, zK_sI, zK_sJ, zK_sR]; assumption)) (by first | assumption | (simp only [zF_sF, zF_sI, zF_sJ, zF_sR, true_and, and_true, false_and, and_false, if_true, if_false, eq_self, reduceIte, Nat.reduceEqDiff, OfNat.ofNat_ne_zero, OfNat.zero_ne_ofNat, OfNat.ofNat_ne_one, OfNat.one_ne_ofNat, reduceCtorEq]; first | rfl | assumption)) ?_
      refine q_callV 9 dX4_judge_170 mk_X4_29 rfl (by first | assumption | (simp only [zK_sF, zK_sI, zK_sJ, zK_sR]; assumption)) (c_X10_fail l G _ t fl 7 nm hKt hf) rfl np_X10_fail (by first | decide | omega | (dsimp only; omega)) (by first | decide | omega | (dsimp only; omega)) (by first | decide | omega | (dsimp only; omega)) (Nat.le_of_ble_eq_true rfl) (kI (fun r Z1 h => ?_))
      refine q_goto 177 dX4_judge_173 (by decide) ?_
      exact q_ireturn dX4_judge_177 rfl (by first | decide | omega | (dsimp only; omega)) (by first | decide | omega | (dsimp only; omega)) (by first | (subst c159; exact outP_l (nfV_d n0 n1 n2 n4) h) | exact outP_l (by simp only [nfV_0, nfV_1, nfV_2, nfV_3, nfV_4, sfV_3, sfV_0, *, if_true, if_false, reduceIte, eq_self, not_false_eq_true, not_true_eq_false, and_self, and_true, true_and]) h | exact outP_r (by simp only [nfV_0, nfV_1, nfV_2, nfV_3, nfV_4, sfV_3, sfV_0, *, if_true, if_false, reduceIte, eq_self, not_false_eq_true, not_true_eq_false, and_self, and_true, true_and]) | (refine outP_l ?_ h; simp only [nfV, *, if_true, if_false, reduceIte, eq_self, not_false_eq_true, not_true_eq_false, and_self, and_true, true_and]; done) | (refine outP_r ?_; simp only [nfV, *, if_true, if_false, reduceIte, eq_self, not_false_eq_true, not_true_eq_false, and_self, and_true, true_and]; done))
set_option maxHeartbeats 600000 in
set_option maxRecDepth 100000 in
theorem c_X7_judge_b (l : Launch) (G : Gt) (Z : Zt) (b : Nat) (a t hs it : Nat) (nm wt skd cn pt fl : Int32) (v c : Int64) (hK : zK Z a = 7) (h0 : zF Z 0 a = .int nm) (h2 : zF Z 2 a = .ref hs) (h3 : zF Z 3 a = .int wt) (h4 : zF Z 4 a = .long v) (hKs : zK Z hs = 6) (s0 : zF Z 0 hs = .ref it) (s1 : zF Z 1 hs = .int skd) (s2 : zF Z 2 hs = .int cn) (s3 : zF Z 3 hs = .int pt) (hKi : zK Z it = 21) (hLi : zL Z it = 12) (hKt : zK Z t = 10) (hf : zF Z 4 t = .int fl) : Ct l G YX7_judge (b + 2, 0, 0) Z [.ref a, .long c, .ref t] (ΦI (fun r Z1 => outP Z Z1 t fl nm r (sfV wt skd cn pt v (zJ Z it) c))) := by
  refine ct_of [some (.ref a), some (.long c), none, some (.ref t)] (by decide +kernel) (Nat.le_of_ble_eq_true rfl) rfl (fun M => ?_)
  first | refine q_aload_n dX7_judge_0 rfl ?_ | refine q_aload_nN dX7_judge_0 rfl ?_
  refine q_getf dX7_judge_1 fk_X7_9_6 (by first | assumption | (simp only [zK_sF, zK_sI, zK_sJ, zK_sR]; assumption)) (by first | assumption | (simp only [zF_sF, zF_sI, zF_sJ, zF_sR, true_and, and_true, false_and, and_false, if_true, if_false, eq_self, reduceIte, Nat.reduceEqDiff, OfNat.ofNat_ne_zero, OfNat.zero_ne_ofNat, OfNat.ofNat_ne_one, OfNat.one_ne_ofNat, reduceCtorEq]; first | rfl | assumption)) ?_
  refine q_getf dX7_judge_4 fk_X7_23_5 (by first | assumption | (simp only [zK_sF, zK_sI, zK_sJ, zK_sR]; assumption)) (by first | assumption | (simp only [zF_sF, zF_sI, zF_sJ, zF_sR, true_and, and_true, false_and, and_false, if_true, if_false, eq_self, reduceIte, Nat.reduceEqDiff, OfNat.ofNat_ne_zero, OfNat.zero_ne_ofNat, OfNat.ofNat_ne_one, OfNat.one_ne_ofNat, reduceCtorEq]; first | rfl | assumption)) ?_
  refine q_if_ne 20 dX7_judge_7 (by decide) (fun c7 => ?_) (fun c7 => ?_)
  · first | refine q_aload_n dX7_judge_20 rfl ?_ | refine q_aload_nN dX7_judge_20 rfl ?_
    refine q_getf dX7_judge_21 fk_X7_9_6 (by first | assumption | (simp only [zK_sF, zK_sI, zK_sJ, zK_sR]; assumption)) (by first | assumption | (simp only [zF_sF, zF_sI, zF_sJ, zF_sR, true_and, and_true, false_and, and_false, if_true, if_false, eq_self, reduceIte, Nat.reduceEqDiff, OfNat.ofNat_ne_zero, OfNat.zero_ne_ofNat, OfNat.ofNat_ne_one, OfNat.one_ne_ofNat, reduceCtorEq]; first | rfl | assumption)) ?_
    refine q_getf dX7_judge_24 fk_X7_23_5 (by first | assumption | (simp only [zK_sF, zK_sI, zK_sJ, zK_sR]; assumption)) (by first | assumption | (simp only [zF_sF, zF_sI, zF_sJ, zF_sR, true_and, and_true, false_and, and_false, if_true, if_false, eq_self, reduceIte, Nat.reduceEqDiff, OfNat.ofNat_ne_zero, OfNat.zero_ne_ofNat, OfNat.ofNat_ne_one, OfNat.one_ne_ofNat, reduceCtorEq]; first | rfl | assumption)) ?_
    first | refine q_aload_n dX7_judge_27 rfl ?_ | refine q_aload_nN dX7_judge_27 rfl ?_
    refine q_getf dX7_judge_28 fk_X7_15_6 (by first | assumption | (simp only [zK_sF, zK_sI, zK_sJ, zK_sR]; assumption)) (by first | assumption | (simp only [zF_sF, zF_sI, zF_sJ, zF_sR, true_and, and_true, false_and, and_false, if_true, if_false, eq_self, reduceIte, Nat.reduceEqDiff, OfNat.ofNat_ne_zero, OfNat.zero_ne_ofNat, OfNat.ofNat_ne_one, OfNat.one_ne_ofNat, reduceCtorEq]; first | rfl | assumption)) ?_
    refine q_icmp_eq 44 dX7_judge_31 (by decide) (fun c31 => ?_) (fun c31 => ?_)
    · subst c31
      first | refine q_aload_n dX7_judge_44 rfl ?_ | refine q_aload_nN dX7_judge_44 rfl ?_
      refine q_getf dX7_judge_45 fk_X7_15_6 (by first | assumption | (simp only [zK_sF, zK_sI, zK_sJ, zK_sR]; assumption)) (by first | assumption | (simp only [zF_sF, zF_sI, zF_sJ, zF_sR, true_and, and_true, false_and, and_false, if_true, if_false, eq_self, reduceIte, Nat.reduceEqDiff, OfNat.ofNat_ne_zero, OfNat.zero_ne_ofNat, OfNat.ofNat_ne_one, OfNat.one_ne_ofNat, reduceCtorEq]; first | rfl | assumption)) ?_
      refine q_iconst (v := 3) dX7_judge_48 (by decide) ?_
      refine q_icmp_ne 74 dX7_judge_49 (by decide) (fun c49 => ?_) (fun c49 => ?_)
      · first | refine q_aload_n dX7_judge_74 rfl ?_ | refine q_aload_nN dX7_judge_74 rfl ?_
        refine q_getf dX7_judge_75 fk_X7_9_6 (by first | assumption | (simp only [zK_sF, zK_sI, zK_sJ, zK_sR]; assumption)) (by first | assumption | (simp only [zF_sF, zF_sI, zF_sJ, zF_sR, true_and, and_true, false_and, and_false, if_true, if_false, eq_self, reduceIte, Nat.reduceEqDiff, OfNat.ofNat_ne_zero, OfNat.zero_ne_ofNat, OfNat.ofNat_ne_one, OfNat.one_ne_ofNat, reduceCtorEq]; first | rfl | assumption)) ?_
        refine q_lload_n dX7_judge_78 rfl ?_
        refine q_callV 5 dX7_judge_79 mk_X7_44 rfl (by first | assumption | (simp only [zK_sF, zK_sI, zK_sJ, zK_sR]; assumption)) (c_X6_hasItem l G _ hs cn c hKs s2) rfl np_X6_hasItem (by first | decide | omega | (dsimp only; omega)) (by first | decide | omega | (dsimp only; omega)) (by first | decide | omega | (dsimp only; omega)) (Nat.le_of_ble_eq_true rfl) (kI (fun r Z2 hp => ?_))
        obtain ⟨rfl, hp⟩ := hp
        refine q_if_ne 95 dX7_judge_82 (by decide) (fun c82 => ?_) (fun c82 => ?_)
        · have hp := rb_t hp c82
          first | refine q_aload_n dX7_judge_95 rfl ?_ | refine q_aload_nN dX7_judge_95 rfl ?_
          refine q_getf dX7_judge_96 fk_X7_9_6 (by first | assumption | (simp only [zK_sF, zK_sI, zK_sJ, zK_sR]; assumption)) (by first | assumption | (simp only [zF_sF, zF_sI, zF_sJ, zF_sR, true_and, and_true, false_and, and_false, if_true, if_false, eq_self, reduceIte, Nat.reduceEqDiff, OfNat.ofNat_ne_zero, OfNat.zero_ne_ofNat, OfNat.ofNat_ne_one, OfNat.one_ne_ofNat, reduceCtorEq]; first | rfl | assumption)) ?_
          refine q_getf dX7_judge_99 fk_X7_48_5 (by first | assumption | (simp only [zK_sF, zK_sI, zK_sJ, zK_sR]; assumption)) (by first | assumption | (simp only [zF_sF, zF_sI, zF_sJ, zF_sR, true_and, and_true, false_and, and_false, if_true, if_false, eq_self, reduceIte, Nat.reduceEqDiff, OfNat.ofNat_ne_zero, OfNat.zero_ne_ofNat, OfNat.ofNat_ne_one, OfNat.one_ne_ofNat, reduceCtorEq]; first | rfl | assumption)) ?_
          refine q_lload_n dX7_judge_102 rfl ?_
          refine q_l2i dX7_judge_103 ?_
          refine q_lald dX7_judge_104 (by first | assumption | (simp only [zK_sF, zK_sI, zK_sJ, zK_sR]; assumption)) (by rw [hLi]; exact (in12L hp.1 hp.2.2).1) ?_
          first | refine q_aload_n dX7_judge_105 rfl ?_ | refine q_aload_nN dX7_judge_105 rfl ?_
          refine q_getf dX7_judge_106 fk_X7_19_6 (by first | assumption | (simp only [zK_sF, zK_sI, zK_sJ, zK_sR]; assumption)) (by first | assumption | (simp only [zF_sF, zF_sI, zF_sJ, zF_sR, true_and, and_true, false_and, and_false, if_true, if_false, eq_self, reduceIte, Nat.reduceEqDiff, OfNat.ofNat_ne_zero, OfNat.zero_ne_ofNat, OfNat.ofNat_ne_one, OfNat.one_ne_ofNat, reduceCtorEq]; first | rfl | assumption)) ?_
          refine q_lcmp_le 117 dX7_judge_109 dX7_judge_110 (by decide) (fun c109 => ?_) (fun c109 => ?_)
          · refine q_iconst (v := 0) dX7_judge_117 (by decide) ?_
            refine q_callSU ⟨RX7, "verdict", "(Z)I"⟩ dX7_judge_118 us_X7_40 us_X7_sm rfl us_st (c_X2_verdict l G _ _) rfl np_X2_verdict (by first | decide | omega | (dsimp only; omega)) (by first | decide | omega | (dsimp only; omega)) (by first | decide | omega | (dsimp only; omega)) (Nat.le_of_ble_eq_true rfl) (kI (fun r Z1 h => ?_))
            obtain ⟨rfl, rfl⟩ := h
            first | rw [if_neg (show ¬ (1 : Int32) = 0 by decide)] | rw [if_pos (show (0 : Int32) = 0 from rfl)]
            exact q_ireturn dX7_judge_121 rfl (by first | decide | omega | (dsimp only; omega)) (by first | decide | omega | (dsimp only; omega)) (by first | (subst c159; exact outP_l (nfV_d n0 n1 n2 n4) h) | exact outP_l (by simp only [nfV_0, nfV_1, nfV_2, nfV_3, nfV_4, sfV_3, sfV_0, *, if_true, if_false, reduceIte, eq_self, not_false_eq_true, not_true_eq_false, and_self, and_true, true_and]) h | exact outP_r (by simp only [nfV_0, nfV_1, nfV_2, nfV_3, nfV_4, sfV_3, sfV_0, *, if_true, if_false, reduceIte, eq_self, not_false_eq_true, not_true_eq_false, and_self, and_true, true_and]) | (refine outP_l ?_ h; simp only [sfV, *, if_true, if_false, reduceIte, eq_self, not_false_eq_true, not_true_eq_false, and_self, and_true, true_and]; done) | (refine outP_r ?_; simp only [sfV, *, if_true, if_false, reduceIte, eq_self, not_false_eq_true, not_true_eq_false, and_self, and_true, true_and]; done))
          · refine q_iconst (v := 1) dX7_judge_113 (by decide) ?_
            refine q_goto 118 dX7_judge_114 (by decide) ?_
            refine q_callSU ⟨RX7, "verdict", "(Z)I"⟩ dX7_judge_118 us_X7_40 us_X7_sm rfl us_st (c_X2_verdict l G _ _) rfl np_X2_verdict (by first | decide | omega | (dsimp only; omega)) (by first | decide | omega | (dsimp only; omega)) (by first | decide | omega | (dsimp only; omega)) (Nat.le_of_ble_eq_true rfl) (kI (fun r Z1 h => ?_))
            obtain ⟨rfl, rfl⟩ := h
            first | rw [if_neg (show ¬ (1 : Int32) = 0 by decide)] | rw [if_pos (show (0 : Int32) = 0 from rfl)]
            exact q_ireturn dX7_judge_121 rfl (by first | decide | omega | (dsimp only; omega)) (by first | decide | omega | (dsimp only; omega)) (by first | (subst c159; exact outP_l (nfV_d n0 n1 n2 n4) h) | exact outP_l (by simp only [nfV_0, nfV_1, nfV_2, nfV_3, nfV_4, sfV_3, sfV_0, *, if_true, if_false, reduceIte, eq_self, not_false_eq_true, not_true_eq_false, and_self, and_true, true_and]) h | exact outP_r (by simp only [nfV_0, nfV_1, nfV_2, nfV_3, nfV_4, sfV_3, sfV_0, *, if_true, if_false, reduceIte, eq_self, not_false_eq_true, not_true_eq_false, and_self, and_true, true_and]) | (refine outP_l ?_ h; simp only [sfV, *, if_true, if_false, reduceIte, eq_self, not_false_eq_true, not_true_eq_false, and_self, and_true, true_and]; done) | (refine outP_r ?_; simp only [sfV, *, if_true, if_false, reduceIte, eq_self, not_false_eq_true, not_true_eq_false, and_self, and_true, true_and]; done))
        · have hp := rb_f hp c82
          first | refine q_aload_n dX7_judge_85 rfl ?_ | refine q_aload_nN dX7_judge_85 rfl ?_
          refine q_iconst (v := 2) dX7_judge_86 (by decide) ?_
          first | refine q_aload_n dX7_judge_87 rfl ?_ | refine q_aload_nN dX7_judge_87 rfl ?_
          refine q_getf dX7_judge_88 fk_X7_28_6 (by first | assumption | (simp only [zK_sF, zK_sI, zK_sJ, zK_sR]; assumption)) (by first | assumption | (simp only [zF_sF, zF_sI, zF_sJ, zF_sR, true_and, and_true, false_and, and_false, if_true, if_false, eq_self, reduceIte, Nat.reduceEqDiff, OfNat.ofNat_ne_zero, OfNat.zero_ne_ofNat, OfNat.ofNat_ne_one, OfNat.one_ne_ofNat, reduceCtorEq]; first | rfl | assumption)) ?_
          refine q_callV 9 dX7_judge_91 mk_X7_31 rfl (by first | assumption | (simp only [zK_sF, zK_sI, zK_sJ, zK_sR]; assumption)) (c_X10_fail l G _ t fl 2 nm hKt hf) rfl np_X10_fail (by first | decide | omega | (dsimp only; omega)) (by first | decide | omega | (dsimp only; omega)) (by first | decide | omega | (dsimp only; omega)) (Nat.le_of_ble_eq_true rfl) (kI (fun r Z1 h => ?_))
          exact q_ireturn dX7_judge_94 rfl (by first | decide | omega | (dsimp only; omega)) (by first | decide | omega | (dsimp only; omega)) (by first | (subst c159; exact outP_l (nfV_d n0 n1 n2 n4) h) | exact outP_l (by simp only [nfV_0, nfV_1, nfV_2, nfV_3, nfV_4, sfV_3, sfV_0, *, if_true, if_false, reduceIte, eq_self, not_false_eq_true, not_true_eq_false, and_self, and_true, true_and]) h | exact outP_r (by simp only [nfV_0, nfV_1, nfV_2, nfV_3, nfV_4, sfV_3, sfV_0, *, if_true, if_false, reduceIte, eq_self, not_false_eq_true, not_true_eq_false, and_self, and_true, true_and]) | (refine outP_l ?_ h; simp only [sfV, *, if_true, if_false, reduceIte, eq_self, not_false_eq_true, not_true_eq_false, and_self, and_true, true_and]; done) | (refine outP_r ?_; simp only [sfV, *, if_true, if_false, reduceIte, eq_self, not_false_eq_true, not_true_eq_false, and_self, and_true, true_and]; done))
      · refine q_lload_n dX7_judge_52 rfl ?_
        first | refine q_aload_n dX7_judge_53 rfl ?_ | refine q_aload_nN dX7_judge_53 rfl ?_
        refine q_getf dX7_judge_54 fk_X7_9_6 (by first | assumption | (simp only [zK_sF, zK_sI, zK_sJ, zK_sR]; assumption)) (by first | assumption | (simp only [zF_sF, zF_sI, zF_sJ, zF_sR, true_and, and_true, false_and, and_false, if_true, if_false, eq_self, reduceIte, Nat.reduceEqDiff, OfNat.ofNat_ne_zero, OfNat.zero_ne_ofNat, OfNat.ofNat_ne_one, OfNat.one_ne_ofNat, reduceCtorEq]; first | rfl | assumption)) ?_
        refine q_getf dX7_judge_57 fk_X7_37_5 (by first | assumption | (simp only [zK_sF, zK_sI, zK_sJ, zK_sR]; assumption)) (by first | assumption | (simp only [zF_sF, zF_sI, zF_sJ, zF_sR, true_and, and_true, false_and, and_false, if_true, if_false, eq_self, reduceIte, Nat.reduceEqDiff, OfNat.ofNat_ne_zero, OfNat.zero_ne_ofNat, OfNat.ofNat_ne_one, OfNat.one_ne_ofNat, reduceCtorEq]; first | rfl | assumption)) ?_
        refine q_i2l dX7_judge_60 ?_
        refine q_lcmp_le 69 dX7_judge_61 dX7_judge_62 (by decide) (fun c61 => ?_) (fun c61 => ?_)
        · refine q_iconst (v := 0) dX7_judge_69 (by decide) ?_
          refine q_callSU ⟨RX7, "verdict", "(Z)I"⟩ dX7_judge_70 us_X7_40 us_X7_sm rfl us_st (c_X2_verdict l G _ _) rfl np_X2_verdict (by first | decide | omega | (dsimp only; omega)) (by first | decide | omega | (dsimp only; omega)) (by first | decide | omega | (dsimp only; omega)) (Nat.le_of_ble_eq_true rfl) (kI (fun r Z1 h => ?_))
          obtain ⟨rfl, rfl⟩ := h
          first | rw [if_neg (show ¬ (1 : Int32) = 0 by decide)] | rw [if_pos (show (0 : Int32) = 0 from rfl)]
          exact q_ireturn dX7_judge_73 rfl (by first | decide | omega | (dsimp only; omega)) (by first | decide | omega | (dsimp only; omega)) (by first | (subst c159; exact outP_l (nfV_d n0 n1 n2 n4) h) | exact outP_l (by simp only [nfV_0, nfV_1, nfV_2, nfV_3, nfV_4, sfV_3, sfV_0, *, if_true, if_false, reduceIte, eq_self, not_false_eq_true, not_true_eq_false, and_self, and_true, true_and]) h | exact outP_r (by simp only [nfV_0, nfV_1, nfV_2, nfV_3, nfV_4, sfV_3, sfV_0, *, if_true, if_false, reduceIte, eq_self, not_false_eq_true, not_true_eq_false, and_self, and_true, true_and]) | (refine outP_l ?_ h; simp only [sfV, *, if_true, if_false, reduceIte, eq_self, not_false_eq_true, not_true_eq_false, and_self, and_true, true_and]; done) | (refine outP_r ?_; simp only [sfV, *, if_true, if_false, reduceIte, eq_self, not_false_eq_true, not_true_eq_false, and_self, and_true, true_and]; done))
        · refine q_iconst (v := 1) dX7_judge_65 (by decide) ?_
          refine q_goto 70 dX7_judge_66 (by decide) ?_
          refine q_callSU ⟨RX7, "verdict", "(Z)I"⟩ dX7_judge_70 us_X7_40 us_X7_sm rfl us_st (c_X2_verdict l G _ _) rfl np_X2_verdict (by first | decide | omega | (dsimp only; omega)) (by first | decide | omega | (dsimp only; omega)) (by first | decide | omega | (dsimp only; omega)) (Nat.le_of_ble_eq_true rfl) (kI (fun r Z1 h => ?_))
          obtain ⟨rfl, rfl⟩ := h
          first | rw [if_neg (show ¬ (1 : Int32) = 0 by decide)] | rw [if_pos (show (0 : Int32) = 0 from rfl)]
          exact q_ireturn dX7_judge_73 rfl (by first | decide | omega | (dsimp only; omega)) (by first | decide | omega | (dsimp only; omega)) (by first | (subst c159; exact outP_l (nfV_d n0 n1 n2 n4) h) | exact outP_l (by simp only [nfV_0, nfV_1, nfV_2, nfV_3, nfV_4, sfV_3, sfV_0, *, if_true, if_false, reduceIte, eq_self, not_false_eq_true, not_true_eq_false, and_self, and_true, true_and]) h | exact outP_r (by simp only [nfV_0, nfV_1, nfV_2, nfV_3, nfV_4, sfV_3, sfV_0, *, if_true, if_false, reduceIte, eq_self, not_false_eq_true, not_true_eq_false, and_self, and_true, true_and]) | (refine outP_l ?_ h; simp only [sfV, *, if_true, if_false, reduceIte, eq_self, not_false_eq_true, not_true_eq_false, and_self, and_true, true_and]; done) | (refine outP_r ?_; simp only [sfV, *, if_true, if_false, reduceIte, eq_self, not_false_eq_true, not_true_eq_false, and_self, and_true, true_and]; done))
    · first | refine q_aload_n dX7_judge_34 rfl ?_ | refine q_aload_nN dX7_judge_34 rfl ?_
      refine q_iconst (v := 5) dX7_judge_35 (by decide) ?_
      first | refine q_aload_n dX7_judge_36 rfl ?_ | refine q_aload_nN dX7_judge_36 rfl ?_
      refine q_getf dX7_judge_37 fk_X7_28_6 (by first | assumption | (simp only [zK_sF, zK_sI, zK_sJ, zK_sR]; assumption)) (by first | assumption | (simp only [zF_sF, zF_sI, zF_sJ, zF_sR, true_and, and_true, false_and, and_false, if_true, if_false, eq_self, reduceIte, Nat.reduceEqDiff, OfNat.ofNat_ne_zero, OfNat.zero_ne_ofNat, OfNat.ofNat_ne_one, OfNat.one_ne_ofNat, reduceCtorEq]; first | rfl | assumption)) ?_
      refine q_callV 9 dX7_judge_40 mk_X7_31 rfl (by first | assumption | (simp only [zK_sF, zK_sI, zK_sJ, zK_sR]; assumption)) (c_X10_fail l G _ t fl 5 nm hKt hf) rfl np_X10_fail (by first | decide | omega | (dsimp only; omega)) (by first | decide | omega | (dsimp only; omega)) (by first | decide | omega | (dsimp only; omega)) (Nat.le_of_ble_eq_true rfl) (kI (fun r Z1 h => ?_))
      exact q_ireturn dX7_judge_43 rfl (by first | decide | omega | (dsimp only; omega)) (by first | decide | omega | (dsimp only; omega)) (by first | (subst c159; exact outP_l (nfV_d n0 n1 n2 n4) h) | exact outP_l (by simp only [nfV_0, nfV_1, nfV_2, nfV_3, nfV_4, sfV_3, sfV_0, *, if_true, if_false, reduceIte, eq_self, not_false_eq_true, not_true_eq_false, and_self, and_true, true_and]) h | exact outP_r (by simp only [nfV_0, nfV_1, nfV_2, nfV_3, nfV_4, sfV_3, sfV_0, *, if_true, if_false, reduceIte, eq_self, not_false_eq_true, not_true_eq_false, and_self, and_true, true_and]) | (refine outP_l ?_ h; simp only [sfV, *, if_true, if_false, reduceIte, eq_self, not_false_eq_true, not_true_eq_false, and_self, and_true, true_and]; done) | (refine outP_r ?_; simp only [sfV, *, if_true, if_false, reduceIte, eq_self, not_false_eq_true, not_true_eq_false, and_self, and_true, true_and]; done))
  · first | refine q_aload_n dX7_judge_10 rfl ?_ | refine q_aload_nN dX7_judge_10 rfl ?_
    refine q_iconst (v := 1) dX7_judge_11 (by decide) ?_
    first | refine q_aload_n dX7_judge_12 rfl ?_ | refine q_aload_nN dX7_judge_12 rfl ?_
    refine q_getf dX7_judge_13 fk_X7_28_6 (by first | assumption | (simp only [zK_sF, zK_sI, zK_sJ, zK_sR]; assumption)) (by first | assumption | (simp only [zF_sF, zF_sI, zF_sJ, zF_sR, true_and, and_true, false_and, and_false, if_true, if_false, eq_self, reduceIte, Nat.reduceEqDiff, OfNat.ofNat_ne_zero, OfNat.zero_ne_ofNat, OfNat.ofNat_ne_one, OfNat.one_ne_ofNat, reduceCtorEq]; first | rfl | assumption)) ?_
    refine q_callV 9 dX7_judge_16 mk_X7_31 rfl (by first | assumption | (simp only [zK_sF, zK_sI, zK_sJ, zK_sR]; assumption)) (c_X10_fail l G _ t fl 1 nm hKt hf) rfl np_X10_fail (by first | decide | omega | (dsimp only; omega)) (by first | decide | omega | (dsimp only; omega)) (by first | decide | omega | (dsimp only; omega)) (Nat.le_of_ble_eq_true rfl) (kI (fun r Z1 h => ?_))
    exact q_ireturn dX7_judge_19 rfl (by first | decide | omega | (dsimp only; omega)) (by first | decide | omega | (dsimp only; omega)) (by first | (subst c159; exact outP_l (nfV_d n0 n1 n2 n4) h) | exact outP_l (by simp only [nfV_0, nfV_1, nfV_2, nfV_3, nfV_4, sfV_3, sfV_0, *, if_true, if_false, reduceIte, eq_self, not_false_eq_true, not_true_eq_false, and_self, and_true, true_and]) h | exact outP_r (by simp only [nfV_0, nfV_1, nfV_2, nfV_3, nfV_4, sfV_3, sfV_0, *, if_true, if_false, reduceIte, eq_self, not_false_eq_true, not_true_eq_false, and_self, and_true, true_and]) | (refine outP_l ?_ h; simp only [sfV, *, if_true, if_false, reduceIte, eq_self, not_false_eq_true, not_true_eq_false, and_self, and_true, true_and]; done) | (refine outP_r ?_; simp only [sfV, *, if_true, if_false, reduceIte, eq_self, not_false_eq_true, not_true_eq_false, and_self, and_true, true_and]; done))
set_option maxHeartbeats 600000 in
set_option maxRecDepth 100000 in
theorem c_X1_judge_b (l : Launch) (G : Gt) (Z : Zt) (b : Nat) (a t hb tg : Nat) (nm nb it fl : Int32) (c : Int64) (hK : zK Z a = 2) (h0 : zF Z 0 a = .int nm) (h2 : zF Z 2 a = .ref hb) (h3 : zF Z 3 a = .int it) (hKb : zK Z hb = 1) (b0 : zF Z 0 hb = .ref tg) (b1 : zF Z 1 hb = .int nb) (hKg : zK Z tg = 20) (hLg : zL Z tg = 3) (hi : vp_in it 3) (hi0 : ¬ it < 0) (hi3 : ¬ 3 ≤ it) (hKt : zK Z t = 10) (hf : zF Z 4 t = .int fl) : Ct l G YX1_judge (b + 2, 0, 0) Z [.ref a, .long c, .ref t] (ΦI (fun r Z1 => ((if nb = 0 then thF c = 1 ∨ thF c = 2 else if nb = 1 then thF c = 2 else True) → r = 1 ∧ Z1 = sI Z tg it.toNatClampNeg (thF c)) ∧ (¬ (if nb = 0 then thF c = 1 ∨ thF c = 2 else if nb = 1 then thF c = 2 else True) → failP Z Z1 t fl nm 4 r))) := by
  refine ct_of [some (.ref a), some (.long c), none, some (.ref t)] (by decide +kernel) (Nat.le_of_ble_eq_true rfl) rfl (fun M => ?_)
  first | refine q_aload_n dX1_judge_0 rfl ?_ | refine q_aload_nN dX1_judge_0 rfl ?_
  refine q_getf dX1_judge_1 fk_X1_9_1 (by first | assumption | (simp only [zK_sF, zK_sI, zK_sJ, zK_sR]; assumption)) (by first | assumption | (simp only [zF_sF, zF_sI, zF_sJ, zF_sR, true_and, and_true, false_and, and_false, if_true, if_false, eq_self, reduceIte, Nat.reduceEqDiff, OfNat.ofNat_ne_zero, OfNat.zero_ne_ofNat, OfNat.ofNat_ne_one, OfNat.one_ne_ofNat, reduceCtorEq]; first | rfl | assumption)) ?_
  first | refine q_aload_n dX1_judge_4 rfl ?_ | refine q_aload_nN dX1_judge_4 rfl ?_
  refine q_getf dX1_judge_5 fk_X1_15_1 (by first | assumption | (simp only [zK_sF, zK_sI, zK_sJ, zK_sR]; assumption)) (by first | assumption | (simp only [zF_sF, zF_sI, zF_sJ, zF_sR, true_and, and_true, false_and, and_false, if_true, if_false, eq_self, reduceIte, Nat.reduceEqDiff, OfNat.ofNat_ne_zero, OfNat.zero_ne_ofNat, OfNat.ofNat_ne_one, OfNat.one_ne_ofNat, reduceCtorEq]; first | rfl | assumption)) ?_
  refine q_lload_n dX1_judge_8 rfl ?_
  refine q_callS dX1_judge_9 mk_X1_19 (c_X1_thingFor l G _ c) rfl np_X1_thingFor (by first | decide | omega | (dsimp only; omega)) (by first | decide | omega | (dsimp only; omega)) (by first | decide | omega | (dsimp only; omega)) (Nat.le_of_ble_eq_true rfl) (kI (fun r Z1 h => ?_))
  obtain ⟨rfl, rfl⟩ := h
  refine q_callV 0 dX1_judge_12 mk_X1_23 rfl (by first | assumption | (simp only [zK_sF, zK_sI, zK_sJ, zK_sR]; assumption)) (c_X0_put l G _ hb tg nb it (thF c) hKb b1 b0 hKg hLg hi hi0 hi3) rfl np_X0_put (by first | decide | omega | (dsimp only; omega)) (by first | decide | omega | (dsimp only; omega)) (by first | decide | omega | (dsimp only; omega)) (Nat.le_of_ble_eq_true rfl) (kI (fun r Z1 h => ?_))
  refine q_if_eq 22 dX1_judge_15 (by decide) (fun c15 => ?_) (fun c15 => ?_)
  · have hp : ¬ (if nb = 0 then thF c = 1 ∨ thF c = 2 else if nb = 1 then thF c = 2 else True) := fun z => absurd ((h.1 z).1.symm.trans c15) (by decide)
    obtain ⟨rfl, rfl⟩ := h.2 hp
    first | refine q_aload_n dX1_judge_22 rfl ?_ | refine q_aload_nN dX1_judge_22 rfl ?_
    refine q_iconst (v := 4) dX1_judge_23 (by decide) ?_
    first | refine q_aload_n dX1_judge_24 rfl ?_ | refine q_aload_nN dX1_judge_24 rfl ?_
    refine q_getf dX1_judge_25 fk_X1_29_1 (by first | assumption | (simp only [zK_sF, zK_sI, zK_sJ, zK_sR]; assumption)) (by first | assumption | (simp only [zF_sF, zF_sI, zF_sJ, zF_sR, true_and, and_true, false_and, and_false, if_true, if_false, eq_self, reduceIte, Nat.reduceEqDiff, OfNat.ofNat_ne_zero, OfNat.zero_ne_ofNat, OfNat.ofNat_ne_one, OfNat.one_ne_ofNat, reduceCtorEq]; first | rfl | assumption)) ?_
    refine q_callV 9 dX1_judge_28 mk_X1_32 rfl (by first | assumption | (simp only [zK_sF, zK_sI, zK_sJ, zK_sR]; assumption)) (c_X10_fail l G _ t fl 4 nm hKt hf) rfl np_X10_fail (by first | decide | omega | (dsimp only; omega)) (by first | decide | omega | (dsimp only; omega)) (by first | decide | omega | (dsimp only; omega)) (Nat.le_of_ble_eq_true rfl) (kI (fun r Z2 h5 => ?_))
    exact q_ireturn dX1_judge_31 rfl (by first | decide | omega | (dsimp only; omega)) (by first | decide | omega | (dsimp only; omega)) (by first | exact ⟨fun _ => ⟨rfl, rfl⟩, fun z => absurd hp z⟩ | exact ⟨fun z => absurd z hp, fun _ => h5⟩)
  · have hp : (if nb = 0 then thF c = 1 ∨ thF c = 2 else if nb = 1 then thF c = 2 else True) := Classical.byContradiction fun z => c15 (h.2 z).1
    obtain ⟨rfl, rfl⟩ := h.1 hp
    refine q_iconst (v := 1) dX1_judge_18 (by decide) ?_
    refine q_goto 31 dX1_judge_19 (by decide) ?_
    exact q_ireturn dX1_judge_31 rfl (by first | decide | omega | (dsimp only; omega)) (by first | decide | omega | (dsimp only; omega)) (by first | exact ⟨fun _ => ⟨rfl, rfl⟩, fun z => absurd hp z⟩ | exact ⟨fun z => absurd z hp, fun _ => h5⟩)
/-- a contract of judge, whichever class the receiver has -/
def JC (l : Launch) (G : Gt) (B : Bt) (Z : Zt) (a : Nat) (av : List Value) (Φ : Option Value → Zt → Prop) : Prop := (zK Z a = 7 ∧ Ct l G YX7_judge B Z (.ref a :: av) Φ) ∨ (zK Z a = 2 ∧ Ct l G YX1_judge B Z (.ref a :: av) Φ) ∨ (zK Z a = 3 ∧ Ct l G YX3_judge B Z (.ref a :: av) Φ) ∨ (zK Z a = 4 ∧ Ct l G YX4_judge B Z (.ref a :: av) Φ)
theorem q_callJ {l : Launch} {G : Gt} {Y : Yt} {B B' : Bt} {M : Mt} {Z : Zt} {cells slots : Nat} {Q : State → Prop} {pc : Nat} {ls : List (Option Value)} {st rest av : List Value} {Φ : Option Value → Zt → Prop} {i b : Nat} (hd : decode Y.2.1 pc = .ok (.invokevirtual i, 3)) (u1 : uOK Y.1.cls i xJ YX1_judge) (u3 : uOK Y.1.cls i xJ YX3_judge) (u4 : uOK Y.1.cls i xJ YX4_judge) (u7 : uOK Y.1.cls i xJ YX7_judge) (hM : JC l G B' Z b av Φ) (hst : st = av.reverse ++ .ref b :: rest) (hn : av.length = 2) (hB : B'.1 + 1 ≤ B.1) (hc : cells + B'.2.1 ≤ B.2.1) (hs : slots + B'.2.2 ≤ B.2.2) (hW : (rest.map fun v => v.category).sum ≤ 8)
    (kk : ∀ (v : Option Value) (Z' : Zt), Φ v Z' → Jd l G Y B M Z' (cells + B'.2.1) (slots + B'.2.2) Q (pc + 3) ls (v.toList ++ rest)) : Jd l G Y B M Z cells slots Q pc ls st := by
  rcases hM with ⟨hk, hM⟩ | ⟨hk, hM⟩ | ⟨hk, hM⟩ | ⟨hk, hM⟩
  · exact q_callU xJ 6 RX7 hd u7 uj_sm (by decide +kernel) uj_dc uj_sel_X7 uj_im_X7 rfl hk hM hst (by rw [hn]; exact np_X7_judge) hB hc hs hW kk
  · exact q_callU xJ 1 RX1 hd u1 uj_sm (by decide +kernel) uj_dc uj_sel_X1 uj_im_X1 rfl hk hM hst (by rw [hn]; exact np_X1_judge) hB hc hs hW kk
  · exact q_callU xJ 2 RX3 hd u3 uj_sm (by decide +kernel) uj_dc uj_sel_X3 uj_im_X3 rfl hk hM hst (by rw [hn]; exact np_X3_judge) hB hc hs hW kk
  · exact q_callU xJ 3 RX4 hd u4 uj_sm (by decide +kernel) uj_dc uj_sel_X4 uj_im_X4 rfl hk hM hst (by rw [hn]; exact np_X4_judge) hB hc hs hW kk
theorem Ct.mono {l : Launch} {G : Gt} {Y : Yt} {B : Bt} {Z : Zt} {av : List Value} {Φ Φ' : Option Value → Zt → Prop} (h : Ct l G Y B Z av Φ) (hΦ : ∀ v Z', Φ v Z' → Φ' v Z') : Ct l G Y B Z av Φ' := by
  unfold Ct Met at h ⊢
  refine MetFree.mono h (fun _ _ h => h) (fun _ _ _ _ _ h => h) (fun a st o t _ hq => ⟨?_, hq.2⟩)
  obtain ⟨v, Z', e1, e2, e3⟩ := hq.1
  exact ⟨v, Z', e1, hΦ v Z' e2, e3⟩
noncomputable def askS (σ : St) (f : Nat) : St := if σ.1 7 f = 11 then pI σ 12 f (σ.1 12 f + 1) else σ
theorem jS_made {n f : Nat} {c : Int64} {σ : St} (h : 7 ≤ σ.1 7 f ∧ σ.1 7 f ≤ 11) : jS (n + 1) f c σ = @ite _ (made2 (σ.1 7 f) (jS n (σ.1 8 f).toNatClampNeg c (askS σ f)).1) (Classical.propDecidable _) (jS n (σ.1 9 f).toNatClampNeg c (jS n (σ.1 8 f).toNatClampNeg c (askS σ f)).2) (madeR (σ.1 7 f) (jS n (σ.1 8 f).toNatClampNeg c (askS σ f)).1, (jS n (σ.1 8 f).toNatClampNeg c (askS σ f)).2) := by
  rw [jS, if_neg, if_neg, if_pos h]
  · rfl
  · intro e; rw [e] at h; exact absurd h (by decide)
  · rintro (e | e) <;> (rw [e] at h; exact absurd h (by decide))
theorem made2_iff {k r : Int32} (h : 8 ≤ k ∧ k ≤ 10) : (if k = 8 then r = 1 else if k = 9 then r = 0 else ¬ 0 ≤ r ∧ ¬ r = -18) ↔ made2 k r := by
  unfold made2
  by_cases h8 : k = 8
  · subst h8; simp
  · rw [if_neg h8]
    by_cases h9 : k = 9
    · subst h9; simp
    · rw [if_neg h9]
      have h10 : k = 10 := by
        have a1 := Int32.le_iff_toInt_le.mp h.1
        have a2 := Int32.le_iff_toInt_le.mp h.2
        have a3 : k.toInt ≠ 8 := fun e => h8 (Int32.toInt_inj.mp e)
        have a4 : k.toInt ≠ 9 := fun e => h9 (Int32.toInt_inj.mp e)
        have a5 : (8 : Int32).toInt = 8 := by decide
        have a6 : (10 : Int32).toInt = 10 := by decide
        exact Int32.toInt_inj.mp (by omega)
      subst h10
      constructor
      · intro z; exact Or.inr (Or.inr ⟨rfl, z⟩)
      · rintro (z | z | z)
        · exact absurd z.1 h8
        · exact absurd z.1 h9
        · exact z.2
theorem made2_not {k r : Int32} (h : ¬ (8 ≤ k ∧ k ≤ 10)) : ¬ made2 k r := by
  rintro (⟨rfl, -⟩ | ⟨rfl, -⟩ | ⟨rfl, -⟩) <;> exact h (by decide)
/-- what judge owes of the filter f, at the depth n -/
def jPost (x : Nat) (σ : St) (af : Nat → Nat) (nf n f : Nat) (c : Int64) (Z : Zt) : Option Value → Zt → Prop := ΦI (fun r Z1 => r = (jS n f c σ).1 ∧ FIs Z1 x (jS n f c σ).2 af nf ∧ JF x Z Z1)
set_option maxHeartbeats 600000 in
set_option maxRecDepth 100000 in
theorem cj_made_one (l : Launch) (G : Gt) (Z : Zt) (x n nf f g : Nat) (af : Nat → Nat) (σ : St) (c : Int64) (hF : FIs Z x σ af nf) (hf : f < nf) (hd : dpt σ f ≤ n + 1) (hm : 7 ≤ σ.1 7 f ∧ σ.1 7 f ≤ 11) (ta : Int32) (h5 : zF Z 5 (af f) = .int ta) (hg : g < f) (hg8 : σ.1 8 f = nI g) (h3 : zF Z 3 (af f) = .ref (af g)) (hgd : dpt σ g < dpt σ f) (ih : ∀ (f : Nat) (c : Int64) (Z : Zt) (σ : St), f < nf → dpt σ f ≤ n → FIs Z x σ af nf → JC l G (n + 3, 0, 0) Z (af f) [.long c, .ref (x + 5)] (jPost x σ af nf n f c Z)) (h4 : zF Z 4 (af f) = .null) (hk : ¬ (8 ≤ σ.1 7 f ∧ σ.1 7 f ≤ 10)) : Ct l G YX3_judge (n + 4, 0, 0) Z [.ref (af f), .long c, .ref (x + 5)] (jPost x σ af nf (n + 1) f c Z) := by
  refine ct_of [some (.ref (af f)), some (.long c), none, some (.ref (x + 5)), none] (by decide +kernel) (Nat.le_of_ble_eq_true rfl) rfl (fun M => ?_)
  obtain ⟨ho, ho5⟩ := hF.2.2.2.2.2.2 f hf
  have hK := (ho.2.2.2.1 hm).1
  have h2 := (ho.2.2.2.1 hm).2.1
  have haf := ho.1.1
  have hnf := hF.2.2.2.2.2.1
  have hgc : (σ.1 8 f).toNatClampNeg = g := by rw [hg8]; exact nI_clamp (by omega)
  obtain ⟨hF1, hJ1⟩ := FIs_ask hF hf hm h5
  have hdg : dpt (askS σ f) g ≤ n := by
    have : dpt (askS σ f) g = dpt σ g := by
      unfold dpt askS
      split
      · rw [pI_ne (by decide)]
      · rfl
    omega
  first | refine q_aload_n dX3_judge_0 rfl ?_ | refine q_aload_nN dX3_judge_0 rfl ?_
  refine q_dup dX3_judge_1 rfl ?_
  refine q_getf dX3_judge_2 fk_X3_29_2 (by first | assumption | (simp only [zK_sF, zK_sI, zK_sJ, zK_sR]; assumption)) (by first | assumption | (simp only [zF_sF, zF_sI, zF_sJ, zF_sR, true_and, and_true, false_and, and_false, if_true, if_false, eq_self, reduceIte, Nat.reduceEqDiff, OfNat.ofNat_ne_zero, OfNat.zero_ne_ofNat, OfNat.ofNat_ne_one, OfNat.one_ne_ofNat, reduceCtorEq]; first | rfl | assumption)) ?_
  refine q_iconst (v := 1) dX3_judge_5 (by decide) ?_
  refine q_iadd dX3_judge_6 ?_
  refine q_putf dX3_judge_7 fk_X3_29_2 rfl (by first | assumption | (simp only [zK_sF, zK_sI, zK_sJ, zK_sR]; assumption)) rfl rfl ?_
  first | refine q_aload_n dX3_judge_10 rfl ?_ | refine q_aload_nN dX3_judge_10 rfl ?_
  refine q_getf dX3_judge_11 fk_X3_22_2 (by first | assumption | (simp only [zK_sF, zK_sI, zK_sJ, zK_sR]; assumption)) (by first | assumption | (simp only [zF_sF, zF_sI, zF_sJ, zF_sR, true_and, and_true, false_and, and_false, if_true, if_false, eq_self, reduceIte, Nat.reduceEqDiff, OfNat.ofNat_ne_zero, OfNat.zero_ne_ofNat, OfNat.ofNat_ne_one, OfNat.one_ne_ofNat, reduceCtorEq]; first | rfl | assumption)) ?_
  refine q_lload_n dX3_judge_14 rfl ?_
  first | refine q_aload_n dX3_judge_15 rfl ?_ | refine q_aload_nN dX3_judge_15 rfl ?_
  refine q_callJ dX3_judge_16 uj_X3_X1 uj_X3_X3 uj_X3_X4 uj_X3_X7 (ih g c _ (askS σ f) (by omega) hdg hF1) rfl rfl (by first | decide | omega | (dsimp only; omega)) (by first | decide | omega | (dsimp only; omega)) (by first | decide | omega | (dsimp only; omega)) (Nat.le_of_ble_eq_true rfl) (kI (fun r16 Z16 h16 => ?_))
  obtain ⟨hr16, hF16, hJ16⟩ := h16
  have hj := hJ1.tr hJ16
  have hKb : zK Z16 (af f) = 3 := by rw [hj.1]; exact hK
  have h2b : zF Z16 2 (af f) = .int (σ.1 7 f) := (hj.2.2.2.2.2.1 2 (af f) (by omega) (by omega)).trans h2
  have hkp := kp4_jS n g c (askS σ f)
  refine q_istore (ls' := [_, _, _, _, _]) dX3_judge_19 rfl rfl (Nat.le_of_ble_eq_true rfl) (by decide) ?_
  first | refine q_aload_n dX3_judge_21 rfl ?_ | refine q_aload_nN dX3_judge_21 rfl ?_
  have hnm := made2_not (r := (jS n g c (askS σ f)).1) hk
  have jPe := jS_made (n := n) (c := c) hm
  rw [hgc] at jPe
  refine q_getf dX3_judge_22 fk_X3_26_2 hKb ((hj.2.2.2.2.2.1 4 (af f) (by omega) (by omega)).trans h4) ?_
  refine q_ifnullN 47 dX3_judge_25 (by decide) ?_
  first | refine q_aload_n dX3_judge_47 rfl ?_ | refine q_aload_nN dX3_judge_47 rfl ?_
  refine q_getf dX3_judge_48 fk_X3_17_2 hKb h2b ?_
  refine q_bipush (v := 7) dX3_judge_51 (by decide) ?_
  refine q_icmp_ne 68 dX3_judge_53 (by decide) (fun c53 => ?_) (fun c53 => ?_)
  · refine q_iload dX3_judge_68 rfl ?_
    exact q_ireturn dX3_judge_70 rfl (by first | decide | omega | (dsimp only; omega)) (by first | decide | omega | (dsimp only; omega)) (by rw [jPe, if_neg hnm]; exact ⟨by rw [hr16]; first | exact (if_pos ⟨c53, by rw [← hr16]; exact Int32.not_lt.mp c58⟩).symm | exact (if_neg (fun z => c53 z.1)).symm | exact (if_neg (fun z => absurd z.2 (by rw [← hr16]; exact Int32.not_le.mpr c58))).symm, hF16, hj⟩)
  · refine q_iload dX3_judge_56 rfl ?_
    refine q_if_lt 68 dX3_judge_58 (by decide) (fun c58 => ?_) (fun c58 => ?_)
    · refine q_iload dX3_judge_68 rfl ?_
      exact q_ireturn dX3_judge_70 rfl (by first | decide | omega | (dsimp only; omega)) (by first | decide | omega | (dsimp only; omega)) (by rw [jPe, if_neg hnm]; exact ⟨by rw [hr16]; first | exact (if_pos ⟨c53, by rw [← hr16]; exact Int32.not_lt.mp c58⟩).symm | exact (if_neg (fun z => c53 z.1)).symm | exact (if_neg (fun z => absurd z.2 (by rw [← hr16]; exact Int32.not_le.mpr c58))).symm, hF16, hj⟩)
    · refine q_iconst (v := 1) dX3_judge_61 (by decide) ?_
      refine q_iload dX3_judge_62 rfl ?_
      refine q_isub dX3_judge_64 ?_
      refine q_goto 70 dX3_judge_65 (by decide) ?_
      exact q_ireturn dX3_judge_70 rfl (by first | decide | omega | (dsimp only; omega)) (by first | decide | omega | (dsimp only; omega)) (by rw [jPe, if_neg hnm]; exact ⟨by rw [hr16]; first | exact (if_pos ⟨c53, by rw [← hr16]; exact Int32.not_lt.mp c58⟩).symm | exact (if_neg (fun z => c53 z.1)).symm | exact (if_neg (fun z => absurd z.2 (by rw [← hr16]; exact Int32.not_le.mpr c58))).symm, hF16, hj⟩)
set_option maxHeartbeats 600000 in
set_option maxRecDepth 100000 in
theorem cj_made_two (l : Launch) (G : Gt) (Z : Zt) (x n nf f g : Nat) (af : Nat → Nat) (σ : St) (c : Int64) (hF : FIs Z x σ af nf) (hf : f < nf) (hd : dpt σ f ≤ n + 1) (hm : 7 ≤ σ.1 7 f ∧ σ.1 7 f ≤ 11) (ta : Int32) (h5 : zF Z 5 (af f) = .int ta) (hg : g < f) (hg8 : σ.1 8 f = nI g) (h3 : zF Z 3 (af f) = .ref (af g)) (hgd : dpt σ g < dpt σ f) (ih : ∀ (f : Nat) (c : Int64) (Z : Zt) (σ : St), f < nf → dpt σ f ≤ n → FIs Z x σ af nf → JC l G (n + 3, 0, 0) Z (af f) [.long c, .ref (x + 5)] (jPost x σ af nf n f c Z)) (h : Nat) (hh : h < f) (hh9 : σ.1 9 f = nI h) (h4 : zF Z 4 (af f) = .ref (af h)) (hhd : dpt σ h < dpt σ f) (hk : 8 ≤ σ.1 7 f ∧ σ.1 7 f ≤ 10) : Ct l G YX3_judge (n + 4, 0, 0) Z [.ref (af f), .long c, .ref (x + 5)] (jPost x σ af nf (n + 1) f c Z) := by
  refine ct_of [some (.ref (af f)), some (.long c), none, some (.ref (x + 5)), none] (by decide +kernel) (Nat.le_of_ble_eq_true rfl) rfl (fun M => ?_)
  obtain ⟨ho, ho5⟩ := hF.2.2.2.2.2.2 f hf
  have hK := (ho.2.2.2.1 hm).1
  have h2 := (ho.2.2.2.1 hm).2.1
  have haf := ho.1.1
  have hnf := hF.2.2.2.2.2.1
  have hgc : (σ.1 8 f).toNatClampNeg = g := by rw [hg8]; exact nI_clamp (by omega)
  obtain ⟨hF1, hJ1⟩ := FIs_ask hF hf hm h5
  have hdg : dpt (askS σ f) g ≤ n := by
    have : dpt (askS σ f) g = dpt σ g := by
      unfold dpt askS
      split
      · rw [pI_ne (by decide)]
      · rfl
    omega
  first | refine q_aload_n dX3_judge_0 rfl ?_ | refine q_aload_nN dX3_judge_0 rfl ?_
  refine q_dup dX3_judge_1 rfl ?_
  refine q_getf dX3_judge_2 fk_X3_29_2 (by first | assumption | (simp only [zK_sF, zK_sI, zK_sJ, zK_sR]; assumption)) (by first | assumption | (simp only [zF_sF, zF_sI, zF_sJ, zF_sR, true_and, and_true, false_and, and_false, if_true, if_false, eq_self, reduceIte, Nat.reduceEqDiff, OfNat.ofNat_ne_zero, OfNat.zero_ne_ofNat, OfNat.ofNat_ne_one, OfNat.one_ne_ofNat, reduceCtorEq]; first | rfl | assumption)) ?_
  refine q_iconst (v := 1) dX3_judge_5 (by decide) ?_
  refine q_iadd dX3_judge_6 ?_
  refine q_putf dX3_judge_7 fk_X3_29_2 rfl (by first | assumption | (simp only [zK_sF, zK_sI, zK_sJ, zK_sR]; assumption)) rfl rfl ?_
  first | refine q_aload_n dX3_judge_10 rfl ?_ | refine q_aload_nN dX3_judge_10 rfl ?_
  refine q_getf dX3_judge_11 fk_X3_22_2 (by first | assumption | (simp only [zK_sF, zK_sI, zK_sJ, zK_sR]; assumption)) (by first | assumption | (simp only [zF_sF, zF_sI, zF_sJ, zF_sR, true_and, and_true, false_and, and_false, if_true, if_false, eq_self, reduceIte, Nat.reduceEqDiff, OfNat.ofNat_ne_zero, OfNat.zero_ne_ofNat, OfNat.ofNat_ne_one, OfNat.one_ne_ofNat, reduceCtorEq]; first | rfl | assumption)) ?_
  refine q_lload_n dX3_judge_14 rfl ?_
  first | refine q_aload_n dX3_judge_15 rfl ?_ | refine q_aload_nN dX3_judge_15 rfl ?_
  refine q_callJ dX3_judge_16 uj_X3_X1 uj_X3_X3 uj_X3_X4 uj_X3_X7 (ih g c _ (askS σ f) (by omega) hdg hF1) rfl rfl (by first | decide | omega | (dsimp only; omega)) (by first | decide | omega | (dsimp only; omega)) (by first | decide | omega | (dsimp only; omega)) (Nat.le_of_ble_eq_true rfl) (kI (fun r16 Z16 h16 => ?_))
  obtain ⟨hr16, hF16, hJ16⟩ := h16
  have hj := hJ1.tr hJ16
  have hKb : zK Z16 (af f) = 3 := by rw [hj.1]; exact hK
  have h2b : zF Z16 2 (af f) = .int (σ.1 7 f) := (hj.2.2.2.2.2.1 2 (af f) (by omega) (by omega)).trans h2
  have hkp := kp4_jS n g c (askS σ f)
  refine q_istore (ls' := [_, _, _, _, _]) dX3_judge_19 rfl rfl (Nat.le_of_ble_eq_true rfl) (by decide) ?_
  first | refine q_aload_n dX3_judge_21 rfl ?_ | refine q_aload_nN dX3_judge_21 rfl ?_
  have h4b : zF Z16 4 (af f) = .ref (af h) := (hj.2.2.2.2.2.1 4 (af f) (by omega) (by omega)).trans h4
  have hhc : (σ.1 9 f).toNatClampNeg = h := by rw [hh9]; exact nI_clamp (by omega)
  have jPe := jS_made (n := n) (c := c) hm
  rw [hgc, hhc] at jPe
  have hdh : dpt (jS n g c (askS σ f)).2 h ≤ n := by
    have e1 : dpt (jS n g c (askS σ f)).2 h = dpt (askS σ f) h := by unfold dpt; rw [hkp.1 11 (by decide) (by decide) (by decide) (by decide)]
    have e2 : dpt (askS σ f) h = dpt σ h := by
      unfold dpt askS
      split
      · rw [pI_ne (by decide)]
      · rfl
    omega
  refine q_getf dX3_judge_22 fk_X3_26_2 hKb h4b ?_
  refine q_ifnull dX3_judge_25 ?_
  first | refine q_aload_n dX3_judge_28 rfl ?_ | refine q_aload_nN dX3_judge_28 rfl ?_
  refine q_iload dX3_judge_29 rfl ?_
  refine q_callV 2 dX3_judge_31 mk_X3_36 rfl hKb (c_X3_leavesItToSecond l G Z16 (af f) (σ.1 7 f) r16 hKb h2b) rfl np_X3_leavesItToSecond (by first | decide | omega | (dsimp only; omega)) (by first | decide | omega | (dsimp only; omega)) (by first | decide | omega | (dsimp only; omega)) (Nat.le_of_ble_eq_true rfl) (kI (fun r31 Z31 hL => ?_))
  obtain ⟨rfl, hL⟩ := hL
  have hme := made2_iff (r := r16) hk
  refine q_if_eq 47 dX3_judge_34 (by decide) (fun c34 => ?_) (fun c34 => ?_)
  · have hnm : ¬ made2 (σ.1 7 f) (jS n g c (askS σ f)).1 := fun z => rb_f hL c34 (hme.mpr (by rw [hr16]; exact z))
    first | refine q_aload_n dX3_judge_47 rfl ?_ | refine q_aload_nN dX3_judge_47 rfl ?_
    refine q_getf dX3_judge_48 fk_X3_17_2 hKb h2b ?_
    refine q_bipush (v := 7) dX3_judge_51 (by decide) ?_
    refine q_icmp_ne 68 dX3_judge_53 (by decide) (fun c53 => ?_) (fun c53 => ?_)
    · refine q_iload dX3_judge_68 rfl ?_
      exact q_ireturn dX3_judge_70 rfl (by first | decide | omega | (dsimp only; omega)) (by first | decide | omega | (dsimp only; omega)) (by rw [jPe, if_neg hnm]; exact ⟨by rw [hr16]; first | exact (if_pos ⟨c53, by rw [← hr16]; exact Int32.not_lt.mp c58⟩).symm | exact (if_neg (fun z => c53 z.1)).symm | exact (if_neg (fun z => absurd z.2 (by rw [← hr16]; exact Int32.not_le.mpr c58))).symm, hF16, hj⟩)
    · refine q_iload dX3_judge_56 rfl ?_
      refine q_if_lt 68 dX3_judge_58 (by decide) (fun c58 => ?_) (fun c58 => ?_)
      · refine q_iload dX3_judge_68 rfl ?_
        exact q_ireturn dX3_judge_70 rfl (by first | decide | omega | (dsimp only; omega)) (by first | decide | omega | (dsimp only; omega)) (by rw [jPe, if_neg hnm]; exact ⟨by rw [hr16]; first | exact (if_pos ⟨c53, by rw [← hr16]; exact Int32.not_lt.mp c58⟩).symm | exact (if_neg (fun z => c53 z.1)).symm | exact (if_neg (fun z => absurd z.2 (by rw [← hr16]; exact Int32.not_le.mpr c58))).symm, hF16, hj⟩)
      · refine q_iconst (v := 1) dX3_judge_61 (by decide) ?_
        refine q_iload dX3_judge_62 rfl ?_
        refine q_isub dX3_judge_64 ?_
        refine q_goto 70 dX3_judge_65 (by decide) ?_
        exact q_ireturn dX3_judge_70 rfl (by first | decide | omega | (dsimp only; omega)) (by first | decide | omega | (dsimp only; omega)) (by rw [jPe, if_neg hnm]; exact ⟨by rw [hr16]; first | exact (if_pos ⟨c53, by rw [← hr16]; exact Int32.not_lt.mp c58⟩).symm | exact (if_neg (fun z => c53 z.1)).symm | exact (if_neg (fun z => absurd z.2 (by rw [← hr16]; exact Int32.not_le.mpr c58))).symm, hF16, hj⟩)
  · have hym : made2 (σ.1 7 f) (jS n g c (askS σ f)).1 := by rw [← hr16]; exact hme.mp (rb_t hL c34)
    first | refine q_aload_n dX3_judge_37 rfl ?_ | refine q_aload_nN dX3_judge_37 rfl ?_
    refine q_getf dX3_judge_38 fk_X3_26_2 hKb h4b ?_
    refine q_lload_n dX3_judge_41 rfl ?_
    first | refine q_aload_n dX3_judge_42 rfl ?_ | refine q_aload_nN dX3_judge_42 rfl ?_
    refine q_callJ dX3_judge_43 uj_X3_X1 uj_X3_X3 uj_X3_X4 uj_X3_X7 (ih h c _ (jS n g c (askS σ f)).2 (by omega) hdh hF16) rfl rfl (by first | decide | omega | (dsimp only; omega)) (by first | decide | omega | (dsimp only; omega)) (by first | decide | omega | (dsimp only; omega)) (Nat.le_of_ble_eq_true rfl) (kI (fun r43 Z43 h43 => ?_))
    obtain ⟨hr43, hF43, hJ43⟩ := h43
    exact q_ireturn dX3_judge_46 rfl (by first | decide | omega | (dsimp only; omega)) (by first | decide | omega | (dsimp only; omega)) (by rw [jPe, if_pos hym]; exact ⟨hr43, hF43, hj.tr hJ43⟩)
