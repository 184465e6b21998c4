theorem i_gap {k a b : Int32} (hab : b.toInt = a.toInt + 1) (h : a < k) (z : k < b) : False := by
  rw [Int32.lt_iff_toInt_lt] at h z; omega
theorem i_le {k a b : Int32} (hab : b.toInt = a.toInt + 1) (h : k ≤ a) : k < b := by
  rw [Int32.le_iff_toInt_le] at h; rw [Int32.lt_iff_toInt_lt]; omega
set_option maxHeartbeats 600000 in
set_option maxRecDepth 100000 in
theorem mc_isFilter (l : Launch) (G : Gt) (Z0 : Zt) (y : Nat) (σ e : St) (hM : MR Z0 y σ e) (f : Int32) : Ct l G YX12_isFilter (0, 0, 0) Z0 [.ref y, .int f] (ΦI (fun r Z1 => Z1 = Z0 ∧ rb r (¬ f < 0 ∧ f < σ.1 6 0))) := by
  refine ct_of [some (.ref y), some (.int f)] (by decide +kernel) (Nat.le_of_ble_eq_true rfl) rfl (fun M => ?_)
  have hF := MF.rf y Z0
  refine q_iload_n dX12_isFilter_0 rfl ?_
  refine q_if_lt 16 dX12_isFilter_1 (by decide) (fun c1 => ?_) (fun c1 => ?_)
  · refine q_iconst (v := 0) dX12_isFilter_16 (by decide) ?_
    exact q_zreturn dX12_isFilter_17 rfl rfl (by decide) (by decide) ⟨rfl, rb_0 (fun z => z.1 c1)⟩
  · refine q_iload_n dX12_isFilter_4 rfl ?_
    first | refine q_aload_n dX12_isFilter_5 rfl ?_ | refine q_aload_nN dX12_isFilter_5 rfl ?_
    refine q_getf dX12_isFilter_6 fk_X12_103_11 hM.K (hM.i 6 (by decide) rfl rfl) ?_
    refine q_icmp_ge 16 dX12_isFilter_9 (by decide) (fun c9 => ?_) (fun c9 => ?_)
    · refine q_iconst (v := 0) dX12_isFilter_16 (by decide) ?_
      exact q_zreturn dX12_isFilter_17 rfl rfl (by decide) (by decide) ⟨rfl, rb_0 (fun z => absurd z.2 (Int32.not_lt.mpr c9))⟩
    · refine q_iconst (v := 1) dX12_isFilter_12 (by decide) ?_
      refine q_goto 17 dX12_isFilter_13 (by decide) ?_
      exact q_zreturn dX12_isFilter_17 rfl rfl (by decide) (by decide) ⟨rfl, rb_1 ⟨c1, Int32.not_le.mp c9⟩⟩
set_option maxHeartbeats 600000 in
set_option maxRecDepth 100000 in
theorem mc_isSource (l : Launch) (G : Gt) (Z0 : Zt) (y : Nat) (σ e : St) (hM : MR Z0 y σ e) (f : Int32) : Ct l G YX12_isSource (0, 0, 0) Z0 [.ref y, .int f] (ΦI (fun r Z1 => Z1 = Z0 ∧ rb r (¬ f < 0 ∧ f < σ.1 16 0))) := by
  refine ct_of [some (.ref y), some (.int f)] (by decide +kernel) (Nat.le_of_ble_eq_true rfl) rfl (fun M => ?_)
  have hF := MF.rf y Z0
  refine q_iload_n dX12_isSource_0 rfl ?_
  refine q_if_lt 16 dX12_isSource_1 (by decide) (fun c1 => ?_) (fun c1 => ?_)
  · refine q_iconst (v := 0) dX12_isSource_16 (by decide) ?_
    exact q_zreturn dX12_isSource_17 rfl rfl (by decide) (by decide) ⟨rfl, rb_0 (fun z => z.1 c1)⟩
  · refine q_iload_n dX12_isSource_4 rfl ?_
    first | refine q_aload_n dX12_isSource_5 rfl ?_ | refine q_aload_nN dX12_isSource_5 rfl ?_
    refine q_getf dX12_isSource_6 fk_X12_137_11 hM.K (hM.i 16 (by decide) rfl rfl) ?_
    refine q_icmp_ge 16 dX12_isSource_9 (by decide) (fun c9 => ?_) (fun c9 => ?_)
    · refine q_iconst (v := 0) dX12_isSource_16 (by decide) ?_
      exact q_zreturn dX12_isSource_17 rfl rfl (by decide) (by decide) ⟨rfl, rb_0 (fun z => absurd z.2 (Int32.not_lt.mpr c9))⟩
    · refine q_iconst (v := 1) dX12_isSource_12 (by decide) ?_
      refine q_goto 17 dX12_isSource_13 (by decide) ?_
      exact q_zreturn dX12_isSource_17 rfl rfl (by decide) (by decide) ⟨rfl, rb_1 ⟨c1, Int32.not_le.mp c9⟩⟩
set_option maxHeartbeats 600000 in
set_option maxRecDepth 100000 in
theorem mc_box (l : Launch) (G : Gt) (Z0 : Zt) (y : Nat) (σ e : St) (hM : MR Z0 y σ e) (k i : Int32) : Ct l G YX12_box (0, 0, 0) Z0 [.ref y, .int k, .int i] (ΦI (fun r Z1 => r = boxR σ k i ∧ MF y Z0 Z1 ∧ ∃ e1, MR Z1 y σ e1)) := by
  refine ct_of [some (.ref y), some (.int k), some (.int i)] (by decide +kernel) (Nat.le_of_ble_eq_true rfl) rfl (fun M => ?_)
  have hF := MF.rf y Z0
  first | refine q_aload_n dX12_box_0 rfl ?_ | refine q_aload_nN dX12_box_0 rfl ?_
  refine q_iconst (v := 0) dX12_box_1 (by decide) ?_
  refine m_putx 0 hM dX12_box_2 fk_X12_99_11 rfl (by decide) rfl rfl rfl rfl (fun Z hM hF1 => ?_)
  replace hF := hF.tr hF1
  refine q_iload_n dX12_box_5 rfl ?_
  refine q_if_lt 23 dX12_box_6 (by decide) (fun c6 => ?_) (fun c6 => ?_)
  · refine q_iconst (v := (-1)) dX12_box_23 (by decide) ?_
    refine q_goto 37 dX12_box_24 (by decide) ?_
    exact q_ireturn dX12_box_37 rfl (by decide) (by decide) ⟨by unfold boxR; rw [if_pos (Or.inl (Or.inl c6))], hF, _, hM⟩
  · refine q_iload_n dX12_box_9 rfl ?_
    refine q_iconst (v := 2) dX12_box_10 (by decide) ?_
    refine q_icmp_gt 23 dX12_box_11 (by decide) (fun c11 => ?_) (fun c11 => ?_)
    · refine q_iconst (v := (-1)) dX12_box_23 (by decide) ?_
      refine q_goto 37 dX12_box_24 (by decide) ?_
      exact q_ireturn dX12_box_37 rfl (by decide) (by decide) ⟨by unfold boxR; rw [if_pos (Or.inl (Or.inr (fun z => i_gap (by decide) c11 z)))], hF, _, hM⟩
    · refine q_iload_n dX12_box_14 rfl ?_
      refine q_if_lt 23 dX12_box_15 (by decide) (fun c15 => ?_) (fun c15 => ?_)
      · refine q_iconst (v := (-1)) dX12_box_23 (by decide) ?_
        refine q_goto 37 dX12_box_24 (by decide) ?_
        exact q_ireturn dX12_box_37 rfl (by decide) (by decide) ⟨by unfold boxR; rw [if_pos (Or.inr (Or.inl c15))], hF, _, hM⟩
      · refine q_iload_n dX12_box_18 rfl ?_
        refine q_iconst (v := 2) dX12_box_19 (by decide) ?_
        refine q_icmp_le 27 dX12_box_20 (by decide) (fun c20 => ?_) (fun c20 => ?_)
        · obtain ⟨p, hp, rfl⟩ := nI_of2 (M := 2) (n := 2) (by decide) c6 (Int32.not_lt.mp c11)
          obtain ⟨q, hq, rfl⟩ := nI_of2 (M := 2) (n := 2) (by decide) c15 c20
          first | refine q_aload_n dX12_box_27 rfl ?_ | refine q_aload_nN dX12_box_27 rfl ?_
          refine q_getf dX12_box_28 fk_X12_23_11 hM.K (hM.a 5 (by decide) (by decide)) ?_
          refine q_iconst (v := 3) dX12_box_31 (by decide) ?_
          refine q_iload_n dX12_box_32 rfl ?_
          refine q_imul dX12_box_33 ?_
          refine q_iload_n dX12_box_34 rfl ?_
          refine q_iadd dX12_box_35 ?_
          refine m_iald 5 (3 * p + q) hM dX12_box_36 (by decide) rfl rfl (by rw [show (3 : Int32) = nI 3 from rfl, pk_mul, nI_add]) (show 3 * p + q < 9 by omega) ?_
          exact q_ireturn dX12_box_37 rfl (by decide) (by decide) ⟨by unfold boxR; rw [if_neg (fun z => z.elim (fun y => y.elim c6 (fun y => y (i_le (by decide) (Int32.not_lt.mp c11)))) (fun y => y.elim c15 (fun y => y (i_le (by decide) c20)))), nI_clamp (by omega), nI_clamp (by omega)], hF, _, hM⟩
        · refine q_iconst (v := (-1)) dX12_box_23 (by decide) ?_
          refine q_goto 37 dX12_box_24 (by decide) ?_
          exact q_ireturn dX12_box_37 rfl (by decide) (by decide) ⟨by unfold boxR; rw [if_pos (Or.inr (Or.inr (fun z => i_gap (by decide) (Int32.not_le.mp c20) z)))], hF, _, hM⟩
set_option maxHeartbeats 600000 in
set_option maxRecDepth 100000 in
theorem mc_asked (l : Launch) (G : Gt) (Z0 : Zt) (y : Nat) (σ e : St) (hM : MR Z0 y σ e) (nf : Nat) (h6 : σ.1 6 0 = nI nf) (hnf : nf ≤ 20) (f : Int32) : Ct l G YX12_asked (1, 0, 0) Z0 [.ref y, .int f] (ΦI (fun r Z1 => r = askedR σ f ∧ MF y Z0 Z1 ∧ ∃ e1, MR Z1 y σ e1)) := by
  refine ct_of [some (.ref y), some (.int f)] (by decide +kernel) (Nat.le_of_ble_eq_true rfl) rfl (fun M => ?_)
  have hF := MF.rf y Z0
  first | refine q_aload_n dX12_asked_0 rfl ?_ | refine q_aload_nN dX12_asked_0 rfl ?_
  refine q_iconst (v := 0) dX12_asked_1 (by decide) ?_
  refine m_putx 0 hM dX12_asked_2 fk_X12_99_11 rfl (by decide) rfl rfl rfl rfl (fun Z hM hF1 => ?_)
  replace hF := hF.tr hF1
  first | refine q_aload_n dX12_asked_5 rfl ?_ | refine q_aload_nN dX12_asked_5 rfl ?_
  refine q_iload_n dX12_asked_6 rfl ?_
  refine q_callV 11 dX12_asked_7 mk_X12_106 rfl hM.K (mc_isFilter l G Z y _ _ hM f) rfl np_X12_isFilter (by decide) (by decide) (by decide) (Nat.le_of_ble_eq_true rfl) (kI (fun r10 Z2 h10 => ?_))
  obtain ⟨e2, h10⟩ := h10
  rw [e2]
  refine q_if_eq 22 dX12_asked_10 (by decide) (fun c10 => ?_) (fun c10 => ?_)
  · refine q_iconst (v := (-1)) dX12_asked_22 (by decide) ?_
    exact q_ireturn dX12_asked_23 rfl (by decide) (by decide) ⟨by unfold askedR; rw [if_pos (Classical.byContradiction fun z => rb_f h10 c10 ⟨fun w => z (Or.inl w), Classical.byContradiction fun w => z (Or.inr w)⟩)], hF, _, hM⟩
  · obtain ⟨q1, q2⟩ := rb_t h10 c10
    rw [h6] at q2
    obtain ⟨p, hp, rfl⟩ := ix_of (by omega) q1 q2
    first | refine q_aload_n dX12_asked_13 rfl ?_ | refine q_aload_nN dX12_asked_13 rfl ?_
    refine q_getf dX12_asked_14 fk_X12_41_11 hM.K (hM.a 12 (by decide) (by decide)) ?_
    refine q_iload_n dX12_asked_17 rfl ?_
    refine m_iald 12 (p) hM dX12_asked_18 (by decide) rfl rfl rfl (show p < 20 by omega) ?_
    refine q_goto 23 dX12_asked_19 (by decide) ?_
    exact q_ireturn dX12_asked_23 rfl (by decide) (by decide) ⟨by unfold askedR; rw [h6, if_neg (fun z => z.elim q1 (fun y => y q2)), nI_clamp (by omega)], hF, _, hM⟩
set_option maxHeartbeats 600000 in
set_option maxRecDepth 100000 in
theorem mc_size (l : Launch) (G : Gt) (Z0 : Zt) (y : Nat) (σ e : St) (hM : MR Z0 y σ e)  : Ct l G YX12_size (0, 0, 0) Z0 [.ref y] (ΦL (fun r Z1 => r = σ.2 39 0 ∧ MF y Z0 Z1 ∧ ∃ e1, MR Z1 y σ e1)) := by
  refine ct_of [some (.ref y)] (by decide +kernel) (Nat.le_of_ble_eq_true rfl) rfl (fun M => ?_)
  have hF := MF.rf y Z0
  first | refine q_aload_n dX12_size_0 rfl ?_ | refine q_aload_nN dX12_size_0 rfl ?_
  refine q_iconst (v := 0) dX12_size_1 (by decide) ?_
  refine m_putx 0 hM dX12_size_2 fk_X12_99_11 rfl (by decide) rfl rfl rfl rfl (fun Z hM hF1 => ?_)
  replace hF := hF.tr hF1
  first | refine q_aload_n dX12_size_5 rfl ?_ | refine q_aload_nN dX12_size_5 rfl ?_
  refine q_getf dX12_size_6 fk_X12_209_11 hM.K (hM.j 39 (by decide) rfl rfl) ?_
  exact q_lreturn dX12_size_9 rfl (by decide) (by decide) ⟨rfl, hF, _, hM⟩
set_option maxHeartbeats 600000 in
set_option maxRecDepth 100000 in
theorem mc_barred (l : Launch) (G : Gt) (Z0 : Zt) (y : Nat) (σ e : St) (hM : MR Z0 y σ e)  : Ct l G YX12_barred (0, 0, 0) Z0 [.ref y] (ΦI (fun r Z1 => r = σ.1 32 0 ∧ MF y Z0 Z1 ∧ ∃ e1, MR Z1 y σ e1)) := by
  refine ct_of [some (.ref y)] (by decide +kernel) (Nat.le_of_ble_eq_true rfl) rfl (fun M => ?_)
  have hF := MF.rf y Z0
  first | refine q_aload_n dX12_barred_0 rfl ?_ | refine q_aload_nN dX12_barred_0 rfl ?_
  refine q_iconst (v := 0) dX12_barred_1 (by decide) ?_
  refine m_putx 0 hM dX12_barred_2 fk_X12_99_11 rfl (by decide) rfl rfl rfl rfl (fun Z hM hF1 => ?_)
  replace hF := hF.tr hF1
  first | refine q_aload_n dX12_barred_5 rfl ?_ | refine q_aload_nN dX12_barred_5 rfl ?_
  refine q_getf dX12_barred_6 fk_X12_187_11 hM.K (hM.i 32 (by decide) rfl rfl) ?_
  exact q_ireturn dX12_barred_9 rfl (by decide) (by decide) ⟨rfl, hF, _, hM⟩
set_option maxHeartbeats 600000 in
set_option maxRecDepth 100000 in
theorem mc_thrown (l : Launch) (G : Gt) (Z0 : Zt) (y : Nat) (σ e : St) (hM : MR Z0 y σ e)  : Ct l G YX12_thrown (0, 0, 0) Z0 [.ref y] (ΦI (fun r Z1 => r = e.1 0 0 ∧ Z1 = Z0)) := by
  refine ct_of [some (.ref y)] (by decide +kernel) (Nat.le_of_ble_eq_true rfl) rfl (fun M => ?_)
  have hF := MF.rf y Z0
  first | refine q_aload_n dX12_thrown_0 rfl ?_ | refine q_aload_nN dX12_thrown_0 rfl ?_
  refine q_getf dX12_thrown_1 fk_X12_99_11 hM.K (hM.ix 0 (by decide) rfl rfl) ?_
  exact q_ireturn dX12_thrown_4 rfl (by decide) (by decide) ⟨rfl, rfl⟩
set_option maxHeartbeats 600000 in
set_option maxRecDepth 100000 in
theorem mc_bar (l : Launch) (G : Gt) (Z0 : Zt) (y : Nat) (σ e : St) (hM : MR Z0 y σ e) (nb : Nat) (h32 : σ.1 32 0 = nI nb) (hnb : nb ≤ 20) (i w : Int32) : Ct l G YX12_bar (0, 0, 0) Z0 [.ref y, .int i, .int w] (ΦI (fun r Z1 => r = barR σ i w ∧ MF y Z0 Z1 ∧ ∃ e1, MR Z1 y σ e1)) := by
  refine ct_of [some (.ref y), some (.int i), some (.int w)] (by decide +kernel) (Nat.le_of_ble_eq_true rfl) rfl (fun M => ?_)
  have hF := MF.rf y Z0
  first | refine q_aload_n dX12_bar_0 rfl ?_ | refine q_aload_nN dX12_bar_0 rfl ?_
  refine q_iconst (v := 0) dX12_bar_1 (by decide) ?_
  refine m_putx 0 hM dX12_bar_2 fk_X12_99_11 rfl (by decide) rfl rfl rfl rfl (fun Z hM hF1 => ?_)
  replace hF := hF.tr hF1
  refine q_iload_n dX12_bar_5 rfl ?_
  refine q_if_lt 17 dX12_bar_6 (by decide) (fun c6 => ?_) (fun c6 => ?_)
  · refine q_iconst (v := (-1)) dX12_bar_17 (by decide) ?_
    exact q_ireturn dX12_bar_18 rfl (by decide) (by decide) ⟨by unfold barR; rw [if_neg (fun z => z.1 c6)], hF, _, hM⟩
  · refine q_iload_n dX12_bar_9 rfl ?_
    first | refine q_aload_n dX12_bar_10 rfl ?_ | refine q_aload_nN dX12_bar_10 rfl ?_
    refine q_getf dX12_bar_11 fk_X12_187_11 hM.K (hM.i 32 (by decide) rfl rfl) ?_
    refine q_icmp_lt 19 dX12_bar_14 (by decide) (fun c14 => ?_) (fun c14 => ?_)
    · have q2 := c14
      rw [h32] at q2
      obtain ⟨p, hp, rfl⟩ := ix_of (by omega) c6 q2
      refine q_iload_n dX12_bar_19 rfl ?_
      refine q_if_ne 32 dX12_bar_20 (by decide) (fun c20 => ?_) (fun c20 => ?_)
      · refine q_iload_n dX12_bar_32 rfl ?_
        refine q_iconst (v := 1) dX12_bar_33 (by decide) ?_
        refine q_icmp_ne 46 dX12_bar_34 (by decide) (fun c34 => ?_) (fun c34 => ?_)
        · refine q_bipush (v := (-2)) dX12_bar_46 (by decide) ?_
          exact q_ireturn dX12_bar_48 rfl (by decide) (by decide) ⟨by unfold barR; rw [if_pos ⟨c6, Int32.not_le.mpr c14⟩, if_neg c20, if_neg c34], hF, _, hM⟩
        · first | refine q_aload_n dX12_bar_37 rfl ?_ | refine q_aload_nN dX12_bar_37 rfl ?_
          refine q_getf dX12_bar_38 fk_X12_93_11 hM.K (hM.a 35 (by decide) (by decide)) ?_
          refine q_iload_n dX12_bar_41 rfl ?_
          refine m_iald 35 (p) hM dX12_bar_42 (by decide) rfl rfl rfl (show p < 24 by omega) ?_
          refine q_goto 48 dX12_bar_43 (by decide) ?_
          exact q_ireturn dX12_bar_48 rfl (by decide) (by decide) ⟨by unfold barR; rw [if_pos ⟨c6, Int32.not_le.mpr c14⟩, if_neg c20, if_pos c34, nI_clamp (by omega)], hF, _, hM⟩
      · first | refine q_aload_n dX12_bar_23 rfl ?_ | refine q_aload_nN dX12_bar_23 rfl ?_
        refine q_getf dX12_bar_24 fk_X12_90_11 hM.K (hM.a 34 (by decide) (by decide)) ?_
        refine q_iload_n dX12_bar_27 rfl ?_
        refine m_iald 34 (p) hM dX12_bar_28 (by decide) rfl rfl rfl (show p < 24 by omega) ?_
        refine q_goto 48 dX12_bar_29 (by decide) ?_
        exact q_ireturn dX12_bar_48 rfl (by decide) (by decide) ⟨by unfold barR; rw [if_pos ⟨c6, Int32.not_le.mpr c14⟩, if_pos c20, nI_clamp (by omega)], hF, _, hM⟩
    · refine q_iconst (v := (-1)) dX12_bar_17 (by decide) ?_
      exact q_ireturn dX12_bar_18 rfl (by decide) (by decide) ⟨by unfold barR; rw [if_neg (fun z => absurd (Int32.not_le.mp z.2) c14)], hF, _, hM⟩
set_option maxHeartbeats 600000 in
set_option maxRecDepth 100000 in
theorem mc_barredAt (l : Launch) (G : Gt) (Z0 : Zt) (y : Nat) (σ e : St) (hM : MR Z0 y σ e) (nb : Nat) (h32 : σ.1 32 0 = nI nb) (hnb : nb ≤ 20) (i : Int32) : Ct l G YX12_barredAt (0, 0, 0) Z0 [.ref y, .int i] (ΦL (fun r Z1 => MF y Z0 Z1 ∧ ∃ e1, MR Z1 y σ e1 ∧ ((¬ i < 0 ∧ ¬ σ.1 32 0 ≤ i) → e1.1 0 0 = 0 ∧ r = σ.2 33 i.toNatClampNeg) ∧ (¬ (¬ i < 0 ∧ ¬ σ.1 32 0 ≤ i) → e1.1 0 0 = 1))) := by
  refine ct_of [some (.ref y), some (.int i)] (by decide +kernel) (Nat.le_of_ble_eq_true rfl) rfl (fun M => ?_)
  have hF := MF.rf y Z0
  first | refine q_aload_n dX12_barredAt_0 rfl ?_ | refine q_aload_nN dX12_barredAt_0 rfl ?_
  refine q_iconst (v := 0) dX12_barredAt_1 (by decide) ?_
  refine m_putx 0 hM dX12_barredAt_2 fk_X12_99_11 rfl (by decide) rfl rfl rfl rfl (fun Z hM hF1 => ?_)
  replace hF := hF.tr hF1
  refine q_iload_n dX12_barredAt_5 rfl ?_
  refine q_if_lt 17 dX12_barredAt_6 (by decide) (fun c6 => ?_) (fun c6 => ?_)
  · first | refine q_aload_n dX12_barredAt_17 rfl ?_ | refine q_aload_nN dX12_barredAt_17 rfl ?_
    refine q_iconst (v := 1) dX12_barredAt_18 (by decide) ?_
    refine m_putx 0 hM dX12_barredAt_19 fk_X12_99_11 rfl (by decide) rfl rfl rfl rfl (fun Z hM hF1 => ?_)
    replace hF := hF.tr hF1
    refine q_lconst (v := 0) dX12_barredAt_22 (by decide) ?_
    exact q_lreturn dX12_barredAt_23 rfl (by decide) (by decide) ⟨hF, _, hM, fun z => absurd z (fun z => z.1 c6), fun _ => rfl⟩
  · refine q_iload_n dX12_barredAt_9 rfl ?_
    first | refine q_aload_n dX12_barredAt_10 rfl ?_ | refine q_aload_nN dX12_barredAt_10 rfl ?_
    refine q_getf dX12_barredAt_11 fk_X12_187_11 hM.K (hM.i 32 (by decide) rfl rfl) ?_
    refine q_icmp_lt 24 dX12_barredAt_14 (by decide) (fun c14 => ?_) (fun c14 => ?_)
    · have q2 := c14
      rw [h32] at q2
      obtain ⟨p, hp, rfl⟩ := ix_of (by omega) c6 q2
      first | refine q_aload_n dX12_barredAt_24 rfl ?_ | refine q_aload_nN dX12_barredAt_24 rfl ?_
      refine q_getf dX12_barredAt_25 fk_X12_87_11 hM.K (hM.a 33 (by decide) (by decide)) ?_
      refine q_iload_n dX12_barredAt_28 rfl ?_
      refine m_lald 33 (p) hM dX12_barredAt_29 (by decide) rfl rfl rfl (show p < 24 by omega) ?_
      exact q_lreturn dX12_barredAt_30 rfl (by decide) (by decide) ⟨hF, _, hM, fun _ => ⟨rfl, by rw [nI_clamp (by omega)]⟩, fun z => absurd ⟨c6, Int32.not_le.mpr c14⟩ z⟩
    · first | refine q_aload_n dX12_barredAt_17 rfl ?_ | refine q_aload_nN dX12_barredAt_17 rfl ?_
      refine q_iconst (v := 1) dX12_barredAt_18 (by decide) ?_
      refine m_putx 0 hM dX12_barredAt_19 fk_X12_99_11 rfl (by decide) rfl rfl rfl rfl (fun Z hM hF1 => ?_)
      replace hF := hF.tr hF1
      refine q_lconst (v := 0) dX12_barredAt_22 (by decide) ?_
      exact q_lreturn dX12_barredAt_23 rfl (by decide) (by decide) ⟨hF, _, hM, fun z => absurd z (fun z => absurd (Int32.not_le.mp z.2) c14), fun _ => rfl⟩
set_option maxHeartbeats 600000 in
set_option maxRecDepth 100000 in
theorem mc_far (l : Launch) (G : Gt) (Z : Zt) (p q : Int64) : Ct l G YX12_far (0, 0, 0) Z [.long p, .long q] (ΦL (fun r Z1 => Z1 = Z ∧ r = gpf p q)) := by
  refine ct_of [some (.long p), none, some (.long q), none] (by decide +kernel) (Nat.le_of_ble_eq_true rfl) rfl (fun M => ?_)
  refine q_lload_n dX12_far_0 rfl ?_
  refine q_lload_n dX12_far_1 rfl ?_
  refine q_lcmp_lt 12 dX12_far_2 dX12_far_3 (by decide) (fun c2 => ?_) (fun c2 => ?_)
  · refine q_lload_n dX12_far_12 rfl ?_
    refine q_lload_n dX12_far_13 rfl ?_
    refine q_lsub dX12_far_14 ?_
    exact q_lreturn dX12_far_15 rfl (by decide) (by decide) ⟨rfl, by unfold gpf; rw [if_pos c2]⟩
  · refine q_lload_n dX12_far_6 rfl ?_
    refine q_lload_n dX12_far_7 rfl ?_
    refine q_lsub dX12_far_8 ?_
    refine q_goto 15 dX12_far_9 (by decide) ?_
    exact q_lreturn dX12_far_15 rfl (by decide) (by decide) ⟨rfl, by unfold gpf; rw [if_neg c2]⟩
set_option maxHeartbeats 600000 in
set_option maxRecDepth 100000 in
theorem mc_distance (l : Launch) (G : Gt) (Z0 : Zt) (y : Nat) (σ e : St) (hM : MR Z0 y σ e) (p q : Int64) : Ct l G YX12_distance (1, 0, 0) Z0 [.ref y, .long p, .long q] (ΦL (fun r Z1 => r = gpf p q ∧ MF y Z0 Z1 ∧ ∃ e1, MR Z1 y σ e1)) := by
  refine ct_of [some (.ref y), some (.long p), none, some (.long q), none] (by decide +kernel) (Nat.le_of_ble_eq_true rfl) rfl (fun M => ?_)
  have hF := MF.rf y Z0
  first | refine q_aload_n dX12_distance_0 rfl ?_ | refine q_aload_nN dX12_distance_0 rfl ?_
  refine q_iconst (v := 0) dX12_distance_1 (by decide) ?_
  refine m_putx 0 hM dX12_distance_2 fk_X12_99_11 rfl (by decide) rfl rfl rfl rfl (fun Z hM hF1 => ?_)
  replace hF := hF.tr hF1
  refine q_lload_n dX12_distance_5 rfl ?_
  refine q_lload_n dX12_distance_6 rfl ?_
  refine q_callS dX12_distance_7 mk_X12_190 (mc_far l G _ p q) rfl np_X12_far (by decide) (by decide) (by decide) (Nat.le_of_ble_eq_true rfl) (kL (fun r7 Z2 h7 => ?_))
  obtain ⟨e2, h7⟩ := h7
  rw [e2]
  exact q_lreturn dX12_distance_10 rfl (by decide) (by decide) ⟨h7, hF, _, hM⟩
set_option maxHeartbeats 600000 in
set_option maxRecDepth 100000 in
theorem mc_told (l : Launch) (G : Gt) (Z0 : Zt) (y : Nat) (σ e : St) (hM : MR Z0 y σ e) (hp : σ.1 36 0 = 0 ∨ σ.1 36 0 = 1) (w : Int32) : Ct l G YX12_told (0, 0, 0) Z0 [.ref y, .int w] (ΦI (fun r Z1 => r = toldR σ w ∧ MF y Z0 Z1 ∧ ∃ e1, MR Z1 y σ e1)) := by
  refine ct_of [some (.ref y), some (.int w)] (by decide +kernel) (Nat.le_of_ble_eq_true rfl) rfl (fun M => ?_)
  have hF := MF.rf y Z0
  first | refine q_aload_n dX12_told_0 rfl ?_ | refine q_aload_nN dX12_told_0 rfl ?_
  refine q_iconst (v := 0) dX12_told_1 (by decide) ?_
  refine m_putx 0 hM dX12_told_2 fk_X12_99_11 rfl (by decide) rfl rfl rfl rfl (fun Z hM hF1 => ?_)
  replace hF := hF.tr hF1
  refine q_iload_n dX12_told_5 rfl ?_
  refine q_tsw [(0, 36), (1, 41), (2, 46), (3, 51)] 64 dX12_told_6 (by decide) (by decide) (by decide) (by decide) (fun q hq c6 => ?_) (fun c6 => ?_)
  · rcases List.mem_cons.mp hq with rfl | hq
    · dsimp only at c6 ⊢
      first | refine q_aload_n dX12_told_36 rfl ?_ | refine q_aload_nN dX12_told_36 rfl ?_
      refine q_getf dX12_told_37 fk_X12_103_11 hM.K (hM.i 6 (by decide) rfl rfl) ?_
      exact q_ireturn dX12_told_40 rfl (by decide) (by decide) ⟨by unfold toldR; rw [if_pos c6], hF, _, hM⟩
    rcases List.mem_cons.mp hq with rfl | hq
    · dsimp only at c6 ⊢
      first | refine q_aload_n dX12_told_41 rfl ?_ | refine q_aload_nN dX12_told_41 rfl ?_
      refine q_getf dX12_told_42 fk_X12_137_11 hM.K (hM.i 16 (by decide) rfl rfl) ?_
      exact q_ireturn dX12_told_45 rfl (by decide) (by decide) ⟨by unfold toldR; rw [if_neg (by rw [c6]; decide), if_pos c6], hF, _, hM⟩
    rcases List.mem_cons.mp hq with rfl | hq
    · dsimp only at c6 ⊢
      first | refine q_aload_n dX12_told_46 rfl ?_ | refine q_aload_nN dX12_told_46 rfl ?_
      refine q_getf dX12_told_47 fk_X12_110_11 hM.K (hM.i 15 (by decide) rfl rfl) ?_
      exact q_ireturn dX12_told_50 rfl (by decide) (by decide) ⟨by unfold toldR; rw [if_neg (by rw [c6]; decide), if_neg (by rw [c6]; decide), if_pos c6], hF, _, hM⟩
    rcases List.mem_cons.mp hq with rfl | hq
    · dsimp only at c6 ⊢
      first | refine q_aload_n dX12_told_51 rfl ?_ | refine q_aload_nN dX12_told_51 rfl ?_
      refine q_getf dX12_told_52 fk_X12_199_11 hM.K (hM.i 36 (by decide) rfl rfl) ?_
      refine q_if_eq 62 dX12_told_55 (by decide) (fun c55 => ?_) (fun c55 => ?_)
      · refine q_iconst (v := 0) dX12_told_62 (by decide) ?_
        exact q_ireturn dX12_told_63 rfl (by decide) (by decide) ⟨by unfold toldR; rw [if_neg (by rw [c6]; decide), if_neg (by rw [c6]; decide), if_neg (by rw [c6]; decide), if_pos c6]; exact c55.symm, hF, _, hM⟩
      · refine q_iconst (v := 1) dX12_told_58 (by decide) ?_
        refine q_goto 63 dX12_told_59 (by decide) ?_
        exact q_ireturn dX12_told_63 rfl (by decide) (by decide) ⟨by unfold toldR; rw [if_neg (by rw [c6]; decide), if_neg (by rw [c6]; decide), if_neg (by rw [c6]; decide), if_pos c6]; exact ((hp.resolve_left c55)).symm, hF, _, hM⟩
    exact absurd hq List.not_mem_nil
  · refine q_bipush (v := (-2)) dX12_told_64 (by decide) ?_
    exact q_ireturn dX12_told_66 rfl (by decide) (by decide) ⟨by unfold toldR; rw [if_neg (c6 _ (List.Mem.head _)), if_neg (c6 _ (List.Mem.tail _ (List.Mem.head _))), if_neg (c6 _ (List.Mem.tail _ (List.Mem.tail _ (List.Mem.head _)))), if_neg (c6 _ (List.Mem.tail _ (List.Mem.tail _ (List.Mem.tail _ (List.Mem.head _)))))], hF, _, hM⟩
theorem at_ix {k : Int64} {n : Nat} (hn : n ≤ 200) (h0 : ¬ k < 0) (h1 : k < lN n) : k.toInt32 = nI (uN k) ∧ uN k < n := by
  obtain ⟨a1, a2⟩ := uN_pos h0
  have b := Int64.lt_iff_toInt_lt.mp h1
  rw [lN_toInt (by omega)] at b
  have c : uN k < n := by omega
  have e : k = lN (uN k) := uN_inj (by rw [uN_ofNat (by omega)])
  refine ⟨?_, c⟩
  conv => lhs; rw [e]
  exact lN_i _
set_option maxHeartbeats 600000 in
set_option maxRecDepth 100000 in
theorem mc_at (l : Launch) (G : Gt) (Z0 : Zt) (y : Nat) (σ e : St) (hM : MR Z0 y σ e) (hr : (σ.1 36 0 = 0 ∧ ∃ n, n ≤ 200 ∧ σ.2 39 0 = lN n) ∨ σ.1 36 0 = 1) (k : Int64) : Ct l G YX12_at (0, 0, 0) Z0 [.ref y, .long k] ((ΦL (fun r Z1 => MF y Z0 Z1 ∧ ∃ e1, MR Z1 y σ e1 ∧ ((¬ k < 0 ∧ k < σ.2 39 0) → e1.1 0 0 = 0 ∧ r = atS σ k) ∧ (¬ (¬ k < 0 ∧ k < σ.2 39 0) → e1.1 0 0 = 1)))) := by
  refine ct_of [some (.ref y), some (.long k), none] (by decide +kernel) (Nat.le_of_ble_eq_true rfl) rfl (fun M => ?_)
  have hF := MF.rf y Z0
  first | refine q_aload_n dX12_at_0 rfl ?_ | refine q_aload_nN dX12_at_0 rfl ?_
  refine q_iconst (v := 0) dX12_at_1 (by decide) ?_
  refine m_putx 0 hM dX12_at_2 fk_X12_99_11 rfl (by decide) rfl rfl rfl rfl (fun Z hM hF1 => ?_)
  replace hF := hF.tr hF1
  refine q_lload_n dX12_at_5 rfl ?_
  refine q_lconst (v := 0) dX12_at_6 (by decide) ?_
  refine q_lcmp_lt 20 dX12_at_7 dX12_at_8 (by decide) (fun c7 => ?_) (fun c7 => ?_)
  · first | refine q_aload_n dX12_at_20 rfl ?_ | refine q_aload_nN dX12_at_20 rfl ?_
    refine q_iconst (v := 1) dX12_at_21 (by decide) ?_
    refine m_putx 0 hM dX12_at_22 fk_X12_99_11 rfl (by decide) rfl rfl rfl rfl (fun Z hM hF1 => ?_)
    replace hF := hF.tr hF1
    refine q_lconst (v := 0) dX12_at_25 (by decide) ?_
    exact q_lreturn dX12_at_26 rfl (by decide) (by decide) ⟨hF, _, hM, fun z => absurd z (fun z => z.1 c7), fun _ => rfl⟩
  · refine q_lload_n dX12_at_11 rfl ?_
    first | refine q_aload_n dX12_at_12 rfl ?_ | refine q_aload_nN dX12_at_12 rfl ?_
    refine q_getf dX12_at_13 fk_X12_209_11 hM.K (hM.j 39 (by decide) rfl rfl) ?_
    refine q_lcmp_lt 27 dX12_at_16 dX12_at_17 (by decide) (fun c16 => ?_) (fun c16 => ?_)
    · first | refine q_aload_n dX12_at_27 rfl ?_ | refine q_aload_nN dX12_at_27 rfl ?_
      refine q_getf dX12_at_28 fk_X12_199_11 hM.K (hM.i 36 (by decide) rfl rfl) ?_
      refine q_if_eq 48 dX12_at_31 (by decide) (fun c31 => ?_) (fun c31 => ?_)
      · have hr0 : σ.1 36 0 = 0 ∧ ∃ n, n ≤ 200 ∧ σ.2 39 0 = lN n := hr.resolve_right (fun z => by rw [z] at c31; exact absurd c31 (by decide))
        obtain ⟨h36, n, hn, h39⟩ := hr0
        have q2 := c16
        rw [h39] at q2
        obtain ⟨q3, q4⟩ := at_ix hn c7 q2
        first | refine q_aload_n dX12_at_48 rfl ?_ | refine q_aload_nN dX12_at_48 rfl ?_
        refine q_getf dX12_at_49 fk_X12_96_11 hM.K (hM.a 40 (by decide) (by decide)) ?_
        refine q_lload_n dX12_at_52 rfl ?_
        refine q_l2i dX12_at_53 ?_
        refine m_lald 40 (uN k) hM dX12_at_54 (by decide) rfl rfl q3 (show uN k < 200 by omega) ?_
        exact q_lreturn dX12_at_55 rfl (by decide) (by decide) ⟨hF, _, hM, fun _ => ⟨rfl, by unfold atS; rw [if_neg (by rw [h36]; decide)]⟩, fun z => absurd ⟨c7, c16⟩ z⟩
      · first | refine q_aload_n dX12_at_34 rfl ?_ | refine q_aload_nN dX12_at_34 rfl ?_
        refine q_getf dX12_at_35 fk_X12_202_11 hM.K (hM.j 37 (by decide) rfl rfl) ?_
        refine q_lload_n dX12_at_38 rfl ?_
        first | refine q_aload_n dX12_at_39 rfl ?_ | refine q_aload_nN dX12_at_39 rfl ?_
        refine q_getf dX12_at_40 fk_X12_206_11 hM.K (hM.j 38 (by decide) rfl rfl) ?_
        refine q_lmul dX12_at_43 ?_
        refine q_ladd dX12_at_44 ?_
        refine q_goto 55 dX12_at_45 (by decide) ?_
        exact q_lreturn dX12_at_55 rfl (by decide) (by decide) ⟨hF, _, hM, fun _ => ⟨rfl, by unfold atS; rw [if_pos (hr.resolve_left (fun z => c31 z.1))]⟩, fun z => absurd ⟨c7, c16⟩ z⟩
    · first | refine q_aload_n dX12_at_20 rfl ?_ | refine q_aload_nN dX12_at_20 rfl ?_
      refine q_iconst (v := 1) dX12_at_21 (by decide) ?_
      refine m_putx 0 hM dX12_at_22 fk_X12_99_11 rfl (by decide) rfl rfl rfl rfl (fun Z hM hF1 => ?_)
      replace hF := hF.tr hF1
      refine q_lconst (v := 0) dX12_at_25 (by decide) ?_
      exact q_lreturn dX12_at_26 rfl (by decide) (by decide) ⟨hF, _, hM, fun z => absurd z (fun z => c16 z.2), fun _ => rfl⟩
