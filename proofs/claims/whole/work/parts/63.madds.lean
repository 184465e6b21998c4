theorem com_eq {β σ : St} {ns : Nat} {so s t a nn d pl : Int32} {v F S C : Int64} (h1 : ∀ k i, β.1 k i = if i = ns then (if k = 18 then s else if k = 19 then t else if k = 20 then a else if k = 21 then nn else σ.1 k i) else σ.1 k i) (h2 : ∀ k i, β.2 k i = if i = ns then (if k = 22 then v else if k = 25 then F else if k = 26 then S else if k = 27 then C else σ.2 k i) else σ.2 k i) : comS β ns so pl d = addS σ ns so s t a nn d pl v F S C := by
  refine Prod.ext (funext fun k => funext fun i => ?_) (funext fun k => funext fun i => ?_)
  · show (if k = 16 ∧ i = 0 then nI (ns + 1) else if k = 23 ∧ i = ns then d else if k = 24 ∧ i = ns then pl else if k = 17 ∧ i = ns then so else β.1 k i) = _
    rw [addS_1, h1]
    grind
  · show β.2 k i = _
    rw [addS_2, h2]
theorem com_list (σ : St) (ns : Nat) : comS (pJ σ 27 ns 0) ns 1 0 1 = addS σ ns 1 (σ.1 18 ns) (σ.1 19 ns) (σ.1 20 ns) (σ.1 21 ns) 1 0 (σ.2 22 ns) (σ.2 25 ns) (σ.2 26 ns) 0 := by
  refine com_eq (fun k i => ?_) (fun k i => ?_)
  · rw [pJ_1]; grind
  · rw [pJ_2]; grind
theorem com_span (σ : St) (ns : Nat) (lo st c : Int64) : comS (pJ (pJ (pJ σ 25 ns lo) 26 ns st) 27 ns c) ns 0 1 1 = addS σ ns 0 (σ.1 18 ns) (σ.1 19 ns) (σ.1 20 ns) (σ.1 21 ns) 1 1 (σ.2 22 ns) lo st c := by
  refine com_eq (fun k i => ?_) (fun k i => ?_)
  · rw [pJ_1, pJ_1, pJ_1]; grind
  · rw [pJ_2, pJ_2, pJ_2]; grind
theorem n20 {n : Nat} (hn : n ≤ 20) (h : ¬ nI n = 20) : n < 20 := by
  have e : n = 20 ∨ n < 20 := by omega
  rcases e with rfl | e
  · exact absurd rfl h
  · exact e
theorem n20' {n : Nat} (hn : n < 20) : ¬ 20 ≤ nI n := fun z => by
  have := (nI_leI (a := 20) (b := n) (by decide) (by omega)).mp z
  omega
set_option maxHeartbeats 600000 in
set_option maxRecDepth 100000 in
theorem mc_list (l : Launch) (G : Gt) (Z0 : Zt) (y : Nat) (σ e : St) (hM : MR Z0 y σ e) (ns : Nat) (h16 : σ.1 16 0 = nI ns) (hns : ns ≤ 20)  : Ct l G YX12_list (1, 0, 0) Z0 [.ref y] (ΦI (fun r Z1 => r = (listS σ).1 ∧ MF y Z0 Z1 ∧ ∃ e1, MR Z1 y (listS σ).2 e1)) := by
  refine ct_of [some (.ref y)] (by decide +kernel) (Nat.le_of_ble_eq_true rfl) rfl (fun M => ?_)
  have hF := MF.rf y Z0
  first | refine q_aload_n dX12_list_0 rfl ?_ | refine q_aload_nN dX12_list_0 rfl ?_
  refine q_iconst (v := 0) dX12_list_1 (by decide) ?_
  refine m_putx 0 hM dX12_list_2 fk_X12_99_11 rfl (by decide) rfl rfl rfl rfl (fun Z hM hF1 => ?_)
  replace hF := hF.tr hF1
  first | refine q_aload_n dX12_list_5 rfl ?_ | refine q_aload_nN dX12_list_5 rfl ?_
  refine q_getf dX12_list_6 fk_X12_137_11 hM.K (hM.i 16 (by decide) rfl rfl) ?_
  refine q_bipush (v := 20) dX12_list_9 (by decide) ?_
  refine q_icmp_ne 17 dX12_list_11 (by decide) (fun c11 => ?_) (fun c11 => ?_)
  · rw [h16] at c11
    have hlt := n20 hns c11
    first | refine q_aload_n dX12_list_17 rfl ?_ | refine q_aload_nN dX12_list_17 rfl ?_
    refine q_getf dX12_list_18 fk_X12_75_11 hM.K (hM.a 27 (by decide) (by decide)) ?_
    first | refine q_aload_n dX12_list_21 rfl ?_ | refine q_aload_nN dX12_list_21 rfl ?_
    refine q_getf dX12_list_22 fk_X12_137_11 hM.K (hM.i 16 (by decide) rfl rfl) ?_
    refine q_lconst (v := 0) dX12_list_25 (by decide) ?_
    refine m_last 27 (ns) hM dX12_list_26 (by decide) rfl rfl h16 (show ns < 20 by omega) (fun Z hM hF1 => ?_)
    replace hF := hF.tr hF1
    first | refine q_aload_n dX12_list_27 rfl ?_ | refine q_aload_nN dX12_list_27 rfl ?_
    refine q_iconst (v := 1) dX12_list_28 (by decide) ?_
    refine q_iconst (v := 0) dX12_list_29 (by decide) ?_
    refine q_iconst (v := 1) dX12_list_30 (by decide) ?_
    refine q_callV 11 dX12_list_31 mk_X12_150 rfl hM.K (mc_comes l G Z y _ _ hM ns (by rw [pJ_1]; exact h16) hlt 1 0 1 rfl) rfl np_X12_comes (by decide) (by decide) (by decide) (Nat.le_of_ble_eq_true rfl) (kI (fun r31 Z31 h31 => ?_))
    obtain ⟨e31, f31, m31⟩ := h31
    exact q_ireturn dX12_list_34 rfl (by decide) (by decide) (by unfold listS; rw [h16, if_neg (n20' hlt), nI_clamp (by omega), ← com_list]; exact ⟨e31, hF.tr f31, _, m31⟩)
  · refine q_bipush (v := (-3)) dX12_list_14 (by decide) ?_
    exact q_ireturn dX12_list_16 rfl (by decide) (by decide) (by unfold listS; rw [if_pos (by rw [c11]; decide)]; exact ⟨rfl, hF, _, hM⟩)
set_option maxHeartbeats 600000 in
set_option maxRecDepth 100000 in
theorem mc_add (l : Launch) (G : Gt) (Z0 : Zt) (y : Nat) (σ e : St) (hM : MR Z0 y σ e) (ns : Nat) (h16 : σ.1 16 0 = nI ns) (hns : ns ≤ 20) (hl : ∀ s, s < ns → σ.1 17 s = 1 → ∃ cn, cn ≤ 12 ∧ σ.2 27 s = lN cn) (s : Int32) (v : Int64) : Ct l G YX12_add (1, 0, 0) Z0 [.ref y, .int s, .long v] (ΦI (fun r Z1 => r = (addR σ s v).1 ∧ MF y Z0 Z1 ∧ ∃ e1, MR Z1 y (addR σ s v).2 e1)) := by
  refine ct_of [some (.ref y), some (.int s), some (.long v), none] (by decide +kernel) (Nat.le_of_ble_eq_true rfl) rfl (fun M => ?_)
  have hF := MF.rf y Z0
  first | refine q_aload_n dX12_add_0 rfl ?_ | refine q_aload_nN dX12_add_0 rfl ?_
  refine q_iconst (v := 0) dX12_add_1 (by decide) ?_
  refine m_putx 0 hM dX12_add_2 fk_X12_99_11 rfl (by decide) rfl rfl rfl rfl (fun Z hM hF1 => ?_)
  replace hF := hF.tr hF1
  first | refine q_aload_n dX12_add_5 rfl ?_ | refine q_aload_nN dX12_add_5 rfl ?_
  refine q_iload_n dX12_add_6 rfl ?_
  refine q_callV 11 dX12_add_7 mk_X12_154 rfl hM.K (mc_isSource l G Z y _ _ hM s) rfl np_X12_isSource (by decide) (by decide) (by decide) (Nat.le_of_ble_eq_true rfl) (kI (fun r10 Z2 h10 => ?_))
  obtain ⟨e2, h10⟩ := h10
  rw [e2]
  refine q_if_eq 23 dX12_add_10 (by decide) (fun c10 => ?_) (fun c10 => ?_)
  · refine q_iconst (v := (-1)) dX12_add_23 (by decide) ?_
    exact q_ireturn dX12_add_24 rfl (by decide) (by decide) (by unfold addR; rw [if_pos (Classical.byContradiction fun z => rb_f h10 c10 ⟨fun w => z (Or.inl w), Classical.byContradiction fun w => z (Or.inr w)⟩)]; exact ⟨rfl, hF, _, hM⟩)
  · obtain ⟨q1, q2⟩ := rb_t h10 c10
    rw [h16] at q2
    obtain ⟨p, hp, rfl⟩ := ix_of (by omega) q1 q2
    first | refine q_aload_n dX12_add_13 rfl ?_ | refine q_aload_nN dX12_add_13 rfl ?_
    refine q_getf dX12_add_14 fk_X12_44_11 hM.K (hM.a 17 (by decide) (by decide)) ?_
    refine q_iload_n dX12_add_17 rfl ?_
    refine m_iald 17 (p) hM dX12_add_18 (by decide) rfl rfl rfl (show p < 20 by omega) ?_
    refine q_iconst (v := 1) dX12_add_19 (by decide) ?_
    refine q_icmp_eq 25 dX12_add_20 (by decide) (fun c20 => ?_) (fun c20 => ?_)
    · obtain ⟨cn, hcn, h27⟩ := hl p hp c20
      first | refine q_aload_n dX12_add_25 rfl ?_ | refine q_aload_nN dX12_add_25 rfl ?_
      refine q_getf dX12_add_26 fk_X12_75_11 hM.K (hM.a 27 (by decide) (by decide)) ?_
      refine q_iload_n dX12_add_29 rfl ?_
      refine m_lald 27 (p) hM dX12_add_30 (by decide) rfl rfl rfl (show p < 20 by omega) ?_
      refine q_ldc2 dX12_add_31 kl_X12_125 ?_
      refine q_lcmp_ne 41 dX12_add_34 dX12_add_35 (by decide) (fun c34 => ?_) (fun c34 => ?_)
      · have c12 : cn < 12 := by
          rw [h27] at c34
          have : cn ≠ 12 := fun z => c34 (by rw [z]; rfl)
          omega
        first | refine q_aload_n dX12_add_41 rfl ?_ | refine q_aload_nN dX12_add_41 rfl ?_
        refine q_getf dX12_add_42 fk_X12_78_11 hM.K (hM.a 28 (by decide) (by decide)) ?_
        refine q_bipush (v := 12) dX12_add_45 (by decide) ?_
        refine q_iload_n dX12_add_47 rfl ?_
        refine q_imul dX12_add_48 ?_
        first | refine q_aload_n dX12_add_49 rfl ?_ | refine q_aload_nN dX12_add_49 rfl ?_
        refine q_getf dX12_add_50 fk_X12_75_11 hM.K (hM.a 27 (by decide) (by decide)) ?_
        refine q_iload_n dX12_add_53 rfl ?_
        refine m_lald 27 (p) hM dX12_add_54 (by decide) rfl rfl rfl (show p < 20 by omega) ?_
        rw [h27]
        refine q_l2i dX12_add_55 ?_
        refine q_iadd dX12_add_56 ?_
        refine q_lload_n dX12_add_57 rfl ?_
        refine m_last 28 (12 * p + cn) hM dX12_add_58 (by decide) rfl rfl (by rw [lN_i, show (12 : Int32) = nI 12 from rfl, pk_mul, nI_add]) (show 12 * p + cn < 240 by omega) (fun Z hM hF1 => ?_)
        replace hF := hF.tr hF1
        first | refine q_aload_n dX12_add_59 rfl ?_ | refine q_aload_nN dX12_add_59 rfl ?_
        refine q_getf dX12_add_60 fk_X12_75_11 hM.K (hM.a 27 (by decide) (by decide)) ?_
        refine q_iload_n dX12_add_63 rfl ?_
        refine q_dup2_11 dX12_add_64 rfl rfl ?_
        refine m_lald 27 (p) hM dX12_add_65 (by decide) rfl rfl rfl (show p < 20 by omega) ?_
        rw [pJ_2, if_neg (by omega), h27]
        refine q_lconst (v := 1) dX12_add_66 (by decide) ?_
        refine q_ladd dX12_add_67 ?_
        refine m_last 27 (p) hM dX12_add_68 (by decide) rfl rfl rfl (show p < 20 by omega) (fun Z hM hF1 => ?_)
        replace hF := hF.tr hF1
        rw [lN_1] at hM
        first | refine q_aload_n dX12_add_69 rfl ?_ | refine q_aload_nN dX12_add_69 rfl ?_
        refine q_getf dX12_add_70 fk_X12_75_11 hM.K (hM.a 27 (by decide) (by decide)) ?_
        refine q_iload_n dX12_add_73 rfl ?_
        refine m_lald 27 (p) hM dX12_add_74 (by decide) rfl rfl rfl (show p < 20 by omega) ?_
        rw [pJ_2, if_pos ⟨rfl, rfl⟩]
        refine q_l2i dX12_add_75 ?_
        exact q_ireturn dX12_add_76 rfl (by decide) (by decide) (by unfold addR; rw [h16, if_neg (fun z => z.elim q1 (fun y => y q2)), nI_clamp (by omega), if_pos c20, if_neg c34, h27, uN_ofNat (by omega), lN_i]; exact ⟨rfl, hF, _, hM⟩)
      · refine q_bipush (v := (-3)) dX12_add_38 (by decide) ?_
        exact q_ireturn dX12_add_40 rfl (by decide) (by decide) (by unfold addR; rw [h16, if_neg (fun z => z.elim q1 (fun y => y q2)), nI_clamp (by omega), if_pos c20, if_pos c34]; exact ⟨rfl, hF, _, hM⟩)
    · refine q_iconst (v := (-1)) dX12_add_23 (by decide) ?_
      exact q_ireturn dX12_add_24 rfl (by decide) (by decide) (by unfold addR; rw [h16, if_neg (fun z => z.elim q1 (fun y => y q2)), nI_clamp (by omega), if_neg c20]; exact ⟨rfl, hF, _, hM⟩)
set_option maxHeartbeats 600000 in
set_option maxRecDepth 100000 in
theorem mspan_a (l : Launch) (G : Gt) (M : Mt) (Z0 Z : Zt) (y : Nat) (σ e : St) (hM : MR Z y σ e) (hF : MF y Z0 Z) (ns : Nat) (h16 : σ.1 16 0 = nI ns) (hns : ns ≤ 20) (lo hi st c q9 : Int64) (P : Int32 → Zt → Prop) (hS : spanS σ lo hi st = (if 20 ≤ σ.1 16 0 then (-3, σ) else (σ.1 16 0, addS σ (σ.1 16 0).toNatClampNeg 0 (σ.1 18 (σ.1 16 0).toNatClampNeg) (σ.1 19 (σ.1 16 0).toNatClampNeg) (σ.1 20 (σ.1 16 0).toNatClampNeg) (σ.1 21 (σ.1 16 0).toNatClampNeg) 1 1 (σ.2 22 (σ.1 16 0).toNatClampNeg) lo st c))) (hP : ∀ r Z1, MF y Z0 Z1 → (r = (spanS σ lo hi st).1 ∧ ∃ e1, MR Z1 y (spanS σ lo hi st).2 e1) → P r Z1) : Jd l G YX12_span (1, 0, 0) M Z 0 0 (Qm G (1, 0, 0) M (ΦI P)) 59 [some (.ref y), some (.long lo), none, some (.long hi), none, some (.long st), none, some (.long c), none, none, none] [] := by
  first | refine q_aload_n dX12_span_59 rfl ?_ | refine q_aload_nN dX12_span_59 rfl ?_
  refine q_getf dX12_span_60 fk_X12_137_11 hM.K (hM.i 16 (by decide) rfl rfl) ?_
  refine q_bipush (v := 20) dX12_span_63 (by decide) ?_
  refine q_icmp_ne 71 dX12_span_65 (by decide) (fun c65 => ?_) (fun c65 => ?_)
  · rw [h16] at c65
    have hlt := n20 hns c65
    first | refine q_aload_n dX12_span_71 rfl ?_ | refine q_aload_nN dX12_span_71 rfl ?_
    refine q_getf dX12_span_72 fk_X12_69_11 hM.K (hM.a 25 (by decide) (by decide)) ?_
    first | refine q_aload_n dX12_span_75 rfl ?_ | refine q_aload_nN dX12_span_75 rfl ?_
    refine q_getf dX12_span_76 fk_X12_137_11 hM.K (hM.i 16 (by decide) rfl rfl) ?_
    refine q_lload_n dX12_span_79 rfl ?_
    refine m_last 25 (ns) hM dX12_span_80 (by decide) rfl rfl h16 (show ns < 20 by omega) (fun Z hM hF1 => ?_)
    replace hF := hF.tr hF1
    first | refine q_aload_n dX12_span_81 rfl ?_ | refine q_aload_nN dX12_span_81 rfl ?_
    refine q_getf dX12_span_82 fk_X12_72_11 hM.K (hM.a 26 (by decide) (by decide)) ?_
    first | refine q_aload_n dX12_span_85 rfl ?_ | refine q_aload_nN dX12_span_85 rfl ?_
    refine q_getf dX12_span_86 fk_X12_137_11 hM.K (hM.i 16 (by decide) rfl rfl) ?_
    refine q_lload dX12_span_89 rfl ?_
    refine m_last 26 (ns) hM dX12_span_91 (by decide) rfl rfl (by rw [pJ_1]; exact h16) (show ns < 20 by omega) (fun Z hM hF1 => ?_)
    replace hF := hF.tr hF1
    first | refine q_aload_n dX12_span_92 rfl ?_ | refine q_aload_nN dX12_span_92 rfl ?_
    refine q_getf dX12_span_93 fk_X12_75_11 hM.K (hM.a 27 (by decide) (by decide)) ?_
    first | refine q_aload_n dX12_span_96 rfl ?_ | refine q_aload_nN dX12_span_96 rfl ?_
    refine q_getf dX12_span_97 fk_X12_137_11 hM.K (hM.i 16 (by decide) rfl rfl) ?_
    refine q_lload dX12_span_100 rfl ?_
    refine m_last 27 (ns) hM dX12_span_102 (by decide) rfl rfl (by rw [pJ_1, pJ_1]; exact h16) (show ns < 20 by omega) (fun Z hM hF1 => ?_)
    replace hF := hF.tr hF1
    first | refine q_aload_n dX12_span_103 rfl ?_ | refine q_aload_nN dX12_span_103 rfl ?_
    refine q_iconst (v := 0) dX12_span_104 (by decide) ?_
    refine q_iconst (v := 1) dX12_span_105 (by decide) ?_
    refine q_iconst (v := 1) dX12_span_106 (by decide) ?_
    refine q_callV 11 dX12_span_107 mk_X12_150 rfl hM.K (mc_comes l G Z y _ _ hM ns (by rw [pJ_1, pJ_1, pJ_1]; exact h16) hlt 0 1 1 rfl) rfl np_X12_comes (by decide) (by decide) (by decide) (Nat.le_of_ble_eq_true rfl) (kI (fun r107 Z107 h107 => ?_))
    obtain ⟨e107, f107, m107⟩ := h107
    exact q_ireturn dX12_span_110 rfl (by decide) (by decide) (hP _ _ (hF.tr f107) (by rw [hS, h16, if_neg (n20' hlt), nI_clamp (by omega), ← com_span]; exact ⟨e107, _, m107⟩))
  · refine q_bipush (v := (-3)) dX12_span_68 (by decide) ?_
    exact q_ireturn dX12_span_70 rfl (by decide) (by decide) (hP _ _ hF (by rw [hS, if_pos (by rw [c65]; decide)]; exact ⟨rfl, _, hM⟩))
set_option maxHeartbeats 600000 in
set_option maxRecDepth 100000 in
theorem mspan_b (l : Launch) (G : Gt) (M : Mt) (Z0 Z : Zt) (y : Nat) (σ e : St) (hM : MR Z y σ e) (hF : MF y Z0 Z) (ns : Nat) (h16 : σ.1 16 0 = nI ns) (hns : ns ≤ 20) (lo hi st c q9 : Int64) (P : Int32 → Zt → Prop) (hS : spanS σ lo hi st = (if 20 ≤ σ.1 16 0 then (-3, σ) else (σ.1 16 0, addS σ (σ.1 16 0).toNatClampNeg 0 (σ.1 18 (σ.1 16 0).toNatClampNeg) (σ.1 19 (σ.1 16 0).toNatClampNeg) (σ.1 20 (σ.1 16 0).toNatClampNeg) (σ.1 21 (σ.1 16 0).toNatClampNeg) 1 1 (σ.2 22 (σ.1 16 0).toNatClampNeg) lo st c))) (hP : ∀ r Z1, MF y Z0 Z1 → (r = (spanS σ lo hi st).1 ∧ ∃ e1, MR Z1 y (spanS σ lo hi st).2 e1) → P r Z1) : Jd l G YX12_span (1, 0, 0) M Z 0 0 (Qm G (1, 0, 0) M (ΦI P)) 59 [some (.ref y), some (.long lo), none, some (.long hi), none, some (.long st), none, some (.long c), none, some (.long q9), none] [] := by
  first | refine q_aload_n dX12_span_59 rfl ?_ | refine q_aload_nN dX12_span_59 rfl ?_
  refine q_getf dX12_span_60 fk_X12_137_11 hM.K (hM.i 16 (by decide) rfl rfl) ?_
  refine q_bipush (v := 20) dX12_span_63 (by decide) ?_
  refine q_icmp_ne 71 dX12_span_65 (by decide) (fun c65 => ?_) (fun c65 => ?_)
  · rw [h16] at c65
    have hlt := n20 hns c65
    first | refine q_aload_n dX12_span_71 rfl ?_ | refine q_aload_nN dX12_span_71 rfl ?_
    refine q_getf dX12_span_72 fk_X12_69_11 hM.K (hM.a 25 (by decide) (by decide)) ?_
    first | refine q_aload_n dX12_span_75 rfl ?_ | refine q_aload_nN dX12_span_75 rfl ?_
    refine q_getf dX12_span_76 fk_X12_137_11 hM.K (hM.i 16 (by decide) rfl rfl) ?_
    refine q_lload_n dX12_span_79 rfl ?_
    refine m_last 25 (ns) hM dX12_span_80 (by decide) rfl rfl h16 (show ns < 20 by omega) (fun Z hM hF1 => ?_)
    replace hF := hF.tr hF1
    first | refine q_aload_n dX12_span_81 rfl ?_ | refine q_aload_nN dX12_span_81 rfl ?_
    refine q_getf dX12_span_82 fk_X12_72_11 hM.K (hM.a 26 (by decide) (by decide)) ?_
    first | refine q_aload_n dX12_span_85 rfl ?_ | refine q_aload_nN dX12_span_85 rfl ?_
    refine q_getf dX12_span_86 fk_X12_137_11 hM.K (hM.i 16 (by decide) rfl rfl) ?_
    refine q_lload dX12_span_89 rfl ?_
    refine m_last 26 (ns) hM dX12_span_91 (by decide) rfl rfl (by rw [pJ_1]; exact h16) (show ns < 20 by omega) (fun Z hM hF1 => ?_)
    replace hF := hF.tr hF1
    first | refine q_aload_n dX12_span_92 rfl ?_ | refine q_aload_nN dX12_span_92 rfl ?_
    refine q_getf dX12_span_93 fk_X12_75_11 hM.K (hM.a 27 (by decide) (by decide)) ?_
    first | refine q_aload_n dX12_span_96 rfl ?_ | refine q_aload_nN dX12_span_96 rfl ?_
    refine q_getf dX12_span_97 fk_X12_137_11 hM.K (hM.i 16 (by decide) rfl rfl) ?_
    refine q_lload dX12_span_100 rfl ?_
    refine m_last 27 (ns) hM dX12_span_102 (by decide) rfl rfl (by rw [pJ_1, pJ_1]; exact h16) (show ns < 20 by omega) (fun Z hM hF1 => ?_)
    replace hF := hF.tr hF1
    first | refine q_aload_n dX12_span_103 rfl ?_ | refine q_aload_nN dX12_span_103 rfl ?_
    refine q_iconst (v := 0) dX12_span_104 (by decide) ?_
    refine q_iconst (v := 1) dX12_span_105 (by decide) ?_
    refine q_iconst (v := 1) dX12_span_106 (by decide) ?_
    refine q_callV 11 dX12_span_107 mk_X12_150 rfl hM.K (mc_comes l G Z y _ _ hM ns (by rw [pJ_1, pJ_1, pJ_1]; exact h16) hlt 0 1 1 rfl) rfl np_X12_comes (by decide) (by decide) (by decide) (Nat.le_of_ble_eq_true rfl) (kI (fun r107 Z107 h107 => ?_))
    obtain ⟨e107, f107, m107⟩ := h107
    exact q_ireturn dX12_span_110 rfl (by decide) (by decide) (hP _ _ (hF.tr f107) (by rw [hS, h16, if_neg (n20' hlt), nI_clamp (by omega), ← com_span]; exact ⟨e107, _, m107⟩))
  · refine q_bipush (v := (-3)) dX12_span_68 (by decide) ?_
    exact q_ireturn dX12_span_70 rfl (by decide) (by decide) (hP _ _ hF (by rw [hS, if_pos (by rw [c65]; decide)]; exact ⟨rfl, _, hM⟩))
set_option maxHeartbeats 600000 in
set_option maxRecDepth 100000 in
theorem mc_span (l : Launch) (G : Gt) (Z0 : Zt) (y : Nat) (σ e : St) (hM : MR Z0 y σ e) (ns : Nat) (h16 : σ.1 16 0 = nI ns) (hns : ns ≤ 20) (lo hi st : Int64) : Ct l G YX12_span (1, 0, 0) Z0 [.ref y, .long lo, .long hi, .long st] (ΦI (fun r Z1 => r = (spanS σ lo hi st).1 ∧ MF y Z0 Z1 ∧ ∃ e1, MR Z1 y (spanS σ lo hi st).2 e1)) := by
  refine ct_of [some (.ref y), some (.long lo), none, some (.long hi), none, some (.long st), none, none, none, none, none] (by decide +kernel) (Nat.le_of_ble_eq_true rfl) rfl (fun M => ?_)
  have hF := MF.rf y Z0
  first | refine q_aload_n dX12_span_0 rfl ?_ | refine q_aload_nN dX12_span_0 rfl ?_
  refine q_iconst (v := 0) dX12_span_1 (by decide) ?_
  refine m_putx 0 hM dX12_span_2 fk_X12_99_11 rfl (by decide) rfl rfl rfl rfl (fun Z hM hF1 => ?_)
  replace hF := hF.tr hF1
  refine q_lload dX12_span_5 rfl ?_
  refine q_lconst (v := 1) dX12_span_7 (by decide) ?_
  refine q_lcmp_ge 15 dX12_span_8 dX12_span_9 (by decide) (fun c8 => ?_) (fun c8 => ?_)
  · have s1 : ¬ st < 1 := Int64.not_lt.mpr c8
    have s0 : ¬ st < 0 := fun z => s1 (Int64.lt_of_lt_of_le z (by decide))
    have sn : ¬ st = 0 := fun z => s1 (by rw [z]; decide)
    refine q_lconst (v := 0) dX12_span_15 (by decide) ?_
    refine q_lstore (ls' := [_, _, _, _, _, _, _, _, _, _, _]) dX12_span_16 rfl rfl (Nat.le_of_ble_eq_true rfl) (by decide) ?_
    refine q_lload_n dX12_span_18 rfl ?_
    refine q_lload_n dX12_span_19 rfl ?_
    refine q_lcmp_gt 59 dX12_span_20 dX12_span_21 (by decide) (fun c20 => ?_) (fun c20 => ?_)
    · exact mspan_a l G M Z0 Z y σ _ hM hF ns h16 hns lo hi st 0 0 _ (by unfold spanS; rw [if_neg s1, if_neg (fun z => absurd z.1 (Int64.not_le.mpr c20)), if_neg (Int64.not_le.mpr c20)]) (fun r Z1 f m => ⟨m.1, f, m.2⟩)
    · refine q_lload_n dX12_span_24 rfl ?_
      refine q_lload_n dX12_span_25 rfl ?_
      refine q_lsub dX12_span_26 ?_
      refine q_lload dX12_span_27 rfl ?_
      refine q_callS dX12_span_29 mk_X12_142 (mc_divided l G _ (hi - lo) st s0 sn) rfl np_X12_divided (by decide) (by decide) (by decide) (Nat.le_of_ble_eq_true rfl) (kL (fun r29 Z29 h29 => ?_))
      obtain ⟨e29, h29⟩ := h29
      rw [e29]
      subst h29
      refine q_lstore (ls' := [_, _, _, _, _, _, _, _, _, _, _]) dX12_span_32 rfl rfl (Nat.le_of_ble_eq_true rfl) (by decide) ?_
      refine q_lload dX12_span_34 rfl ?_
      refine q_lconst (v := 0) dX12_span_36 (by decide) ?_
      refine q_lcmp_lt 50 dX12_span_37 dX12_span_38 (by decide) (fun c37 => ?_) (fun c37 => ?_)
      · refine q_bipush (v := (-3)) dX12_span_50 (by decide) ?_
        exact q_ireturn dX12_span_52 rfl (by decide) (by decide) (by unfold spanS; rw [if_neg s1, if_pos ⟨Int64.not_lt.mp c20, Or.inl c37⟩]; exact ⟨rfl, hF, _, hM⟩)
      · refine q_lload dX12_span_41 rfl ?_
        refine q_ldc2 dX12_span_43 kl_X12_148 ?_
        refine q_lcmp_ne 53 dX12_span_46 dX12_span_47 (by decide) (fun c46 => ?_) (fun c46 => ?_)
        · refine q_lload dX12_span_53 rfl ?_
          refine q_lconst (v := 1) dX12_span_55 (by decide) ?_
          refine q_ladd dX12_span_56 ?_
          refine q_lstore (ls' := [_, _, _, _, _, _, _, _, _, _, _]) dX12_span_57 rfl rfl (Nat.le_of_ble_eq_true rfl) (by decide) ?_
          exact mspan_b l G M Z0 Z y σ _ hM hF ns h16 hns lo hi st _ _ _ (by unfold spanS; rw [if_neg s1, if_neg (fun z => z.2.elim c37 c46), if_pos (Int64.not_lt.mp c20)]) (fun r Z1 f m => ⟨m.1, f, m.2⟩)
        · refine q_bipush (v := (-3)) dX12_span_50 (by decide) ?_
          exact q_ireturn dX12_span_52 rfl (by decide) (by decide) (by unfold spanS; rw [if_neg s1, if_pos ⟨Int64.not_lt.mp c20, Or.inr c46⟩]; exact ⟨rfl, hF, _, hM⟩)
  · refine q_bipush (v := (-2)) dX12_span_12 (by decide) ?_
    exact q_ireturn dX12_span_14 rfl (by decide) (by decide) (by unfold spanS; rw [if_pos (Int64.not_le.mp c8)]; exact ⟨rfl, hF, _, hM⟩)
