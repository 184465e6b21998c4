theorem so9 {so : Int32} (hr : ¬ (so < 2 ∨ ¬ so ≤ 9)) (h : 9 ≤ so) : so = 9 := Int32.le_antisymm (Classical.byContradiction fun z => hr (Or.inr z)) h
theorem so4 {so : Int32} : ¬ 5 ≤ so ↔ so ≤ 4 := by
  rw [Int32.le_iff_toInt_le, Int32.le_iff_toInt_le, show (5 : Int32).toInt = 5 by decide, show (4 : Int32).toInt = 4 by decide]
  omega
set_option maxHeartbeats 600000 in
set_option maxRecDepth 100000 in
theorem msrc_75 (l : Launch) (G : Gt) (M : Mt) (Z0 Z : Zt) (y : Nat) (σ e : St) (hM : MR Z y σ e) (hF : MF y Z0 Z) (ns : Nat) (h16 : σ.1 16 0 = nI ns) (hns : ns ≤ 20) (so s t a n : Int32) (v : Int64) (nf : Nat) (h6 : σ.1 6 0 = nI nf) (hnf : nf ≤ 20) (h24 : ∀ p, p < ns → σ.1 24 p = 0 ∨ σ.1 24 p = 1) (hn8 : so = 8 → ¬ n.toInt64 = 0) (hr : ¬ (so < 2 ∨ ¬ so ≤ 9)) (hfit : (if so = 6 then ¬ n < 0 ∧ n ≤ 200 else if so = 8 then ¬ n < 1 ∧ n ≤ 200 else True)) (ha9 : so = 9 → ¬ (a < 0 ∨ ¬ a < 6)) (P : Int32 → Zt → Prop) (hP : ∀ r Z1, MF y Z0 Z1 → (r = (srcS σ so s t a n v).1 ∧ ∃ e1, MR Z1 y (srcS σ so s t a n v).2 e1) → P r Z1) : Jd l G YX12_source (1, 0, 0) M Z 0 0 (Qm G (1, 0, 0) M (ΦI P)) 75 [some (.ref y), some (.int so), some (.int s), some (.int t), some (.int a), some (.int n), some (.long v), none, none, none, none, none, none] [] := by
  refine q_iload_n dX12_source_75 rfl ?_
  refine q_iconst (v := 5) dX12_source_76 (by decide) ?_
  refine q_icmp_ge 84 dX12_source_77 (by decide) (fun c77 => ?_) (fun c77 => ?_)
  · refine q_iconst (v := 0) dX12_source_84 (by decide) ?_
    refine q_istore (ls' := [_, _, _, _, _, _, _, _, _, _, _, _, _]) dX12_source_85 rfl rfl (Nat.le_of_ble_eq_true rfl) (by decide) ?_
    refine q_iload_n dX12_source_87 rfl ?_
    refine q_bipush (v := 9) dX12_source_88 (by decide) ?_
    refine q_icmp_ge 101 dX12_source_90 (by decide) (fun c90 => ?_) (fun c90 => ?_)
    · refine q_iload dX12_source_101 rfl ?_
      refine q_if_eq 114 dX12_source_103 (by decide) (fun c103 => ?_) (fun c103 => absurd c103 (not_not_intro rfl))
      refine q_iload_n dX12_source_114 rfl ?_
      refine q_bipush (v := 7) dX12_source_115 (by decide) ?_
      refine q_icmp_ne 131 dX12_source_117 (by decide) (fun c117 => ?_) (fun c117 => ?_)
      · refine q_iload_n dX12_source_131 rfl ?_
        refine q_bipush (v := 9) dX12_source_132 (by decide) ?_
        refine q_icmp_ne 141 dX12_source_134 (by decide) (fun c134 => ?_) (fun c134 => ?_)
        · exact absurd (so9 hr c90) c134
        · refine q_iconst (v := 1) dX12_source_137 (by decide) ?_
          refine q_goto 149 dX12_source_138 (by decide) ?_
          refine q_istore (ls' := [_, _, _, _, _, _, _, _, _, _, _, _, _]) dX12_source_149 rfl rfl (Nat.le_of_ble_eq_true rfl) (by decide) ?_
          refine q_iload dX12_source_151 rfl ?_
          refine q_if_eq 179 dX12_source_153 (by decide) (fun c153 => ?_) (fun c153 => absurd c153 (not_not_intro rfl))
          refine msrc_179 l G M Z0 Z y σ _ hM hF ns h16 hns so s t a n v 0 1 (Or.inl c134) h24 hn8 P (fun r Z1 f m => hP r Z1 f ?_)
          have hE : srcS σ so s t a n v = (if (so = 5 ∨ so = 8) ∧ σ.1 24 s.toNatClampNeg = 1 then keepS σ so s t a n 1 1 v (plnF σ so s) (plnT σ so s n) (plnN σ so s n) else keepS σ so s t a n 1 0 v (σ.2 25 (σ.1 16 0).toNatClampNeg) (σ.2 26 (σ.1 16 0).toNatClampNeg) (σ.2 27 (σ.1 16 0).toNatClampNeg)) := by
            unfold srcS
            rw [if_neg (fun z => z.elim hr (fun y => y hfit)), if_pos c134, if_neg (ha9 c134), if_neg (fun z => z.1.elim (fun e => by rw [c134] at e; exact absurd e (by decide)) (fun e => by rw [c134] at e; exact absurd e (by decide))), c134]
          rw [hE]; exact m
      · exact absurd (so9 hr c90) (by rw [c117]; decide)
    · first | refine q_aload_n dX12_source_93 rfl ?_ | refine q_aload_nN dX12_source_93 rfl ?_
      refine q_iload_n dX12_source_94 rfl ?_
      refine q_callV 11 dX12_source_95 mk_X12_154 rfl hM.K (mc_isSource l G Z y _ _ hM s) rfl np_X12_isSource (by decide) (by decide) (by decide) (Nat.le_of_ble_eq_true rfl) (kI (fun r95 Z95 h95 => ?_))
      obtain ⟨e95, h95⟩ := h95
      rw [e95]
      refine q_if_eq 129 dX12_source_98 (by decide) (fun c98 => ?_) (fun c98 => ?_)
      · refine q_iconst (v := (-1)) dX12_source_129 (by decide) ?_
        exact q_ireturn dX12_source_130 rfl (by decide) (by decide) (hP _ _ hF (by unfold srcS; rw [if_neg (fun z => z.elim hr (fun y => y hfit)), if_neg (fun e9 => c90 (by rw [e9]; decide)), if_pos (Or.inl (Classical.byContradiction fun z => rb_f h95 c98 ⟨fun w => z (Or.inl w), Classical.byContradiction fun w => z (Or.inr w)⟩))]; exact ⟨rfl, _, hM⟩))
      · refine q_iload dX12_source_101 rfl ?_
        refine q_if_eq 114 dX12_source_103 (by decide) (fun c103 => ?_) (fun c103 => absurd c103 (not_not_intro rfl))
        refine q_iload_n dX12_source_114 rfl ?_
        refine q_bipush (v := 7) dX12_source_115 (by decide) ?_
        refine q_icmp_ne 131 dX12_source_117 (by decide) (fun c117 => ?_) (fun c117 => ?_)
        · refine q_iload_n dX12_source_131 rfl ?_
          refine q_bipush (v := 9) dX12_source_132 (by decide) ?_
          refine q_icmp_ne 141 dX12_source_134 (by decide) (fun c134 => ?_) (fun c134 => ?_)
          · obtain ⟨q1, q2⟩ := rb_t h95 c98
            rw [h16] at q2
            obtain ⟨p, hp, rfl⟩ := ix_of (by omega) q1 q2
            first | refine q_aload_n dX12_source_141 rfl ?_ | refine q_aload_nN dX12_source_141 rfl ?_
            refine q_getf dX12_source_142 fk_X12_62_11 hM.K (hM.a 23 (by decide) (by decide)) ?_
            refine q_iload_n dX12_source_145 rfl ?_
            refine m_iald 23 (p) hM dX12_source_146 (by decide) rfl rfl rfl (show p < 20 by omega) ?_
            refine q_iconst (v := 1) dX12_source_147 (by decide) ?_
            refine q_iadd dX12_source_148 ?_
            refine q_istore (ls' := [_, _, _, _, _, _, _, _, _, _, _, _, _]) dX12_source_149 rfl rfl (Nat.le_of_ble_eq_true rfl) (by decide) ?_
            refine q_iload dX12_source_151 rfl ?_
            refine q_if_eq 179 dX12_source_153 (by decide) (fun c153 => ?_) (fun c153 => absurd c153 (not_not_intro rfl))
            refine msrc_179 l G M Z0 Z y σ _ hM hF ns h16 hns so (nI p) t a n v 0 _ (Or.inr ⟨p, hp, rfl⟩) h24 hn8 P (fun r Z1 f m => hP r Z1 f ?_)
            rw [src_good hr hfit (fun e9 => c90 (by rw [e9]; decide)) h16 h6 (fun z => z.elim q1 (fun y => y q2)) (fun e4 => absurd (so4.mpr e4) (not_not_intro c77)) (fun e7 => absurd e7 c117)]
            have hD : sdD σ so (nI p) t = σ.1 23 p + 1 := by unfold sdD; rw [nI_clamp (by omega), if_neg (fun z => absurd (so4.mpr z.1) (not_not_intro c77))]
            unfold fromS
            rw [hD]; exact m
          · exact absurd (show (9 : Int32) ≤ so by rw [c134]; decide) c90
        · first | refine q_aload_n dX12_source_120 rfl ?_ | refine q_aload_nN dX12_source_120 rfl ?_
          refine q_iload dX12_source_121 rfl ?_
          refine q_callV 11 dX12_source_123 mk_X12_106 rfl hM.K (mc_isFilter l G Z y _ _ hM a) rfl np_X12_isFilter (by decide) (by decide) (by decide) (Nat.le_of_ble_eq_true rfl) (kI (fun r123 Z123 h123 => ?_))
          obtain ⟨e123, h123⟩ := h123
          rw [e123]
          refine q_if_ne 131 dX12_source_126 (by decide) (fun c126 => ?_) (fun c126 => ?_)
          · refine q_iload_n dX12_source_131 rfl ?_
            refine q_bipush (v := 9) dX12_source_132 (by decide) ?_
            refine q_icmp_ne 141 dX12_source_134 (by decide) (fun c134 => ?_) (fun c134 => ?_)
            · obtain ⟨q1, q2⟩ := rb_t h95 c98
              rw [h16] at q2
              obtain ⟨p, hp, rfl⟩ := ix_of (by omega) q1 q2
              first | refine q_aload_n dX12_source_141 rfl ?_ | refine q_aload_nN dX12_source_141 rfl ?_
              refine q_getf dX12_source_142 fk_X12_62_11 hM.K (hM.a 23 (by decide) (by decide)) ?_
              refine q_iload_n dX12_source_145 rfl ?_
              refine m_iald 23 (p) hM dX12_source_146 (by decide) rfl rfl rfl (show p < 20 by omega) ?_
              refine q_iconst (v := 1) dX12_source_147 (by decide) ?_
              refine q_iadd dX12_source_148 ?_
              refine q_istore (ls' := [_, _, _, _, _, _, _, _, _, _, _, _, _]) dX12_source_149 rfl rfl (Nat.le_of_ble_eq_true rfl) (by decide) ?_
              refine q_iload dX12_source_151 rfl ?_
              refine q_if_eq 179 dX12_source_153 (by decide) (fun c153 => ?_) (fun c153 => absurd c153 (not_not_intro rfl))
              refine msrc_179 l G M Z0 Z y σ _ hM hF ns h16 hns so (nI p) t a n v 0 _ (Or.inr ⟨p, hp, rfl⟩) h24 hn8 P (fun r Z1 f m => hP r Z1 f ?_)
              rw [src_good hr hfit (fun e9 => c90 (by rw [e9]; decide)) h16 h6 (fun z => z.elim q1 (fun y => y q2)) (fun e4 => absurd (so4.mpr e4) (not_not_intro c77)) (fun _ => fun z => absurd (rb_t h123 c126) (fun w => z.elim w.1 (fun y => y (by rw [← h6]; exact w.2))))]
              have hD : sdD σ so (nI p) t = σ.1 23 p + 1 := by unfold sdD; rw [nI_clamp (by omega), if_neg (fun z => absurd (so4.mpr z.1) (not_not_intro c77))]
              unfold fromS
              rw [hD]; exact m
            · exact absurd (show (9 : Int32) ≤ so by rw [c134]; decide) c90
          · refine q_iconst (v := (-1)) dX12_source_129 (by decide) ?_
            exact q_ireturn dX12_source_130 rfl (by decide) (by decide) (hP _ _ hF (by unfold srcS; rw [if_neg (fun z => z.elim hr (fun y => y hfit)), if_neg (fun e9 => c90 (by rw [e9]; decide)), if_pos (Or.inr (Or.inr ⟨c117, (Classical.byContradiction fun z => rb_f h123 c126 ⟨fun w => z (Or.inl w), Classical.byContradiction fun w => z (Or.inr w)⟩)⟩))]; exact ⟨rfl, _, hM⟩))
  · refine q_iconst (v := 1) dX12_source_80 (by decide) ?_
    refine q_goto 85 dX12_source_81 (by decide) ?_
    refine q_istore (ls' := [_, _, _, _, _, _, _, _, _, _, _, _, _]) dX12_source_85 rfl rfl (Nat.le_of_ble_eq_true rfl) (by decide) ?_
    refine q_iload_n dX12_source_87 rfl ?_
    refine q_bipush (v := 9) dX12_source_88 (by decide) ?_
    refine q_icmp_ge 101 dX12_source_90 (by decide) (fun c90 => ?_) (fun c90 => ?_)
    · refine q_iload dX12_source_101 rfl ?_
      refine q_if_eq 114 dX12_source_103 (by decide) (fun c103 => absurd c103 (by decide)) (fun c103 => ?_)
      exact absurd (so9 hr c90) (fun e9 => c77 (by rw [e9]; decide))
    · first | refine q_aload_n dX12_source_93 rfl ?_ | refine q_aload_nN dX12_source_93 rfl ?_
      refine q_iload_n dX12_source_94 rfl ?_
      refine q_callV 11 dX12_source_95 mk_X12_154 rfl hM.K (mc_isSource l G Z y _ _ hM s) rfl np_X12_isSource (by decide) (by decide) (by decide) (Nat.le_of_ble_eq_true rfl) (kI (fun r95 Z95 h95 => ?_))
      obtain ⟨e95, h95⟩ := h95
      rw [e95]
      refine q_if_eq 129 dX12_source_98 (by decide) (fun c98 => ?_) (fun c98 => ?_)
      · refine q_iconst (v := (-1)) dX12_source_129 (by decide) ?_
        exact q_ireturn dX12_source_130 rfl (by decide) (by decide) (hP _ _ hF (by unfold srcS; rw [if_neg (fun z => z.elim hr (fun y => y hfit)), if_neg (fun e9 => c90 (by rw [e9]; decide)), if_pos (Or.inl (Classical.byContradiction fun z => rb_f h95 c98 ⟨fun w => z (Or.inl w), Classical.byContradiction fun w => z (Or.inr w)⟩))]; exact ⟨rfl, _, hM⟩))
      · refine q_iload dX12_source_101 rfl ?_
        refine q_if_eq 114 dX12_source_103 (by decide) (fun c103 => absurd c103 (by decide)) (fun c103 => ?_)
        first | refine q_aload_n dX12_source_106 rfl ?_ | refine q_aload_nN dX12_source_106 rfl ?_
        refine q_iload_n dX12_source_107 rfl ?_
        refine q_callV 11 dX12_source_108 mk_X12_154 rfl hM.K (mc_isSource l G Z y _ _ hM t) rfl np_X12_isSource (by decide) (by decide) (by decide) (Nat.le_of_ble_eq_true rfl) (kI (fun r108 Z108 h108 => ?_))
        obtain ⟨e108, h108⟩ := h108
        rw [e108]
        refine q_if_eq 129 dX12_source_111 (by decide) (fun c111 => ?_) (fun c111 => ?_)
        · refine q_iconst (v := (-1)) dX12_source_129 (by decide) ?_
          exact q_ireturn dX12_source_130 rfl (by decide) (by decide) (hP _ _ hF (by unfold srcS; rw [if_neg (fun z => z.elim hr (fun y => y hfit)), if_neg (fun e9 => c90 (by rw [e9]; decide)), if_pos (Or.inr (Or.inl ⟨so4.mp c77, (Classical.byContradiction fun z => rb_f h108 c111 ⟨fun w => z (Or.inl w), Classical.byContradiction fun w => z (Or.inr w)⟩)⟩))]; exact ⟨rfl, _, hM⟩))
        · refine q_iload_n dX12_source_114 rfl ?_
          refine q_bipush (v := 7) dX12_source_115 (by decide) ?_
          refine q_icmp_ne 131 dX12_source_117 (by decide) (fun c117 => ?_) (fun c117 => ?_)
          · refine q_iload_n dX12_source_131 rfl ?_
            refine q_bipush (v := 9) dX12_source_132 (by decide) ?_
            refine q_icmp_ne 141 dX12_source_134 (by decide) (fun c134 => ?_) (fun c134 => ?_)
            · obtain ⟨q1, q2⟩ := rb_t h95 c98
              rw [h16] at q2
              obtain ⟨p, hp, rfl⟩ := ix_of (by omega) q1 q2
              obtain ⟨u1, u2⟩ := rb_t h108 c111
              rw [h16] at u2
              obtain ⟨q, hq, rfl⟩ := ix_of (by omega) u1 u2
              first | refine q_aload_n dX12_source_141 rfl ?_ | refine q_aload_nN dX12_source_141 rfl ?_
              refine q_getf dX12_source_142 fk_X12_62_11 hM.K (hM.a 23 (by decide) (by decide)) ?_
              refine q_iload_n dX12_source_145 rfl ?_
              refine m_iald 23 (p) hM dX12_source_146 (by decide) rfl rfl rfl (show p < 20 by omega) ?_
              refine q_iconst (v := 1) dX12_source_147 (by decide) ?_
              refine q_iadd dX12_source_148 ?_
              refine q_istore (ls' := [_, _, _, _, _, _, _, _, _, _, _, _, _]) dX12_source_149 rfl rfl (Nat.le_of_ble_eq_true rfl) (by decide) ?_
              refine q_iload dX12_source_151 rfl ?_
              refine q_if_eq 179 dX12_source_153 (by decide) (fun c153 => absurd c153 (by decide)) (fun c153 => ?_)
              first | refine q_aload_n dX12_source_156 rfl ?_ | refine q_aload_nN dX12_source_156 rfl ?_
              refine q_getf dX12_source_157 fk_X12_62_11 hM.K (hM.a 23 (by decide) (by decide)) ?_
              refine q_iload_n dX12_source_160 rfl ?_
              refine m_iald 23 (q) hM dX12_source_161 (by decide) rfl rfl rfl (show q < 20 by omega) ?_
              refine q_iconst (v := 1) dX12_source_162 (by decide) ?_
              refine q_iadd dX12_source_163 ?_
              refine q_iload dX12_source_164 rfl ?_
              refine q_icmp_le 179 dX12_source_166 (by decide) (fun c166 => ?_) (fun c166 => ?_)
              · refine msrc_179 l G M Z0 Z y σ _ hM hF ns h16 hns so (nI p) (nI q) a n v 1 _ (Or.inr ⟨p, hp, rfl⟩) h24 hn8 P (fun r Z1 f m => hP r Z1 f ?_)
                rw [src_good hr hfit (fun e9 => c90 (by rw [e9]; decide)) h16 h6 (fun z => z.elim q1 (fun y => y q2)) (fun _ => fun z => z.elim u1 (fun y => y u2)) (fun e7 => absurd e7 c117)]
                have hD : sdD σ so (nI p) (nI q) = σ.1 23 p + 1 := by unfold sdD; rw [nI_clamp (by omega), nI_clamp (by omega), if_neg (fun z => absurd z.2 (Int32.not_lt.mpr c166))]
                unfold fromS
                rw [hD]; exact m
              · first | refine q_aload_n dX12_source_169 rfl ?_ | refine q_aload_nN dX12_source_169 rfl ?_
                refine q_getf dX12_source_170 fk_X12_62_11 hM.K (hM.a 23 (by decide) (by decide)) ?_
                refine q_iload_n dX12_source_173 rfl ?_
                refine m_iald 23 (q) hM dX12_source_174 (by decide) rfl rfl rfl (show q < 20 by omega) ?_
                refine q_iconst (v := 1) dX12_source_175 (by decide) ?_
                refine q_iadd dX12_source_176 ?_
                refine q_istore (ls' := [_, _, _, _, _, _, _, _, _, _, _, _, _]) dX12_source_177 rfl rfl (Nat.le_of_ble_eq_true rfl) (by decide) ?_
                refine msrc_179 l G M Z0 Z y σ _ hM hF ns h16 hns so (nI p) (nI q) a n v 1 _ (Or.inr ⟨p, hp, rfl⟩) h24 hn8 P (fun r Z1 f m => hP r Z1 f ?_)
                rw [src_good hr hfit (fun e9 => c90 (by rw [e9]; decide)) h16 h6 (fun z => z.elim q1 (fun y => y q2)) (fun _ => fun z => z.elim u1 (fun y => y u2)) (fun e7 => absurd e7 c117)]
                have hD : sdD σ so (nI p) (nI q) = σ.1 23 q + 1 := by unfold sdD; rw [nI_clamp (by omega), nI_clamp (by omega), if_pos ⟨so4.mp c77, Int32.not_le.mp c166⟩]
                unfold fromS
                rw [hD]; exact m
            · exact absurd (show (9 : Int32) ≤ so by rw [c134]; decide) c90
          · exact absurd (show (5 : Int32) ≤ so by rw [c117]; decide) c77
theorem n8_ne {n : Int32} (h0 : ¬ n < 1) (h1 : n ≤ 200) : ¬ n.toInt64 = 0 := fun z => by
  obtain ⟨m, m0, m1, rfl⟩ := fit_1 h0 h1
  have a : (nI m).toInt64.toInt = m := by rw [Int32.toInt_toInt64]; exact toInt_of rfl (by omega)
  rw [z] at a
  have : (0 : Int64).toInt = 0 := by decide
  omega
set_option maxHeartbeats 600000 in
set_option maxRecDepth 100000 in
theorem mc_source (l : Launch) (G : Gt) (Z0 : Zt) (y : Nat) (σ e : St) (hM : MR Z0 y σ e) (ns : Nat) (h16 : σ.1 16 0 = nI ns) (hns : ns ≤ 20) (nf : Nat) (h6 : σ.1 6 0 = nI nf) (hnf : nf ≤ 20) (h24 : ∀ p, p < ns → σ.1 24 p = 0 ∨ σ.1 24 p = 1) (so s t a n : Int32) (v : Int64)  : Ct l G YX12_source (1, 0, 0) Z0 [.ref y, .int so, .int s, .int t, .int a, .int n, .long v] (ΦI (fun r Z1 => r = (srcS σ so s t a n v).1 ∧ MF y Z0 Z1 ∧ ∃ e1, MR Z1 y (srcS σ so s t a n v).2 e1)) := by
  refine ct_of [some (.ref y), some (.int so), some (.int s), some (.int t), some (.int a), some (.int n), some (.long v), none, none, none, none, none, none] (by decide +kernel) (Nat.le_of_ble_eq_true rfl) rfl (fun M => ?_)
  have hF := MF.rf y Z0
  first | refine q_aload_n dX12_source_0 rfl ?_ | refine q_aload_nN dX12_source_0 rfl ?_
  refine q_iconst (v := 0) dX12_source_1 (by decide) ?_
  refine m_putx 0 hM dX12_source_2 fk_X12_99_11 rfl (by decide) rfl rfl rfl rfl (fun Z hM hF1 => ?_)
  replace hF := hF.tr hF1
  refine q_iload_n dX12_source_5 rfl ?_
  refine q_iconst (v := 2) dX12_source_6 (by decide) ?_
  refine q_icmp_lt 72 dX12_source_7 (by decide) (fun c7 => ?_) (fun c7 => ?_)
  · refine q_bipush (v := (-2)) dX12_source_72 (by decide) ?_
    exact q_ireturn dX12_source_74 rfl (by decide) (by decide) (by unfold srcS; rw [if_pos (Or.inl (Or.inl c7))]; exact ⟨rfl, hF, _, hM⟩)
  · refine q_iload_n dX12_source_10 rfl ?_
    refine q_bipush (v := 9) dX12_source_11 (by decide) ?_
    refine q_icmp_gt 72 dX12_source_13 (by decide) (fun c13 => ?_) (fun c13 => ?_)
    · refine q_bipush (v := (-2)) dX12_source_72 (by decide) ?_
      exact q_ireturn dX12_source_74 rfl (by decide) (by decide) (by unfold srcS; rw [if_pos (Or.inl (Or.inr (Int32.not_le.mpr c13)))]; exact ⟨rfl, hF, _, hM⟩)
    · refine q_iload_n dX12_source_16 rfl ?_
      refine q_bipush (v := 6) dX12_source_17 (by decide) ?_
      refine q_icmp_ne 35 dX12_source_19 (by decide) (fun c19 => ?_) (fun c19 => ?_)
      · refine q_iload_n dX12_source_35 rfl ?_
        refine q_bipush (v := 8) dX12_source_36 (by decide) ?_
        refine q_icmp_ne 55 dX12_source_38 (by decide) (fun c38 => ?_) (fun c38 => ?_)
        · refine q_iload_n dX12_source_55 rfl ?_
          refine q_bipush (v := 9) dX12_source_56 (by decide) ?_
          refine q_icmp_ne 75 dX12_source_58 (by decide) (fun c58 => ?_) (fun c58 => ?_)
          · exact msrc_75 l G M Z0 Z y σ _ hM hF ns h16 hns so s t a n v nf h6 hnf h24 (fun e8 => absurd e8 c38) (fun z => z.elim c7 (fun y => y (Int32.not_lt.mp c13))) (by rw [if_neg c19, if_neg c38]; trivial) (fun e9 => absurd e9 c58) _ (fun r Z1 f m => ⟨m.1, f, m.2⟩)
          · refine q_iload dX12_source_61 rfl ?_
            refine q_if_lt 72 dX12_source_63 (by decide) (fun c63 => ?_) (fun c63 => ?_)
            · refine q_bipush (v := (-2)) dX12_source_72 (by decide) ?_
              exact q_ireturn dX12_source_74 rfl (by decide) (by decide) (by unfold srcS; rw [if_neg (fun z => z.elim (fun y => y.elim c7 (fun y => y (Int32.not_lt.mp c13))) (fun y => y (by rw [if_neg (by rw [c58]; decide), if_neg (by rw [c58]; decide)]; trivial))), if_pos c58, if_pos (Or.inl c63)]; exact ⟨rfl, hF, _, hM⟩)
            · refine q_iload dX12_source_66 rfl ?_
              refine q_iconst (v := 5) dX12_source_68 (by decide) ?_
              refine q_icmp_le 75 dX12_source_69 (by decide) (fun c69 => ?_) (fun c69 => ?_)
              · exact msrc_75 l G M Z0 Z y σ _ hM hF ns h16 hns so s t a n v nf h6 hnf h24 (fun e8 => absurd e8 c38) (fun z => z.elim c7 (fun y => y (Int32.not_lt.mp c13))) (by rw [if_neg c19, if_neg c38]; trivial) (fun _ => fun z => z.elim c63 (fun y => y (i_le (by decide) c69))) _ (fun r Z1 f m => ⟨m.1, f, m.2⟩)
              · refine q_bipush (v := (-2)) dX12_source_72 (by decide) ?_
                exact q_ireturn dX12_source_74 rfl (by decide) (by decide) (by unfold srcS; rw [if_neg (fun z => z.elim (fun y => y.elim c7 (fun y => y (Int32.not_lt.mp c13))) (fun y => y (by rw [if_neg (by rw [c58]; decide), if_neg (by rw [c58]; decide)]; trivial))), if_pos c58, if_pos (Or.inr (fun z => i_gap (by decide) (Int32.not_le.mp c69) z))]; exact ⟨rfl, hF, _, hM⟩)
        · refine q_iload dX12_source_41 rfl ?_
          refine q_iconst (v := 1) dX12_source_43 (by decide) ?_
          refine q_icmp_lt 72 dX12_source_44 (by decide) (fun c44 => ?_) (fun c44 => ?_)
          · refine q_bipush (v := (-2)) dX12_source_72 (by decide) ?_
            exact q_ireturn dX12_source_74 rfl (by decide) (by decide) (by unfold srcS; rw [if_pos (Or.inr (by rw [if_neg (by rw [c38]; decide), if_pos c38]; exact fun z => z.1 c44))]; exact ⟨rfl, hF, _, hM⟩)
          · refine q_iload dX12_source_47 rfl ?_
            refine q_sipush (v := 200) dX12_source_49 (by decide) ?_
            refine q_icmp_gt 72 dX12_source_52 (by decide) (fun c52 => ?_) (fun c52 => ?_)
            · refine q_bipush (v := (-2)) dX12_source_72 (by decide) ?_
              exact q_ireturn dX12_source_74 rfl (by decide) (by decide) (by unfold srcS; rw [if_pos (Or.inr (by rw [if_neg (by rw [c38]; decide), if_pos c38]; exact fun z => absurd z.2 (Int32.not_le.mpr c52)))]; exact ⟨rfl, hF, _, hM⟩)
            · refine q_iload_n dX12_source_55 rfl ?_
              refine q_bipush (v := 9) dX12_source_56 (by decide) ?_
              refine q_icmp_ne 75 dX12_source_58 (by decide) (fun c58 => ?_) (fun c58 => ?_)
              · exact msrc_75 l G M Z0 Z y σ _ hM hF ns h16 hns so s t a n v nf h6 hnf h24 (fun _ => n8_ne c44 (Int32.not_lt.mp c52)) (fun z => z.elim c7 (fun y => y (Int32.not_lt.mp c13))) (by rw [if_neg (by rw [c38]; decide), if_pos c38]; exact ⟨c44, Int32.not_lt.mp c52⟩) (fun e9 => absurd e9 c58) _ (fun r Z1 f m => ⟨m.1, f, m.2⟩)
              · refine q_iload dX12_source_61 rfl ?_
                refine q_if_lt 72 dX12_source_63 (by decide) (fun c63 => ?_) (fun c63 => ?_)
                · refine q_bipush (v := (-2)) dX12_source_72 (by decide) ?_
                  exact q_ireturn dX12_source_74 rfl (by decide) (by decide) (by unfold srcS; rw [if_neg (fun z => z.elim (fun y => y.elim c7 (fun y => y (Int32.not_lt.mp c13))) (fun y => y (by rw [if_neg (by rw [c58]; decide), if_neg (by rw [c58]; decide)]; trivial))), if_pos c58, if_pos (Or.inl c63)]; exact ⟨rfl, hF, _, hM⟩)
                · refine q_iload dX12_source_66 rfl ?_
                  refine q_iconst (v := 5) dX12_source_68 (by decide) ?_
                  refine q_icmp_le 75 dX12_source_69 (by decide) (fun c69 => ?_) (fun c69 => ?_)
                  · exact msrc_75 l G M Z0 Z y σ _ hM hF ns h16 hns so s t a n v nf h6 hnf h24 (fun _ => n8_ne c44 (Int32.not_lt.mp c52)) (fun z => z.elim c7 (fun y => y (Int32.not_lt.mp c13))) (by rw [if_neg (by rw [c38]; decide), if_pos c38]; exact ⟨c44, Int32.not_lt.mp c52⟩) (fun _ => fun z => z.elim c63 (fun y => y (i_le (by decide) c69))) _ (fun r Z1 f m => ⟨m.1, f, m.2⟩)
                  · refine q_bipush (v := (-2)) dX12_source_72 (by decide) ?_
                    exact q_ireturn dX12_source_74 rfl (by decide) (by decide) (by unfold srcS; rw [if_neg (fun z => z.elim (fun y => y.elim c7 (fun y => y (Int32.not_lt.mp c13))) (fun y => y (by rw [if_neg (by rw [c58]; decide), if_neg (by rw [c58]; decide)]; trivial))), if_pos c58, if_pos (Or.inr (fun z => i_gap (by decide) (Int32.not_le.mp c69) z))]; exact ⟨rfl, hF, _, hM⟩)
      · refine q_iload dX12_source_22 rfl ?_
        refine q_if_lt 72 dX12_source_24 (by decide) (fun c24 => ?_) (fun c24 => ?_)
        · refine q_bipush (v := (-2)) dX12_source_72 (by decide) ?_
          exact q_ireturn dX12_source_74 rfl (by decide) (by decide) (by unfold srcS; rw [if_pos (Or.inr (by rw [if_pos c19]; exact fun z => z.1 c24))]; exact ⟨rfl, hF, _, hM⟩)
        · refine q_iload dX12_source_27 rfl ?_
          refine q_sipush (v := 200) dX12_source_29 (by decide) ?_
          refine q_icmp_gt 72 dX12_source_32 (by decide) (fun c32 => ?_) (fun c32 => ?_)
          · refine q_bipush (v := (-2)) dX12_source_72 (by decide) ?_
            exact q_ireturn dX12_source_74 rfl (by decide) (by decide) (by unfold srcS; rw [if_pos (Or.inr (by rw [if_pos c19]; exact fun z => absurd z.2 (Int32.not_le.mpr c32)))]; exact ⟨rfl, hF, _, hM⟩)
          · refine q_iload_n dX12_source_35 rfl ?_
            refine q_bipush (v := 8) dX12_source_36 (by decide) ?_
            refine q_icmp_ne 55 dX12_source_38 (by decide) (fun c38 => ?_) (fun c38 => ?_)
            · refine q_iload_n dX12_source_55 rfl ?_
              refine q_bipush (v := 9) dX12_source_56 (by decide) ?_
              refine q_icmp_ne 75 dX12_source_58 (by decide) (fun c58 => ?_) (fun c58 => ?_)
              · exact msrc_75 l G M Z0 Z y σ _ hM hF ns h16 hns so s t a n v nf h6 hnf h24 (fun e8 => absurd e8 c38) (fun z => z.elim c7 (fun y => y (Int32.not_lt.mp c13))) (by rw [if_pos c19]; exact ⟨c24, Int32.not_lt.mp c32⟩) (fun e9 => absurd e9 c58) _ (fun r Z1 f m => ⟨m.1, f, m.2⟩)
              · refine q_iload dX12_source_61 rfl ?_
                refine q_if_lt 72 dX12_source_63 (by decide) (fun c63 => ?_) (fun c63 => ?_)
                · refine q_bipush (v := (-2)) dX12_source_72 (by decide) ?_
                  exact q_ireturn dX12_source_74 rfl (by decide) (by decide) (by unfold srcS; rw [if_neg (fun z => z.elim (fun y => y.elim c7 (fun y => y (Int32.not_lt.mp c13))) (fun y => y (by rw [if_neg (by rw [c58]; decide), if_neg (by rw [c58]; decide)]; trivial))), if_pos c58, if_pos (Or.inl c63)]; exact ⟨rfl, hF, _, hM⟩)
                · refine q_iload dX12_source_66 rfl ?_
                  refine q_iconst (v := 5) dX12_source_68 (by decide) ?_
                  refine q_icmp_le 75 dX12_source_69 (by decide) (fun c69 => ?_) (fun c69 => ?_)
                  · exact msrc_75 l G M Z0 Z y σ _ hM hF ns h16 hns so s t a n v nf h6 hnf h24 (fun e8 => absurd e8 c38) (fun z => z.elim c7 (fun y => y (Int32.not_lt.mp c13))) (by rw [if_pos c19]; exact ⟨c24, Int32.not_lt.mp c32⟩) (fun _ => fun z => z.elim c63 (fun y => y (i_le (by decide) c69))) _ (fun r Z1 f m => ⟨m.1, f, m.2⟩)
                  · refine q_bipush (v := (-2)) dX12_source_72 (by decide) ?_
                    exact q_ireturn dX12_source_74 rfl (by decide) (by decide) (by unfold srcS; rw [if_neg (fun z => z.elim (fun y => y.elim c7 (fun y => y (Int32.not_lt.mp c13))) (fun y => y (by rw [if_neg (by rw [c58]; decide), if_neg (by rw [c58]; decide)]; trivial))), if_pos c58, if_pos (Or.inr (fun z => i_gap (by decide) (Int32.not_le.mp c69) z))]; exact ⟨rfl, hF, _, hM⟩)
            · refine q_iload dX12_source_41 rfl ?_
              refine q_iconst (v := 1) dX12_source_43 (by decide) ?_
              refine q_icmp_lt 72 dX12_source_44 (by decide) (fun c44 => ?_) (fun c44 => ?_)
              · refine q_bipush (v := (-2)) dX12_source_72 (by decide) ?_
                exact q_ireturn dX12_source_74 rfl (by decide) (by decide) (by unfold srcS; rw [if_pos (Or.inr (by rw [if_neg (by rw [c38]; decide), if_pos c38]; exact fun z => z.1 c44))]; exact ⟨rfl, hF, _, hM⟩)
              · refine q_iload dX12_source_47 rfl ?_
                refine q_sipush (v := 200) dX12_source_49 (by decide) ?_
                refine q_icmp_gt 72 dX12_source_52 (by decide) (fun c52 => ?_) (fun c52 => ?_)
                · refine q_bipush (v := (-2)) dX12_source_72 (by decide) ?_
                  exact q_ireturn dX12_source_74 rfl (by decide) (by decide) (by unfold srcS; rw [if_pos (Or.inr (by rw [if_neg (by rw [c38]; decide), if_pos c38]; exact fun z => absurd z.2 (Int32.not_le.mpr c52)))]; exact ⟨rfl, hF, _, hM⟩)
                · refine q_iload_n dX12_source_55 rfl ?_
                  refine q_bipush (v := 9) dX12_source_56 (by decide) ?_
                  refine q_icmp_ne 75 dX12_source_58 (by decide) (fun c58 => ?_) (fun c58 => ?_)
                  · exact msrc_75 l G M Z0 Z y σ _ hM hF ns h16 hns so s t a n v nf h6 hnf h24 (fun _ => n8_ne c44 (Int32.not_lt.mp c52)) (fun z => z.elim c7 (fun y => y (Int32.not_lt.mp c13))) (by rw [if_neg (by rw [c38]; decide), if_pos c38]; exact ⟨c44, Int32.not_lt.mp c52⟩) (fun e9 => absurd e9 c58) _ (fun r Z1 f m => ⟨m.1, f, m.2⟩)
                  · refine q_iload dX12_source_61 rfl ?_
                    refine q_if_lt 72 dX12_source_63 (by decide) (fun c63 => ?_) (fun c63 => ?_)
                    · refine q_bipush (v := (-2)) dX12_source_72 (by decide) ?_
                      exact q_ireturn dX12_source_74 rfl (by decide) (by decide) (by unfold srcS; rw [if_neg (fun z => z.elim (fun y => y.elim c7 (fun y => y (Int32.not_lt.mp c13))) (fun y => y (by rw [if_neg (by rw [c58]; decide), if_neg (by rw [c58]; decide)]; trivial))), if_pos c58, if_pos (Or.inl c63)]; exact ⟨rfl, hF, _, hM⟩)
                    · refine q_iload dX12_source_66 rfl ?_
                      refine q_iconst (v := 5) dX12_source_68 (by decide) ?_
                      refine q_icmp_le 75 dX12_source_69 (by decide) (fun c69 => ?_) (fun c69 => ?_)
                      · exact msrc_75 l G M Z0 Z y σ _ hM hF ns h16 hns so s t a n v nf h6 hnf h24 (fun _ => n8_ne c44 (Int32.not_lt.mp c52)) (fun z => z.elim c7 (fun y => y (Int32.not_lt.mp c13))) (by rw [if_neg (by rw [c38]; decide), if_pos c38]; exact ⟨c44, Int32.not_lt.mp c52⟩) (fun _ => fun z => z.elim c63 (fun y => y (i_le (by decide) c69))) _ (fun r Z1 f m => ⟨m.1, f, m.2⟩)
                      · refine q_bipush (v := (-2)) dX12_source_72 (by decide) ?_
                        exact q_ireturn dX12_source_74 rfl (by decide) (by decide) (by unfold srcS; rw [if_neg (fun z => z.elim (fun y => y.elim c7 (fun y => y (Int32.not_lt.mp c13))) (fun y => y (by rw [if_neg (by rw [c58]; decide), if_neg (by rw [c58]; decide)]; trivial))), if_pos c58, if_pos (Or.inr (fun z => i_gap (by decide) (Int32.not_le.mp c69) z))]; exact ⟨rfl, hF, _, hM⟩)
