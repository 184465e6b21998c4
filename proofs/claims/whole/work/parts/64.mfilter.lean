theorem addF_p (σ : St) (n : Nat) (kd a b d : Int32) (v : Int64) : pI (pI (pI (pJ (pI (pI (pI σ 7 n kd) 8 n a) 9 n b) 10 n v) 11 n d) 12 n 0) 6 0 (nI (n + 1)) = addF σ n kd a b d v := by
  refine Prod.ext (funext fun k => funext fun i => ?_) (funext fun k => funext fun i => ?_)
  · rw [addF_1]
    show (if k = 6 ∧ i = 0 then nI (n + 1) else if k = 12 ∧ i = n then 0 else if k = 11 ∧ i = n then d else if k = 9 ∧ i = n then b else if k = 8 ∧ i = n then a else if k = 7 ∧ i = n then kd else σ.1 k i) = _
    grind
  · rw [addF_2]; rfl
set_option maxHeartbeats 600000 in
set_option maxRecDepth 100000 in
theorem mfilt_167 (l : Launch) (G : Gt) (M : Mt) (Z0 Z : Zt) (y : Nat) (σ e : St) (hM : MR Z y σ e) (hF : MF y Z0 Z) (nf : Nat) (h6 : σ.1 6 0 = nI nf) (hnf : nf ≤ 20) (kd a b : Int32) (v : Int64) (one two d : Int32) (P : Int32 → Zt → Prop) (hP : ∀ r Z1, MF y Z0 Z1 → (r = (keepF σ kd a b d v).1 ∧ ∃ e1, MR Z1 y (keepF σ kd a b d v).2 e1) → P r Z1) : Jd l G YX12_filter (1, 0, 0) M Z 0 0 (Qm G (1, 0, 0) M (ΦI P)) 167 [some (.ref y), some (.int kd), some (.int a), some (.int b), some (.long v), none, some (.int one), some (.int two), some (.int d)] [] := by
  first | refine q_aload_n dX12_filter_167 rfl ?_ | refine q_aload_nN dX12_filter_167 rfl ?_
  refine q_getf dX12_filter_168 fk_X12_103_11 hM.K (hM.i 6 (by decide) rfl rfl) ?_
  refine q_bipush (v := 20) dX12_filter_171 (by decide) ?_
  refine q_icmp_eq 183 dX12_filter_173 (by decide) (fun c173 => ?_) (fun c173 => ?_)
  · refine q_bipush (v := (-3)) dX12_filter_183 (by decide) ?_
    exact q_ireturn dX12_filter_185 rfl (by decide) (by decide) (hP _ _ hF (by unfold keepF; rw [if_pos (Or.inl (by rw [c173]; decide))]; exact ⟨rfl, _, hM⟩))
  · refine q_iload dX12_filter_176 rfl ?_
    refine q_bipush (v := 6) dX12_filter_178 (by decide) ?_
    refine q_icmp_le 186 dX12_filter_180 (by decide) (fun c180 => ?_) (fun c180 => ?_)
    · have c173 := c173
      rw [h6] at c173
      have hlt := n20 hnf c173
      first | refine q_aload_n dX12_filter_186 rfl ?_ | refine q_aload_nN dX12_filter_186 rfl ?_
      refine q_getf dX12_filter_187 fk_X12_26_11 hM.K (hM.a 7 (by decide) (by decide)) ?_
      first | refine q_aload_n dX12_filter_190 rfl ?_ | refine q_aload_nN dX12_filter_190 rfl ?_
      refine q_getf dX12_filter_191 fk_X12_103_11 hM.K (hM.i 6 (by decide) rfl rfl) ?_
      refine q_iload_n dX12_filter_194 rfl ?_
      refine m_iast 7 (nf) hM dX12_filter_195 (by decide) rfl rfl h6 (show nf < 20 by omega) (fun Z hM hF1 => ?_)
      replace hF := hF.tr hF1
      first | refine q_aload_n dX12_filter_196 rfl ?_ | refine q_aload_nN dX12_filter_196 rfl ?_
      refine q_getf dX12_filter_197 fk_X12_29_11 hM.K (hM.a 8 (by decide) (by decide)) ?_
      first | refine q_aload_n dX12_filter_200 rfl ?_ | refine q_aload_nN dX12_filter_200 rfl ?_
      refine q_getf dX12_filter_201 fk_X12_103_11 hM.K (hM.i 6 (by decide) rfl rfl) ?_
      refine q_iload_n dX12_filter_204 rfl ?_
      refine m_iast 8 (nf) hM dX12_filter_205 (by decide) rfl rfl (by rw [pI_ne (by decide)]; exact h6) (show nf < 20 by omega) (fun Z hM hF1 => ?_)
      replace hF := hF.tr hF1
      first | refine q_aload_n dX12_filter_206 rfl ?_ | refine q_aload_nN dX12_filter_206 rfl ?_
      refine q_getf dX12_filter_207 fk_X12_32_11 hM.K (hM.a 9 (by decide) (by decide)) ?_
      first | refine q_aload_n dX12_filter_210 rfl ?_ | refine q_aload_nN dX12_filter_210 rfl ?_
      refine q_getf dX12_filter_211 fk_X12_103_11 hM.K (hM.i 6 (by decide) rfl rfl) ?_
      refine q_iload_n dX12_filter_214 rfl ?_
      refine m_iast 9 (nf) hM dX12_filter_215 (by decide) rfl rfl (by rw [pI_ne (by decide), pI_ne (by decide)]; exact h6) (show nf < 20 by omega) (fun Z hM hF1 => ?_)
      replace hF := hF.tr hF1
      first | refine q_aload_n dX12_filter_216 rfl ?_ | refine q_aload_nN dX12_filter_216 rfl ?_
      refine q_getf dX12_filter_217 fk_X12_35_11 hM.K (hM.a 10 (by decide) (by decide)) ?_
      first | refine q_aload_n dX12_filter_220 rfl ?_ | refine q_aload_nN dX12_filter_220 rfl ?_
      refine q_getf dX12_filter_221 fk_X12_103_11 hM.K (hM.i 6 (by decide) rfl rfl) ?_
      refine q_lload dX12_filter_224 rfl ?_
      refine m_last 10 (nf) hM dX12_filter_226 (by decide) rfl rfl (by rw [pI_ne (by decide), pI_ne (by decide), pI_ne (by decide)]; exact h6) (show nf < 20 by omega) (fun Z hM hF1 => ?_)
      replace hF := hF.tr hF1
      first | refine q_aload_n dX12_filter_227 rfl ?_ | refine q_aload_nN dX12_filter_227 rfl ?_
      refine q_getf dX12_filter_228 fk_X12_38_11 hM.K (hM.a 11 (by decide) (by decide)) ?_
      first | refine q_aload_n dX12_filter_231 rfl ?_ | refine q_aload_nN dX12_filter_231 rfl ?_
      refine q_getf dX12_filter_232 fk_X12_103_11 hM.K (hM.i 6 (by decide) rfl rfl) ?_
      refine q_iload dX12_filter_235 rfl ?_
      refine m_iast 11 (nf) hM dX12_filter_237 (by decide) rfl rfl (by rw [pJ_1, pI_ne (by decide), pI_ne (by decide), pI_ne (by decide)]; exact h6) (show nf < 20 by omega) (fun Z hM hF1 => ?_)
      replace hF := hF.tr hF1
      first | refine q_aload_n dX12_filter_238 rfl ?_ | refine q_aload_nN dX12_filter_238 rfl ?_
      refine q_getf dX12_filter_239 fk_X12_41_11 hM.K (hM.a 12 (by decide) (by decide)) ?_
      first | refine q_aload_n dX12_filter_242 rfl ?_ | refine q_aload_nN dX12_filter_242 rfl ?_
      refine q_getf dX12_filter_243 fk_X12_103_11 hM.K (hM.i 6 (by decide) rfl rfl) ?_
      refine q_iconst (v := 0) dX12_filter_246 (by decide) ?_
      refine m_iast 12 (nf) hM dX12_filter_247 (by decide) rfl rfl (by rw [pI_ne (by decide), pJ_1, pI_ne (by decide), pI_ne (by decide), pI_ne (by decide)]; exact h6) (show nf < 20 by omega) (fun Z hM hF1 => ?_)
      replace hF := hF.tr hF1
      first | refine q_aload_n dX12_filter_248 rfl ?_ | refine q_aload_nN dX12_filter_248 rfl ?_
      refine q_dup dX12_filter_249 rfl ?_
      refine q_getf dX12_filter_250 fk_X12_103_11 hM.K (hM.i 6 (by decide) rfl rfl) ?_
      refine q_iconst (v := 1) dX12_filter_253 (by decide) ?_
      refine q_iadd dX12_filter_254 ?_
      refine m_puti 6 hM dX12_filter_255 fk_X12_103_11 rfl (by decide) rfl rfl rfl rfl (fun Z hM hF1 => ?_)
      replace hF := hF.tr hF1
      rw [pI_ne (by decide), pI_ne (by decide), pJ_1, pI_ne (by decide), pI_ne (by decide), pI_ne (by decide), h6, nI_1] at hM
      first | refine q_aload_n dX12_filter_258 rfl ?_ | refine q_aload_nN dX12_filter_258 rfl ?_
      refine q_getf dX12_filter_259 fk_X12_103_11 hM.K (hM.i 6 (by decide) rfl rfl) ?_
      refine q_iconst (v := 1) dX12_filter_262 (by decide) ?_
      refine q_isub dX12_filter_263 ?_
      rw [pI_at, nI_pred]
      rw [addF_p] at hM
      exact q_ireturn dX12_filter_264 rfl (by decide) (by decide) (hP _ _ hF (by unfold keepF; rw [if_neg (fun z => z.elim (by rw [h6]; exact n20' hlt) (fun y => y c180)), h6, nI_clamp (by omega)]; exact ⟨rfl, _, hM⟩))
    · refine q_bipush (v := (-3)) dX12_filter_183 (by decide) ?_
      exact q_ireturn dX12_filter_185 rfl (by decide) (by decide) (hP _ _ hF (by unfold keepF; rw [if_pos (Or.inr c180)]; exact ⟨rfl, _, hM⟩))
set_option maxHeartbeats 600000 in
set_option maxRecDepth 100000 in
theorem mfilt_00 (l : Launch) (G : Gt) (M : Mt) (Z0 Z : Zt) (y : Nat) (σ e : St) (hM : MR Z y σ e) (hF : MF y Z0 Z) (nf : Nat) (h6 : σ.1 6 0 = nI nf) (hnf : nf ≤ 20) (kd a b : Int32) (v : Int64) (P : Int32 → Zt → Prop) (hP : ∀ r Z1, MF y Z0 Z1 → (r = (keepF σ kd a b 1 v).1 ∧ ∃ e1, MR Z1 y (keepF σ kd a b 1 v).2 e1) → P r Z1) : Jd l G YX12_filter (1, 0, 0) M Z 0 0 (Qm G (1, 0, 0) M (ΦI P)) 93 [some (.ref y), some (.int kd), some (.int a), some (.int b), some (.long v), none, some (.int 0), some (.int 0), none] [] := by
  refine q_iload dX12_filter_93 rfl ?_
  refine q_if_eq 106 dX12_filter_95 (by decide) (fun c95 => ?_) (fun c95 => absurd c95 (not_not_intro rfl))
  refine q_iload dX12_filter_106 rfl ?_
  refine q_if_eq 121 dX12_filter_108 (by decide) (fun c108 => ?_) (fun c108 => absurd c108 (not_not_intro rfl))
  refine q_iconst (v := 1) dX12_filter_121 (by decide) ?_
  refine q_istore (ls' := [_, _, _, _, _, _, _, _, _]) dX12_filter_122 rfl rfl (Nat.le_of_ble_eq_true rfl) (by decide) ?_
  refine q_iload dX12_filter_124 rfl ?_
  refine q_if_eq 139 dX12_filter_126 (by decide) (fun c126 => ?_) (fun c126 => absurd c126 (not_not_intro rfl))
  refine q_iload dX12_filter_139 rfl ?_
  refine q_if_eq 167 dX12_filter_141 (by decide) (fun c141 => ?_) (fun c141 => absurd c141 (not_not_intro rfl))
  exact mfilt_167 l G M Z0 Z y σ _ hM hF nf h6 hnf kd a b v 0 0 1 P hP
set_option maxHeartbeats 600000 in
set_option maxRecDepth 100000 in
theorem mfilt_10 (l : Launch) (G : Gt) (M : Mt) (Z0 Z : Zt) (y : Nat) (σ e : St) (hM : MR Z y σ e) (hF : MF y Z0 Z) (nf : Nat) (h6 : σ.1 6 0 = nI nf) (hnf : nf ≤ 20) (kd a b : Int32) (v : Int64) (hk : ¬ (8 ≤ kd ∧ kd ≤ 10)) (P : Int32 → Zt → Prop) (hP : ∀ r Z1, MF y Z0 Z1 → (r = (madeS σ kd a b v).1 ∧ ∃ e1, MR Z1 y (madeS σ kd a b v).2 e1) → P r Z1) : Jd l G YX12_filter (1, 0, 0) M Z 0 0 (Qm G (1, 0, 0) M (ΦI P)) 93 [some (.ref y), some (.int kd), some (.int a), some (.int b), some (.long v), none, some (.int 1), some (.int 0), none] [] := by
  refine q_iload dX12_filter_93 rfl ?_
  refine q_if_eq 106 dX12_filter_95 (by decide) (fun c95 => absurd c95 (by decide)) (fun c95 => ?_)
  first | refine q_aload_n dX12_filter_98 rfl ?_ | refine q_aload_nN dX12_filter_98 rfl ?_
  refine q_iload_n dX12_filter_99 rfl ?_
  refine q_callV 11 dX12_filter_100 mk_X12_106 rfl hM.K (mc_isFilter l G Z y _ _ hM a) rfl np_X12_isFilter (by decide) (by decide) (by decide) (Nat.le_of_ble_eq_true rfl) (kI (fun rh100x Zh100x hh100x => ?_))
  obtain ⟨eh100x, hh100x⟩ := hh100x
  rw [eh100x]
  refine q_if_eq 119 dX12_filter_103 (by decide) (fun c103 => ?_) (fun c103 => ?_)
  · refine q_iconst (v := (-1)) dX12_filter_119 (by decide) ?_
    exact q_ireturn dX12_filter_120 rfl (by decide) (by decide) (hP _ _ hF (by unfold madeS; rw [if_pos (Or.inl (Classical.byContradiction fun z => rb_f hh100x c103 ⟨fun w => z (Or.inl w), Classical.byContradiction fun w => z (Or.inr w)⟩))]; exact ⟨rfl, _, hM⟩))
  · obtain ⟨q1, q2⟩ := rb_t hh100x c103
    rw [h6] at q2
    obtain ⟨p, hp, rfl⟩ := ix_of (by omega) q1 q2
    refine q_iload dX12_filter_106 rfl ?_
    refine q_if_eq 121 dX12_filter_108 (by decide) (fun c108 => ?_) (fun c108 => absurd c108 (not_not_intro rfl))
    refine q_iconst (v := 1) dX12_filter_121 (by decide) ?_
    refine q_istore (ls' := [_, _, _, _, _, _, _, _, _]) dX12_filter_122 rfl rfl (Nat.le_of_ble_eq_true rfl) (by decide) ?_
    refine q_iload dX12_filter_124 rfl ?_
    refine q_if_eq 139 dX12_filter_126 (by decide) (fun c126 => absurd c126 (by decide)) (fun c126 => ?_)
    first | refine q_aload_n dX12_filter_129 rfl ?_ | refine q_aload_nN dX12_filter_129 rfl ?_
    refine q_getf dX12_filter_130 fk_X12_38_11 hM.K (hM.a 11 (by decide) (by decide)) ?_
    refine q_iload_n dX12_filter_133 rfl ?_
    refine m_iald 11 (p) hM dX12_filter_134 (by decide) rfl rfl rfl (show p < 20 by omega) ?_
    refine q_iconst (v := 1) dX12_filter_135 (by decide) ?_
    refine q_iadd dX12_filter_136 ?_
    refine q_istore (ls' := [_, _, _, _, _, _, _, _, _]) dX12_filter_137 rfl rfl (Nat.le_of_ble_eq_true rfl) (by decide) ?_
    refine q_iload dX12_filter_139 rfl ?_
    refine q_if_eq 167 dX12_filter_141 (by decide) (fun c141 => ?_) (fun c141 => absurd c141 (not_not_intro rfl))
    exact mfilt_167 l G M Z0 Z y σ _ hM hF nf h6 hnf kd (nI p) b v 1 0 _ P (fun r Z1 f m => hP r Z1 f (by unfold madeS mdD; rw [h6, if_neg (fun z => z.elim (fun y => y.elim q1 (fun y => y q2)) (fun y => hk y.1)), if_neg (fun z => hk z.1), nI_clamp (by omega)]; exact m))
set_option maxHeartbeats 600000 in
set_option maxRecDepth 100000 in
theorem mfilt_11 (l : Launch) (G : Gt) (M : Mt) (Z0 Z : Zt) (y : Nat) (σ e : St) (hM : MR Z y σ e) (hF : MF y Z0 Z) (nf : Nat) (h6 : σ.1 6 0 = nI nf) (hnf : nf ≤ 20) (kd a b : Int32) (v : Int64) (hk : 8 ≤ kd ∧ kd ≤ 10) (P : Int32 → Zt → Prop) (hP : ∀ r Z1, MF y Z0 Z1 → (r = (madeS σ kd a b v).1 ∧ ∃ e1, MR Z1 y (madeS σ kd a b v).2 e1) → P r Z1) : Jd l G YX12_filter (1, 0, 0) M Z 0 0 (Qm G (1, 0, 0) M (ΦI P)) 93 [some (.ref y), some (.int kd), some (.int a), some (.int b), some (.long v), none, some (.int 1), some (.int 1), none] [] := by
  refine q_iload dX12_filter_93 rfl ?_
  refine q_if_eq 106 dX12_filter_95 (by decide) (fun c95 => absurd c95 (by decide)) (fun c95 => ?_)
  first | refine q_aload_n dX12_filter_98 rfl ?_ | refine q_aload_nN dX12_filter_98 rfl ?_
  refine q_iload_n dX12_filter_99 rfl ?_
  refine q_callV 11 dX12_filter_100 mk_X12_106 rfl hM.K (mc_isFilter l G Z y _ _ hM a) rfl np_X12_isFilter (by decide) (by decide) (by decide) (Nat.le_of_ble_eq_true rfl) (kI (fun rh100x Zh100x hh100x => ?_))
  obtain ⟨eh100x, hh100x⟩ := hh100x
  rw [eh100x]
  refine q_if_eq 119 dX12_filter_103 (by decide) (fun c103 => ?_) (fun c103 => ?_)
  · refine q_iconst (v := (-1)) dX12_filter_119 (by decide) ?_
    exact q_ireturn dX12_filter_120 rfl (by decide) (by decide) (hP _ _ hF (by unfold madeS; rw [if_pos (Or.inl (Classical.byContradiction fun z => rb_f hh100x c103 ⟨fun w => z (Or.inl w), Classical.byContradiction fun w => z (Or.inr w)⟩))]; exact ⟨rfl, _, hM⟩))
  · refine q_iload dX12_filter_106 rfl ?_
    refine q_if_eq 121 dX12_filter_108 (by decide) (fun c108 => absurd c108 (by decide)) (fun c108 => ?_)
    first | refine q_aload_n dX12_filter_111 rfl ?_ | refine q_aload_nN dX12_filter_111 rfl ?_
    refine q_iload_n dX12_filter_112 rfl ?_
    refine q_callV 11 dX12_filter_113 mk_X12_106 rfl hM.K (mc_isFilter l G Z y _ _ hM b) rfl np_X12_isFilter (by decide) (by decide) (by decide) (Nat.le_of_ble_eq_true rfl) (kI (fun rh113x Zh113x hh113x => ?_))
    obtain ⟨eh113x, hh113x⟩ := hh113x
    rw [eh113x]
    refine q_if_ne 121 dX12_filter_116 (by decide) (fun c116 => ?_) (fun c116 => ?_)
    · obtain ⟨q1, q2⟩ := rb_t hh100x c103
      rw [h6] at q2
      obtain ⟨p, hp, rfl⟩ := ix_of (by omega) q1 q2
      obtain ⟨r1, r2⟩ := rb_t hh113x c116
      rw [h6] at r2
      obtain ⟨q, hq, rfl⟩ := ix_of (by omega) r1 r2
      refine q_iconst (v := 1) dX12_filter_121 (by decide) ?_
      refine q_istore (ls' := [_, _, _, _, _, _, _, _, _]) dX12_filter_122 rfl rfl (Nat.le_of_ble_eq_true rfl) (by decide) ?_
      refine q_iload dX12_filter_124 rfl ?_
      refine q_if_eq 139 dX12_filter_126 (by decide) (fun c126 => absurd c126 (by decide)) (fun c126 => ?_)
      first | refine q_aload_n dX12_filter_129 rfl ?_ | refine q_aload_nN dX12_filter_129 rfl ?_
      refine q_getf dX12_filter_130 fk_X12_38_11 hM.K (hM.a 11 (by decide) (by decide)) ?_
      refine q_iload_n dX12_filter_133 rfl ?_
      refine m_iald 11 (p) hM dX12_filter_134 (by decide) rfl rfl rfl (show p < 20 by omega) ?_
      refine q_iconst (v := 1) dX12_filter_135 (by decide) ?_
      refine q_iadd dX12_filter_136 ?_
      refine q_istore (ls' := [_, _, _, _, _, _, _, _, _]) dX12_filter_137 rfl rfl (Nat.le_of_ble_eq_true rfl) (by decide) ?_
      refine q_iload dX12_filter_139 rfl ?_
      refine q_if_eq 167 dX12_filter_141 (by decide) (fun c141 => absurd c141 (by decide)) (fun c141 => ?_)
      first | refine q_aload_n dX12_filter_144 rfl ?_ | refine q_aload_nN dX12_filter_144 rfl ?_
      refine q_getf dX12_filter_145 fk_X12_38_11 hM.K (hM.a 11 (by decide) (by decide)) ?_
      refine q_iload_n dX12_filter_148 rfl ?_
      refine m_iald 11 (q) hM dX12_filter_149 (by decide) rfl rfl rfl (show q < 20 by omega) ?_
      refine q_iconst (v := 1) dX12_filter_150 (by decide) ?_
      refine q_iadd dX12_filter_151 ?_
      refine q_iload dX12_filter_152 rfl ?_
      refine q_icmp_le 167 dX12_filter_154 (by decide) (fun c154 => ?_) (fun c154 => ?_)
      · exact mfilt_167 l G M Z0 Z y σ _ hM hF nf h6 hnf kd (nI p) (nI q) v 1 1 _ P (fun r Z1 f m => hP r Z1 f (by unfold madeS mdD; rw [h6, if_neg (fun z => z.elim (fun y => y.elim q1 (fun y => y q2)) (fun y => y.2.elim r1 (fun y => y r2))), nI_clamp (by omega), nI_clamp (by omega), if_neg (fun z => absurd z.2 (Int32.not_lt.mpr c154))]; exact m))
      · first | refine q_aload_n dX12_filter_157 rfl ?_ | refine q_aload_nN dX12_filter_157 rfl ?_
        refine q_getf dX12_filter_158 fk_X12_38_11 hM.K (hM.a 11 (by decide) (by decide)) ?_
        refine q_iload_n dX12_filter_161 rfl ?_
        refine m_iald 11 (q) hM dX12_filter_162 (by decide) rfl rfl rfl (show q < 20 by omega) ?_
        refine q_iconst (v := 1) dX12_filter_163 (by decide) ?_
        refine q_iadd dX12_filter_164 ?_
        refine q_istore (ls' := [_, _, _, _, _, _, _, _, _]) dX12_filter_165 rfl rfl (Nat.le_of_ble_eq_true rfl) (by decide) ?_
        exact mfilt_167 l G M Z0 Z y σ _ hM hF nf h6 hnf kd (nI p) (nI q) v 1 1 _ P (fun r Z1 f m => hP r Z1 f (by unfold madeS mdD; rw [h6, if_neg (fun z => z.elim (fun y => y.elim q1 (fun y => y q2)) (fun y => y.2.elim r1 (fun y => y r2))), nI_clamp (by omega), nI_clamp (by omega), if_pos ⟨hk, Int32.not_le.mp c154⟩]; exact m))
    · refine q_iconst (v := (-1)) dX12_filter_119 (by decide) ?_
      exact q_ireturn dX12_filter_120 rfl (by decide) (by decide) (hP _ _ hF (by unfold madeS; rw [if_pos (Or.inr ⟨hk, (Classical.byContradiction fun z => rb_f hh113x c116 ⟨fun w => z (Or.inl w), Classical.byContradiction fun w => z (Or.inr w)⟩)⟩)]; exact ⟨rfl, _, hM⟩))
set_option maxHeartbeats 600000 in
set_option maxRecDepth 100000 in
theorem mfilt_55 (l : Launch) (G : Gt) (M : Mt) (Z0 Z : Zt) (y : Nat) (σ e : St) (hM : MR Z y σ e) (hF : MF y Z0 Z) (nf : Nat) (h6 : σ.1 6 0 = nI nf) (hnf : nf ≤ 20) (kd a b : Int32) (v : Int64) (P : Int32 → Zt → Prop) (hP : ∀ r Z1, MF y Z0 Z1 → (r = (if 7 ≤ kd ∧ kd ≤ 11 then madeS σ kd a b v else keepF σ kd a b 1 v).1 ∧ ∃ e1, MR Z1 y (if 7 ≤ kd ∧ kd ≤ 11 then madeS σ kd a b v else keepF σ kd a b 1 v).2 e1) → P r Z1) : Jd l G YX12_filter (1, 0, 0) M Z 0 0 (Qm G (1, 0, 0) M (ΦI P)) 55 [some (.ref y), some (.int kd), some (.int a), some (.int b), some (.long v), none, none, none, none] [] := by
  refine q_iload_n dX12_filter_55 rfl ?_
  refine q_bipush (v := 7) dX12_filter_56 (by decide) ?_
  refine q_icmp_lt 71 dX12_filter_58 (by decide) (fun c58 => ?_) (fun c58 => ?_)
  · refine q_iconst (v := 0) dX12_filter_71 (by decide) ?_
    refine q_istore (ls' := [_, _, _, _, _, _, _, _, _]) dX12_filter_72 rfl rfl (Nat.le_of_ble_eq_true rfl) (by decide) ?_
    refine q_iload_n dX12_filter_74 rfl ?_
    refine q_bipush (v := 8) dX12_filter_75 (by decide) ?_
    refine q_icmp_lt 90 dX12_filter_77 (by decide) (fun c77 => ?_) (fun c77 => ?_)
    · refine q_iconst (v := 0) dX12_filter_90 (by decide) ?_
      refine q_istore (ls' := [_, _, _, _, _, _, _, _, _]) dX12_filter_91 rfl rfl (Nat.le_of_ble_eq_true rfl) (by decide) ?_
      exact mfilt_00 l G M Z0 Z y σ _ hM hF nf h6 hnf kd a b v P (fun r Z1 f m => hP r Z1 f (by rw [if_neg (fun z => absurd z.1 (Int32.not_le.mpr c58))]; exact m))
    · refine q_iload_n dX12_filter_80 rfl ?_
      refine q_bipush (v := 10) dX12_filter_81 (by decide) ?_
      refine q_icmp_gt 90 dX12_filter_83 (by decide) (fun c83 => ?_) (fun c83 => ?_)
      · refine q_iconst (v := 0) dX12_filter_90 (by decide) ?_
        refine q_istore (ls' := [_, _, _, _, _, _, _, _, _]) dX12_filter_91 rfl rfl (Nat.le_of_ble_eq_true rfl) (by decide) ?_
        exact mfilt_00 l G M Z0 Z y σ _ hM hF nf h6 hnf kd a b v P (fun r Z1 f m => hP r Z1 f (by rw [if_neg (fun z => absurd z.1 (Int32.not_le.mpr c58))]; exact m))
      · refine q_iconst (v := 1) dX12_filter_86 (by decide) ?_
        refine q_goto 91 dX12_filter_87 (by decide) ?_
        refine q_istore (ls' := [_, _, _, _, _, _, _, _, _]) dX12_filter_91 rfl rfl (Nat.le_of_ble_eq_true rfl) (by decide) ?_
        exact absurd (Int32.lt_trans c58 (by decide)) c77
  · refine q_iload_n dX12_filter_61 rfl ?_
    refine q_bipush (v := 11) dX12_filter_62 (by decide) ?_
    refine q_icmp_gt 71 dX12_filter_64 (by decide) (fun c64 => ?_) (fun c64 => ?_)
    · refine q_iconst (v := 0) dX12_filter_71 (by decide) ?_
      refine q_istore (ls' := [_, _, _, _, _, _, _, _, _]) dX12_filter_72 rfl rfl (Nat.le_of_ble_eq_true rfl) (by decide) ?_
      refine q_iload_n dX12_filter_74 rfl ?_
      refine q_bipush (v := 8) dX12_filter_75 (by decide) ?_
      refine q_icmp_lt 90 dX12_filter_77 (by decide) (fun c77 => ?_) (fun c77 => ?_)
      · refine q_iconst (v := 0) dX12_filter_90 (by decide) ?_
        refine q_istore (ls' := [_, _, _, _, _, _, _, _, _]) dX12_filter_91 rfl rfl (Nat.le_of_ble_eq_true rfl) (by decide) ?_
        exact mfilt_00 l G M Z0 Z y σ _ hM hF nf h6 hnf kd a b v P (fun r Z1 f m => hP r Z1 f (by rw [if_neg (fun z => absurd z.2 (Int32.not_le.mpr c64))]; exact m))
      · refine q_iload_n dX12_filter_80 rfl ?_
        refine q_bipush (v := 10) dX12_filter_81 (by decide) ?_
        refine q_icmp_gt 90 dX12_filter_83 (by decide) (fun c83 => ?_) (fun c83 => ?_)
        · refine q_iconst (v := 0) dX12_filter_90 (by decide) ?_
          refine q_istore (ls' := [_, _, _, _, _, _, _, _, _]) dX12_filter_91 rfl rfl (Nat.le_of_ble_eq_true rfl) (by decide) ?_
          exact mfilt_00 l G M Z0 Z y σ _ hM hF nf h6 hnf kd a b v P (fun r Z1 f m => hP r Z1 f (by rw [if_neg (fun z => absurd z.2 (Int32.not_le.mpr c64))]; exact m))
        · refine q_iconst (v := 1) dX12_filter_86 (by decide) ?_
          refine q_goto 91 dX12_filter_87 (by decide) ?_
          refine q_istore (ls' := [_, _, _, _, _, _, _, _, _]) dX12_filter_91 rfl rfl (Nat.le_of_ble_eq_true rfl) (by decide) ?_
          exact absurd (Int32.lt_trans (by decide) c64) c83
    · refine q_iconst (v := 1) dX12_filter_67 (by decide) ?_
      refine q_goto 72 dX12_filter_68 (by decide) ?_
      refine q_istore (ls' := [_, _, _, _, _, _, _, _, _]) dX12_filter_72 rfl rfl (Nat.le_of_ble_eq_true rfl) (by decide) ?_
      refine q_iload_n dX12_filter_74 rfl ?_
      refine q_bipush (v := 8) dX12_filter_75 (by decide) ?_
      refine q_icmp_lt 90 dX12_filter_77 (by decide) (fun c77 => ?_) (fun c77 => ?_)
      · refine q_iconst (v := 0) dX12_filter_90 (by decide) ?_
        refine q_istore (ls' := [_, _, _, _, _, _, _, _, _]) dX12_filter_91 rfl rfl (Nat.le_of_ble_eq_true rfl) (by decide) ?_
        exact mfilt_10 l G M Z0 Z y σ _ hM hF nf h6 hnf kd a b v (fun z => absurd z.1 (Int32.not_le.mpr c77)) P (fun r Z1 f m => hP r Z1 f (by rw [if_pos ⟨Int32.not_lt.mp c58, Int32.not_lt.mp c64⟩]; exact m))
      · refine q_iload_n dX12_filter_80 rfl ?_
        refine q_bipush (v := 10) dX12_filter_81 (by decide) ?_
        refine q_icmp_gt 90 dX12_filter_83 (by decide) (fun c83 => ?_) (fun c83 => ?_)
        · refine q_iconst (v := 0) dX12_filter_90 (by decide) ?_
          refine q_istore (ls' := [_, _, _, _, _, _, _, _, _]) dX12_filter_91 rfl rfl (Nat.le_of_ble_eq_true rfl) (by decide) ?_
          exact mfilt_10 l G M Z0 Z y σ _ hM hF nf h6 hnf kd a b v (fun z => absurd z.2 (Int32.not_le.mpr c83)) P (fun r Z1 f m => hP r Z1 f (by rw [if_pos ⟨Int32.not_lt.mp c58, Int32.not_lt.mp c64⟩]; exact m))
        · refine q_iconst (v := 1) dX12_filter_86 (by decide) ?_
          refine q_goto 91 dX12_filter_87 (by decide) ?_
          refine q_istore (ls' := [_, _, _, _, _, _, _, _, _]) dX12_filter_91 rfl rfl (Nat.le_of_ble_eq_true rfl) (by decide) ?_
          exact mfilt_11 l G M Z0 Z y σ _ hM hF nf h6 hnf kd a b v ⟨Int32.not_lt.mp c77, Int32.not_lt.mp c83⟩ P (fun r Z1 f m => hP r Z1 f (by rw [if_pos ⟨Int32.not_lt.mp c58, Int32.not_lt.mp c64⟩]; exact m))
set_option maxHeartbeats 600000 in
set_option maxRecDepth 100000 in
theorem mc_filter (l : Launch) (G : Gt) (Z0 : Zt) (y : Nat) (σ e : St) (hM : MR Z0 y σ e) (nf : Nat) (h6 : σ.1 6 0 = nI nf) (hnf : nf ≤ 20) (kd a b : Int32) (v : Int64)  : Ct l G YX12_filter (1, 0, 0) Z0 [.ref y, .int kd, .int a, .int b, .long v] (ΦI (fun r Z1 => r = (filtS σ kd a b v).1 ∧ MF y Z0 Z1 ∧ ∃ e1, MR Z1 y (filtS σ kd a b v).2 e1)) := by
  refine ct_of [some (.ref y), some (.int kd), some (.int a), some (.int b), some (.long v), none, none, none, none] (by decide +kernel) (Nat.le_of_ble_eq_true rfl) rfl (fun M => ?_)
  have hF := MF.rf y Z0
  first | refine q_aload_n dX12_filter_0 rfl ?_ | refine q_aload_nN dX12_filter_0 rfl ?_
  refine q_iconst (v := 0) dX12_filter_1 (by decide) ?_
  refine m_putx 0 hM dX12_filter_2 fk_X12_99_11 rfl (by decide) rfl rfl rfl rfl (fun Z hM hF1 => ?_)
  replace hF := hF.tr hF1
  refine q_iload_n dX12_filter_5 rfl ?_
  refine q_if_lt 15 dX12_filter_6 (by decide) (fun c6 => ?_) (fun c6 => ?_)
  · refine q_bipush (v := (-2)) dX12_filter_15 (by decide) ?_
    exact q_ireturn dX12_filter_17 rfl (by decide) (by decide) (by unfold filtS; rw [if_pos (Or.inl c6)]; exact ⟨rfl, hF, _, hM⟩)
  · refine q_iload_n dX12_filter_9 rfl ?_
    refine q_bipush (v := 12) dX12_filter_10 (by decide) ?_
    refine q_icmp_le 18 dX12_filter_12 (by decide) (fun c12 => ?_) (fun c12 => ?_)
    · refine q_iload_n dX12_filter_18 rfl ?_
      refine q_iconst (v := 3) dX12_filter_19 (by decide) ?_
      refine q_icmp_eq 29 dX12_filter_20 (by decide) (fun c20 => ?_) (fun c20 => ?_)
      · refine q_iload_n dX12_filter_29 rfl ?_
        refine q_if_lt 52 dX12_filter_30 (by decide) (fun c30 => ?_) (fun c30 => ?_)
        · refine q_bipush (v := (-2)) dX12_filter_52 (by decide) ?_
          exact q_ireturn dX12_filter_54 rfl (by decide) (by decide) (by unfold filtS; rw [if_neg (fun z => z.elim c6 (fun y => y c12)), if_neg (by rw [c20]; decide), if_pos (Or.inl c20), if_pos (Or.inl c30)]; exact ⟨rfl, hF, _, hM⟩)
        · refine q_iload_n dX12_filter_33 rfl ?_
          refine q_iconst (v := 5) dX12_filter_34 (by decide) ?_
          refine q_icmp_gt 52 dX12_filter_35 (by decide) (fun c35 => ?_) (fun c35 => ?_)
          · refine q_bipush (v := (-2)) dX12_filter_52 (by decide) ?_
            exact q_ireturn dX12_filter_54 rfl (by decide) (by decide) (by unfold filtS; rw [if_neg (fun z => z.elim c6 (fun y => y c12)), if_neg (by rw [c20]; decide), if_pos (Or.inl c20), if_pos (Or.inr (fun z => i_gap (by decide) c35 z))]; exact ⟨rfl, hF, _, hM⟩)
          · refine q_iload_n dX12_filter_38 rfl ?_
            refine q_iconst (v := 5) dX12_filter_39 (by decide) ?_
            refine q_icmp_ne 55 dX12_filter_40 (by decide) (fun c40 => ?_) (fun c40 => ?_)
            · refine mfilt_55 l G M Z0 Z y σ _ hM hF nf h6 hnf kd a b v _ (fun r Z1 f m => ?_)
              have hE : filtS σ kd a b v = (if 7 ≤ kd ∧ kd ≤ 11 then madeS σ kd a b v else keepF σ kd a b 1 v) := by
                unfold filtS
                rw [if_neg (fun z => z.elim c6 (fun y => y c12)), if_neg (by rw [c20]; decide), if_pos (Or.inl c20), if_neg (fun z => z.elim c30 (fun y => y (i_le (by decide) (Int32.not_lt.mp c35)))), if_neg (by rw [c20]; decide)]
              rw [hE]
              exact ⟨m.1, f, m.2⟩
            · refine q_iload_n dX12_filter_43 rfl ?_
              refine q_if_lt 52 dX12_filter_44 (by decide) (fun c44 => ?_) (fun c44 => ?_)
              · refine q_bipush (v := (-2)) dX12_filter_52 (by decide) ?_
                exact q_ireturn dX12_filter_54 rfl (by decide) (by decide) (by unfold filtS; rw [if_neg (fun z => z.elim c6 (fun y => y c12)), if_neg (by rw [c40]; decide), if_neg (by rw [c40]; decide), if_pos c40, if_pos (Or.inl c44)]; exact ⟨rfl, hF, _, hM⟩)
              · refine q_iload_n dX12_filter_47 rfl ?_
                refine q_iconst (v := 2) dX12_filter_48 (by decide) ?_
                refine q_icmp_le 55 dX12_filter_49 (by decide) (fun c49 => ?_) (fun c49 => ?_)
                · refine mfilt_55 l G M Z0 Z y σ _ hM hF nf h6 hnf kd a b v _ (fun r Z1 f m => ?_)
                  have hE : filtS σ kd a b v = (if 7 ≤ kd ∧ kd ≤ 11 then madeS σ kd a b v else keepF σ kd a b 1 v) := by
                    unfold filtS
                    rw [if_neg (fun z => z.elim c6 (fun y => y c12)), if_neg (by rw [c40]; decide), if_neg (by rw [c40]; decide), if_pos c40, if_neg (fun z => z.elim c44 (fun y => y (i_le (by decide) c49))), if_neg (by rw [c40]; decide), c40]
                  rw [hE]
                  exact ⟨m.1, f, m.2⟩
                · refine q_bipush (v := (-2)) dX12_filter_52 (by decide) ?_
                  exact q_ireturn dX12_filter_54 rfl (by decide) (by decide) (by unfold filtS; rw [if_neg (fun z => z.elim c6 (fun y => y c12)), if_neg (by rw [c40]; decide), if_neg (by rw [c40]; decide), if_pos c40, if_pos (Or.inr (fun z => i_gap (by decide) (Int32.not_le.mp c49) z))]; exact ⟨rfl, hF, _, hM⟩)
      · refine q_iload_n dX12_filter_23 rfl ?_
        refine q_bipush (v := 12) dX12_filter_24 (by decide) ?_
        refine q_icmp_ne 38 dX12_filter_26 (by decide) (fun c26 => ?_) (fun c26 => ?_)
        · refine q_iload_n dX12_filter_38 rfl ?_
          refine q_iconst (v := 5) dX12_filter_39 (by decide) ?_
          refine q_icmp_ne 55 dX12_filter_40 (by decide) (fun c40 => ?_) (fun c40 => ?_)
          · refine mfilt_55 l G M Z0 Z y σ _ hM hF nf h6 hnf kd a b v _ (fun r Z1 f m => ?_)
            have hE : filtS σ kd a b v = (if 7 ≤ kd ∧ kd ≤ 11 then madeS σ kd a b v else keepF σ kd a b 1 v) := by
              unfold filtS
              rw [if_neg (fun z => z.elim c6 (fun y => y c12))]
              by_cases hm : 7 ≤ kd ∧ kd ≤ 11
              · rw [if_pos hm, if_pos hm]
              · rw [if_neg hm, if_neg hm, if_neg (fun z => z.elim c20 c26), if_neg c40]
            rw [hE]
            exact ⟨m.1, f, m.2⟩
          · refine q_iload_n dX12_filter_43 rfl ?_
            refine q_if_lt 52 dX12_filter_44 (by decide) (fun c44 => ?_) (fun c44 => ?_)
            · refine q_bipush (v := (-2)) dX12_filter_52 (by decide) ?_
              exact q_ireturn dX12_filter_54 rfl (by decide) (by decide) (by unfold filtS; rw [if_neg (fun z => z.elim c6 (fun y => y c12)), if_neg (by rw [c40]; decide), if_neg (by rw [c40]; decide), if_pos c40, if_pos (Or.inl c44)]; exact ⟨rfl, hF, _, hM⟩)
            · refine q_iload_n dX12_filter_47 rfl ?_
              refine q_iconst (v := 2) dX12_filter_48 (by decide) ?_
              refine q_icmp_le 55 dX12_filter_49 (by decide) (fun c49 => ?_) (fun c49 => ?_)
              · refine mfilt_55 l G M Z0 Z y σ _ hM hF nf h6 hnf kd a b v _ (fun r Z1 f m => ?_)
                have hE : filtS σ kd a b v = (if 7 ≤ kd ∧ kd ≤ 11 then madeS σ kd a b v else keepF σ kd a b 1 v) := by
                  unfold filtS
                  rw [if_neg (fun z => z.elim c6 (fun y => y c12)), if_neg (by rw [c40]; decide), if_neg (by rw [c40]; decide), if_pos c40, if_neg (fun z => z.elim c44 (fun y => y (i_le (by decide) c49))), if_neg (by rw [c40]; decide), c40]
                rw [hE]
                exact ⟨m.1, f, m.2⟩
              · refine q_bipush (v := (-2)) dX12_filter_52 (by decide) ?_
                exact q_ireturn dX12_filter_54 rfl (by decide) (by decide) (by unfold filtS; rw [if_neg (fun z => z.elim c6 (fun y => y c12)), if_neg (by rw [c40]; decide), if_neg (by rw [c40]; decide), if_pos c40, if_pos (Or.inr (fun z => i_gap (by decide) (Int32.not_le.mp c49) z))]; exact ⟨rfl, hF, _, hM⟩)
        · refine q_iload_n dX12_filter_29 rfl ?_
          refine q_if_lt 52 dX12_filter_30 (by decide) (fun c30 => ?_) (fun c30 => ?_)
          · refine q_bipush (v := (-2)) dX12_filter_52 (by decide) ?_
            exact q_ireturn dX12_filter_54 rfl (by decide) (by decide) (by unfold filtS; rw [if_neg (fun z => z.elim c6 (fun y => y c12)), if_neg (by rw [c26]; decide), if_pos (Or.inr c26), if_pos (Or.inl c30)]; exact ⟨rfl, hF, _, hM⟩)
          · refine q_iload_n dX12_filter_33 rfl ?_
            refine q_iconst (v := 5) dX12_filter_34 (by decide) ?_
            refine q_icmp_gt 52 dX12_filter_35 (by decide) (fun c35 => ?_) (fun c35 => ?_)
            · refine q_bipush (v := (-2)) dX12_filter_52 (by decide) ?_
              exact q_ireturn dX12_filter_54 rfl (by decide) (by decide) (by unfold filtS; rw [if_neg (fun z => z.elim c6 (fun y => y c12)), if_neg (by rw [c26]; decide), if_pos (Or.inr c26), if_pos (Or.inr (fun z => i_gap (by decide) c35 z))]; exact ⟨rfl, hF, _, hM⟩)
            · refine q_iload_n dX12_filter_38 rfl ?_
              refine q_iconst (v := 5) dX12_filter_39 (by decide) ?_
              refine q_icmp_ne 55 dX12_filter_40 (by decide) (fun c40 => ?_) (fun c40 => ?_)
              · refine mfilt_55 l G M Z0 Z y σ _ hM hF nf h6 hnf kd a b v _ (fun r Z1 f m => ?_)
                have hE : filtS σ kd a b v = (if 7 ≤ kd ∧ kd ≤ 11 then madeS σ kd a b v else keepF σ kd a b 1 v) := by
                  unfold filtS
                  rw [if_neg (fun z => z.elim c6 (fun y => y c12)), if_neg (by rw [c26]; decide), if_pos (Or.inr c26), if_neg (fun z => z.elim c30 (fun y => y (i_le (by decide) (Int32.not_lt.mp c35)))), if_neg (by rw [c26]; decide)]
                rw [hE]
                exact ⟨m.1, f, m.2⟩
              · refine q_iload_n dX12_filter_43 rfl ?_
                refine q_if_lt 52 dX12_filter_44 (by decide) (fun c44 => ?_) (fun c44 => ?_)
                · refine q_bipush (v := (-2)) dX12_filter_52 (by decide) ?_
                  exact q_ireturn dX12_filter_54 rfl (by decide) (by decide) (by unfold filtS; rw [if_neg (fun z => z.elim c6 (fun y => y c12)), if_neg (by rw [c40]; decide), if_neg (by rw [c40]; decide), if_pos c40, if_pos (Or.inl c44)]; exact ⟨rfl, hF, _, hM⟩)
                · refine q_iload_n dX12_filter_47 rfl ?_
                  refine q_iconst (v := 2) dX12_filter_48 (by decide) ?_
                  refine q_icmp_le 55 dX12_filter_49 (by decide) (fun c49 => ?_) (fun c49 => ?_)
                  · refine mfilt_55 l G M Z0 Z y σ _ hM hF nf h6 hnf kd a b v _ (fun r Z1 f m => ?_)
                    have hE : filtS σ kd a b v = (if 7 ≤ kd ∧ kd ≤ 11 then madeS σ kd a b v else keepF σ kd a b 1 v) := by
                      unfold filtS
                      rw [if_neg (fun z => z.elim c6 (fun y => y c12)), if_neg (by rw [c40]; decide), if_neg (by rw [c40]; decide), if_pos c40, if_neg (fun z => z.elim c44 (fun y => y (i_le (by decide) c49))), if_neg (by rw [c40]; decide), c40]
                    rw [hE]
                    exact ⟨m.1, f, m.2⟩
                  · refine q_bipush (v := (-2)) dX12_filter_52 (by decide) ?_
                    exact q_ireturn dX12_filter_54 rfl (by decide) (by decide) (by unfold filtS; rw [if_neg (fun z => z.elim c6 (fun y => y c12)), if_neg (by rw [c40]; decide), if_neg (by rw [c40]; decide), if_pos c40, if_pos (Or.inr (fun z => i_gap (by decide) (Int32.not_le.mp c49) z))]; exact ⟨rfl, hF, _, hM⟩)
    · refine q_bipush (v := (-2)) dX12_filter_15 (by decide) ?_
      exact q_ireturn dX12_filter_17 rfl (by decide) (by decide) (by unfold filtS; rw [if_pos (Or.inr c12)]; exact ⟨rfl, hF, _, hM⟩)
