theorem RW_take {e : St} {row n : Nat} {S : List Int64} (h : RW e row S) (hn : n ≤ S.length) : RW (pI e 30 row (nI n)) row (S.take n) := by
  refine ⟨by rw [pI_at, List.length_take, Nat.min_eq_left hn], fun i x hx => ?_⟩
  have hi : i < n := by
    have := (List.getElem?_eq_some_iff.mp hx).1
    rw [List.length_take] at this; omega
  rw [List.getElem?_take_of_lt hi] at hx
  exact h.2 i x hx
theorem RW_all {e : St} {row n : Nat} {S : List Int64} (h : RW e row S) (hn : S.length ≤ n) : RW (pI e 30 row (nI S.length)) row (S.take n) := by
  rw [List.take_of_length_le hn]
  exact ⟨pI_at _ _ _ _, h.2⟩
set_option maxHeartbeats 600000 in
set_option maxRecDepth 100000 in
theorem mn_out (l : Launch) (G : Gt) (M : Mt) (Z0 : Zt) (y : Nat) (σ e : St) (b row n : Nat) (hrow : row < 15) (hn : n ≤ 200) (v : Int64) (L : List Int64) (h1 : RW e (row + 1) L) (hl : L.length ≤ 200) (P : Zt → Prop) (hP : ∀ Z1 e1, MF y Z0 Z1 → MR Z1 y σ e1 → EX row e e1 → RW e1 row ((srtR v L).reverse.take n) → P Z1) : ∀ (m k : Nat) (Z : Zt) (e1 : St) (o7 o9 : Option Value), k + m = L.length → MR Z y σ e1 → MF y Z0 Z → EX row e e1 → RW e1 row (srtR v (L.take k)).reverse → Jd l G YX12_near (b + 2, 0, 0) M Z 0 0 (Qm G (b + 2, 0, 0) M (ΦV P)) 3 [some (.ref y), some (.int (nI row)), some (.int (nI (row + 1))), some (.long v), none, some (.int (nI n)), some (.int (nI k)), o7, none, o9] [] := by
  intro m
  induction m with
  | zero =>
    intro k Z e1 o7 o9 hk hM hF hX hR
    obtain rfl : k = L.length := by omega
    rw [List.take_length] at hR
    have hSl : (srtR v L).reverse.length ≤ 200 := by rw [List.length_reverse, srtR_len]; exact hl
    refine q_iload dX12_near_3 rfl ?_
    first | refine q_aload_n dX12_near_5 rfl ?_ | refine q_aload_nN dX12_near_5 rfl ?_
    refine q_getf dX12_near_6 fk_X12_84_11 hM.K (hM.a 30 (by decide) (by decide)) ?_
    refine q_iload_n dX12_near_9 rfl ?_
    refine m_ialdx 30 (row + 1) hM dX12_near_10 (by decide) rfl rfl rfl (show row + 1 < 16 by omega) ?_
    rw [(RW_ex h1 hX (by omega) (by omega)).1]
    refine q_icmp_ge 131 dX12_near_11 (by decide) (fun c11 => ?_) (fun c11 => absurd c11 (not_not_intro (Int32.le_refl _)))
    first | refine q_aload_n dX12_near_131 rfl ?_ | refine q_aload_nN dX12_near_131 rfl ?_
    refine q_getf dX12_near_132 fk_X12_84_11 hM.K (hM.a 30 (by decide) (by decide)) ?_
    refine q_iload_n dX12_near_135 rfl ?_
    first | refine q_aload_n dX12_near_136 rfl ?_ | refine q_aload_nN dX12_near_136 rfl ?_
    refine q_getf dX12_near_137 fk_X12_84_11 hM.K (hM.a 30 (by decide) (by decide)) ?_
    refine q_iload_n dX12_near_140 rfl ?_
    refine m_ialdx 30 (row) hM dX12_near_141 (by decide) rfl rfl rfl (show row < 16 by omega) ?_
    rw [hR.1]
    refine q_iload dX12_near_142 rfl ?_
    refine q_icmp_ge 156 dX12_near_144 (by decide) (fun c144 => ?_) (fun c144 => ?_)
    · have hlen := (nI_leI (by omega) (by omega)).mp c144
      refine q_iload dX12_near_156 rfl ?_
      refine m_iastx 30 (row) hM dX12_near_158 (by decide) rfl rfl rfl (show row < 16 by omega) (fun Z hM hF1 => ?_)
      replace hF := hF.tr hF1
      exact q_return dX12_near_159 rfl (Nat.le_refl _) (Nat.le_refl _) (hP _ _ hF hM (hX.tr EX_0) (RW_take hR hlen))
    · have hlen : ¬ n ≤ (srtR v L).reverse.length := fun z => c144 ((nI_leI (by omega) (by omega)).mpr z)
      first | refine q_aload_n dX12_near_147 rfl ?_ | refine q_aload_nN dX12_near_147 rfl ?_
      refine q_getf dX12_near_148 fk_X12_84_11 hM.K (hM.a 30 (by decide) (by decide)) ?_
      refine q_iload_n dX12_near_151 rfl ?_
      refine m_ialdx 30 (row) hM dX12_near_152 (by decide) rfl rfl rfl (show row < 16 by omega) ?_
      rw [hR.1]
      refine q_goto 158 dX12_near_153 (by decide) ?_
      refine m_iastx 30 (row) hM dX12_near_158 (by decide) rfl rfl rfl (show row < 16 by omega) (fun Z hM hF1 => ?_)
      replace hF := hF.tr hF1
      exact q_return dX12_near_159 rfl (Nat.le_refl _) (Nat.le_refl _) (hP _ _ hF hM (hX.tr EX_0) (RW_all hR (by omega)))
  | succ m ih =>
    intro k Z e1 o7 o9 hk hM hF hX hR
    have hSk : (srtR v (L.take k)).reverse.length = k := by rw [List.length_reverse, srtR_len, List.length_take]; omega
    refine q_iload dX12_near_3 rfl ?_
    first | refine q_aload_n dX12_near_5 rfl ?_ | refine q_aload_nN dX12_near_5 rfl ?_
    refine q_getf dX12_near_6 fk_X12_84_11 hM.K (hM.a 30 (by decide) (by decide)) ?_
    refine q_iload_n dX12_near_9 rfl ?_
    refine m_ialdx 30 (row + 1) hM dX12_near_10 (by decide) rfl rfl rfl (show row + 1 < 16 by omega) ?_
    rw [(RW_ex h1 hX (by omega) (by omega)).1]
    refine q_icmp_ge 131 dX12_near_11 (by decide) (fun c11 => absurd c11 (nI_ge (by omega) (by omega))) (fun c11 => ?_)
    first | refine q_aload_n dX12_near_14 rfl ?_ | refine q_aload_nN dX12_near_14 rfl ?_
    refine q_getf dX12_near_15 fk_X12_81_11 hM.K (hM.a 29 (by decide) (by decide)) ?_
    refine q_sipush (v := 201) dX12_near_18 (by decide) ?_
    refine q_iload_n dX12_near_21 rfl ?_
    refine q_imul dX12_near_22 ?_
    refine q_iload dX12_near_23 rfl ?_
    refine q_iadd dX12_near_25 ?_
    refine m_laldx 29 (201 * (row + 1) + k) hM dX12_near_26 (by decide) rfl rfl (by rw [show (201 : Int32) = nI 201 from rfl, pk_mul, nI_add]) (show 201 * (row + 1) + k < 3216 by omega) ?_
    rw [At_get (RW_ex h1 hX (by omega) (by omega)).2 (show k < L.length by omega)]
    refine q_lstore (ls' := [_, _, _, _, _, _, _, _, _, _]) dX12_near_27 rfl rfl (Nat.le_of_ble_eq_true rfl) (by decide) ?_
    first | refine q_aload_n dX12_near_29 rfl ?_ | refine q_aload_nN dX12_near_29 rfl ?_
    refine q_getf dX12_near_30 fk_X12_84_11 hM.K (hM.a 30 (by decide) (by decide)) ?_
    refine q_iload_n dX12_near_33 rfl ?_
    refine m_ialdx 30 (row) hM dX12_near_34 (by decide) rfl rfl rfl (show row < 16 by omega) ?_
    rw [hR.1]
    refine q_istore (ls' := [_, _, _, _, _, _, _, _, _, _]) dX12_near_35 rfl rfl (Nat.le_of_ble_eq_true rfl) (by decide) ?_
    first | refine q_aload_n dX12_near_37 rfl ?_ | refine q_aload_nN dX12_near_37 rfl ?_
    refine q_getf dX12_near_38 fk_X12_84_11 hM.K (hM.a 30 (by decide) (by decide)) ?_
    refine q_iload_n dX12_near_41 rfl ?_
    refine q_dup2_11 dX12_near_42 rfl rfl ?_
    refine m_ialdx 30 (row) hM dX12_near_43 (by decide) rfl rfl rfl (show row < 16 by omega) ?_
    rw [hR.1]
    refine q_iconst (v := 1) dX12_near_44 (by decide) ?_
    refine q_iadd dX12_near_45 ?_
    refine m_iastx 30 (row) hM dX12_near_46 (by decide) rfl rfl rfl (show row < 16 by omega) (fun Z hM hF1 => ?_)
    replace hF := hF.tr hF1
    refine mn_in l G M Z0 y σ e b row n k hrow v _ _ (show (srtR v (L.take k)).reverse.length ≤ 200 by omega) _ _ (fun p Z e2 hM hF hX hC hH hp hn he => ?_) _ Z _ hM hF (hX.tr EX_0) (pI_at _ _ _ _) (HL_0 hR.2) (Nat.le_refl _) (fun y hy => by rw [List.drop_length] at hy; exact absurd hy List.not_mem_nil)
    first | refine q_aload_n dX12_near_110 rfl ?_ | refine q_aload_nN dX12_near_110 rfl ?_
    refine q_getf dX12_near_111 fk_X12_81_11 hM.K (hM.a 29 (by decide) (by decide)) ?_
    refine q_sipush (v := 201) dX12_near_114 (by decide) ?_
    refine q_iload_n dX12_near_117 rfl ?_
    refine q_imul dX12_near_118 ?_
    refine q_iload dX12_near_119 rfl ?_
    refine q_iadd dX12_near_121 ?_
    refine q_lload dX12_near_122 rfl ?_
    refine m_lastx 29 (201 * row + p) hM dX12_near_124 (by decide) rfl rfl (by rw [show (201 : Int32) = nI 201 from rfl, pk_mul, nI_add]) (show 201 * row + p < 3216 by omega) (fun Z hM hF1 => ?_)
    replace hF := hF.tr hF1
    refine q_iinc 1 (ls' := [_, _, _, _, _, _, _, _, _, _]) dX12_near_125 rfl (by decide) rfl rfl (Nat.le_of_ble_eq_true rfl) (by decide) ?_
    refine q_goto 3 dX12_near_128 (by decide) ?_
    rw [nI_1]
    have hp2 : p ≤ (srtR v (L.take k)).length := by rw [List.length_reverse] at hp; exact hp
    have hins := ins_at hp2 hn he
    refine ih (k + 1) _ _ _ _ (by omega) hM hF (hX.tr (EX_pJ (by omega))) ?_
    rw [take_snoc (show k < L.length by omega), srtR_snoc, hins]
    refine ⟨?_, HL_end hH hp⟩
    rw [List.length_append, List.length_cons, List.length_take, List.length_drop]
    show e2.1 30 row = _
    rw [hC, nI_1]
    congr 1
    omega
set_option maxHeartbeats 600000 in
set_option maxRecDepth 100000 in
theorem mc_near (l : Launch) (G : Gt) (Z0 : Zt) (y : Nat) (σ e : St) (hM : MR Z0 y σ e) (b row n : Nat) (hrow : row < 15) (hn : n ≤ 200) (v : Int64) (L : List Int64) (h0 : RW e row []) (h1 : RW e (row + 1) L) (hl : L.length ≤ 200) : Ct l G YX12_near (b + 2, 0, 0) Z0 [.ref y, .int (nI row), .int (nI (row + 1)), .long v, .int (nI n)] (ΦV (fun Z1 => MF y Z0 Z1 ∧ ∃ e1, MR Z1 y σ e1 ∧ EX row e e1 ∧ RW e1 row ((srtR v L).reverse.take n))) := by
  refine ct_of [some (.ref y), some (.int (nI row)), some (.int (nI (row + 1))), some (.long v), none, some (.int (nI n)), none, none, none, none] (by decide +kernel) (Nat.le_of_ble_eq_true rfl) rfl (fun M => ?_)
  have hF := MF.rf y Z0
  refine q_iconst (v := 0) dX12_near_0 (by decide) ?_
  refine q_istore (ls' := [_, _, _, _, _, _, _, _, _, _]) dX12_near_1 rfl rfl (Nat.le_of_ble_eq_true rfl) (by decide) ?_
  exact mn_out l G M Z0 y σ e b row n hrow hn v L h1 hl _ (fun Z1 e1 a1 a2 a3 a4 => ⟨a1, e1, a2, a3, a4⟩) L.length 0 Z0 e none none (by omega) hM hF (EX.rf _ _) h0
