set_option maxHeartbeats 600000 in
set_option maxRecDepth 100000 in
theorem mg_plain (l : Launch) (G : Gt) (M : Mt) (Z0 : Zt) (y : Nat) (σ e : St) (b row : Nat) (hrow : row < 16) (s n : Nat) (hs : s < 20) (hn : n ≤ 200) (hC : σ.2 27 s = lN n) (P : Int32 → Zt → Prop) (hP : ∀ Z1 e1, MF y Z0 Z1 → MR Z1 y σ e1 → LQ row e [] (fun i => σ.2 25 s + lN i * σ.2 26 s) n e1 → P 1 Z1) : ∀ (m k : Nat) (Z : Zt) (e1 : St), k + m = n → MR Z y σ e1 → MF y Z0 Z → LQ row e [] (fun i => σ.2 25 s + lN i * σ.2 26 s) k e1 → Jd l G YX12_goes (b + 1, 0, 0) M Z 0 0 (Qm G (b + 1, 0, 0) M (ΦI P)) 38 [some (.ref y), some (.int (nI s)), some (.int (nI row)), some (.long (lN k)), none] [] := by
  intro m
  induction m with
  | zero =>
    intro k Z e1 hk hM hF hQ
    obtain rfl : n = k := by omega
    refine q_lload_n dX12_goes_38 rfl ?_
    first | refine q_aload_n dX12_goes_39 rfl ?_ | refine q_aload_nN dX12_goes_39 rfl ?_
    refine q_getf dX12_goes_40 fk_X12_75_11 hM.K (hM.a 27 (by decide) (by decide)) ?_
    refine q_iload_n dX12_goes_43 rfl ?_
    refine m_lald 27 (s) hM dX12_goes_44 (by decide) rfl rfl rfl (show s < 20 by omega) ?_
    rw [hC]
    refine q_lcmp_ge 76 dX12_goes_45 dX12_goes_46 (by decide) (fun c45 => ?_) (fun c45 => absurd c45 (not_not_intro (Int64.le_refl _)))
    refine q_iconst (v := 1) dX12_goes_76 (by decide) ?_
    exact q_zreturn dX12_goes_77 rfl rfl (Nat.le_refl _) (Nat.le_refl _) (hP _ _ hF hM hQ)
  | succ m ih =>
    intro k Z e1 hk hM hF hQ
    refine q_lload_n dX12_goes_38 rfl ?_
    first | refine q_aload_n dX12_goes_39 rfl ?_ | refine q_aload_nN dX12_goes_39 rfl ?_
    refine q_getf dX12_goes_40 fk_X12_75_11 hM.K (hM.a 27 (by decide) (by decide)) ?_
    refine q_iload_n dX12_goes_43 rfl ?_
    refine m_lald 27 (s) hM dX12_goes_44 (by decide) rfl rfl rfl (show s < 20 by omega) ?_
    rw [hC]
    refine q_lcmp_ge 76 dX12_goes_45 dX12_goes_46 (by decide) (fun c45 => absurd c45 (Int64.not_le.mpr ((lN_lt (by omega) (by omega)).mpr (by omega)))) (fun c45 => ?_)
    first | refine q_aload_n dX12_goes_49 rfl ?_ | refine q_aload_nN dX12_goes_49 rfl ?_
    refine q_iload_n dX12_goes_50 rfl ?_
    first | refine q_aload_n dX12_goes_51 rfl ?_ | refine q_aload_nN dX12_goes_51 rfl ?_
    refine q_getf dX12_goes_52 fk_X12_69_11 hM.K (hM.a 25 (by decide) (by decide)) ?_
    refine q_iload_n dX12_goes_55 rfl ?_
    refine m_lald 25 (s) hM dX12_goes_56 (by decide) rfl rfl rfl (show s < 20 by omega) ?_
    refine q_lload_n dX12_goes_57 rfl ?_
    first | refine q_aload_n dX12_goes_58 rfl ?_ | refine q_aload_nN dX12_goes_58 rfl ?_
    refine q_getf dX12_goes_59 fk_X12_72_11 hM.K (hM.a 26 (by decide) (by decide)) ?_
    refine q_iload_n dX12_goes_62 rfl ?_
    refine m_lald 26 (s) hM dX12_goes_63 (by decide) rfl rfl rfl (show s < 20 by omega) ?_
    refine q_lmul dX12_goes_64 ?_
    refine q_ladd dX12_goes_65 ?_
    refine q_callV 11 dX12_goes_66 mk_X12_163 rfl hM.K (mc_put l G Z y σ e1 hM row _ hrow hQ.n (by rw [List.length_nil]; omega) _) rfl np_X12_put (Nat.le_add_left _ _) (Nat.le_refl _) (Nat.le_refl _) (Nat.le_of_ble_eq_true rfl) (kV (fun Z2 hp => ?_))
    obtain ⟨f2, hM⟩ := hp
    replace hF := hF.tr f2
    have hQ := hQ.put (by rw [List.length_nil]; omega)
    refine q_lload_n dX12_goes_69 rfl ?_
    refine q_lconst (v := 1) dX12_goes_70 (by decide) ?_
    refine q_ladd dX12_goes_71 ?_
    refine q_lstore_n (ls' := [_, _, _, _, _]) dX12_goes_72 rfl rfl (Nat.le_of_ble_eq_true rfl) (by decide) ?_
    refine q_goto 38 dX12_goes_73 (by decide) ?_
    rw [lN_1]
    exact ih (k + 1) _ _ (by omega) hM hF hQ
set_option maxHeartbeats 600000 in
set_option maxRecDepth 100000 in
theorem mg_list (l : Launch) (G : Gt) (M : Mt) (Z0 : Zt) (y : Nat) (σ e : St) (b row : Nat) (hrow : row < 16) (s n : Nat) (hs : s < 20) (hn : n ≤ 12) (hC : σ.2 27 s = lN n) (P : Int32 → Zt → Prop) (hP : ∀ Z1 e1, MF y Z0 Z1 → MR Z1 y σ e1 → LQ row e [] (fun i => σ.2 28 (12 * s + i)) n e1 → P 1 Z1) : ∀ (m k : Nat) (Z : Zt) (e1 : St), k + m = n → MR Z y σ e1 → MF y Z0 Z → LQ row e [] (fun i => σ.2 28 (12 * s + i)) k e1 → Jd l G YX12_goes (b + 1, 0, 0) M Z 0 0 (Qm G (b + 1, 0, 0) M (ΦI P)) 143 [some (.ref y), some (.int (nI s)), some (.int (nI row)), some (.int (nI (row + 1))), some (.int (nI k))] [] := by
  intro m
  induction m with
  | zero =>
    intro k Z e1 hk hM hF hQ
    obtain rfl : n = k := by omega
    refine q_iload dX12_goes_143 rfl ?_
    first | refine q_aload_n dX12_goes_145 rfl ?_ | refine q_aload_nN dX12_goes_145 rfl ?_
    refine q_getf dX12_goes_146 fk_X12_75_11 hM.K (hM.a 27 (by decide) (by decide)) ?_
    refine q_iload_n dX12_goes_149 rfl ?_
    refine m_lald 27 (s) hM dX12_goes_150 (by decide) rfl rfl rfl (show s < 20 by omega) ?_
    rw [hC]
    refine q_l2i dX12_goes_151 ?_
    rw [lN_i]
    refine q_icmp_ge 178 dX12_goes_152 (by decide) (fun c152 => ?_) (fun c152 => absurd c152 (not_not_intro (Int32.le_refl _)))
    refine q_iconst (v := 1) dX12_goes_178 (by decide) ?_
    exact q_zreturn dX12_goes_179 rfl rfl (Nat.le_refl _) (Nat.le_refl _) (hP _ _ hF hM hQ)
  | succ m ih =>
    intro k Z e1 hk hM hF hQ
    refine q_iload dX12_goes_143 rfl ?_
    first | refine q_aload_n dX12_goes_145 rfl ?_ | refine q_aload_nN dX12_goes_145 rfl ?_
    refine q_getf dX12_goes_146 fk_X12_75_11 hM.K (hM.a 27 (by decide) (by decide)) ?_
    refine q_iload_n dX12_goes_149 rfl ?_
    refine m_lald 27 (s) hM dX12_goes_150 (by decide) rfl rfl rfl (show s < 20 by omega) ?_
    rw [hC]
    refine q_l2i dX12_goes_151 ?_
    rw [lN_i]
    refine q_icmp_ge 178 dX12_goes_152 (by decide) (fun c152 => absurd c152 (nI_ge (by omega) (by omega))) (fun c152 => ?_)
    first | refine q_aload_n dX12_goes_155 rfl ?_ | refine q_aload_nN dX12_goes_155 rfl ?_
    refine q_iload_n dX12_goes_156 rfl ?_
    first | refine q_aload_n dX12_goes_157 rfl ?_ | refine q_aload_nN dX12_goes_157 rfl ?_
    refine q_getf dX12_goes_158 fk_X12_78_11 hM.K (hM.a 28 (by decide) (by decide)) ?_
    refine q_bipush (v := 12) dX12_goes_161 (by decide) ?_
    refine q_iload_n dX12_goes_163 rfl ?_
    refine q_imul dX12_goes_164 ?_
    refine q_iload dX12_goes_165 rfl ?_
    refine q_iadd dX12_goes_167 ?_
    refine m_lald 28 (12 * s + k) hM dX12_goes_168 (by decide) rfl rfl (by rw [show (12 : Int32) = nI 12 from rfl, pk_mul, nI_add]) (show 12 * s + k < 240 by omega) ?_
    refine q_callV 11 dX12_goes_169 mk_X12_163 rfl hM.K (mc_put l G Z y σ e1 hM row _ hrow hQ.n (by rw [List.length_nil]; omega) _) rfl np_X12_put (Nat.le_add_left _ _) (Nat.le_refl _) (Nat.le_refl _) (Nat.le_of_ble_eq_true rfl) (kV (fun Z2 hp => ?_))
    obtain ⟨f2, hM⟩ := hp
    replace hF := hF.tr f2
    have hQ := hQ.put (by rw [List.length_nil]; omega)
    refine q_iinc 1 (ls' := [_, _, _, _, _]) dX12_goes_172 rfl (by decide) rfl rfl (Nat.le_of_ble_eq_true rfl) (by decide) ?_
    refine q_goto 143 dX12_goes_175 (by decide) ?_
    rw [nI_1]
    exact ih (k + 1) _ _ (by omega) hM hF hQ
set_option maxHeartbeats 600000 in
set_option maxRecDepth 100000 in
theorem mg_shelf (l : Launch) (G : Gt) (M : Mt) (Z0 : Zt) (y : Nat) (σ e : St) (b row : Nat) (hrow : row < 16) (s n a : Nat) (ha : a < 6) (hn : n ≤ 12) (hC : σ.1 2 a = nI n) (P : Int32 → Zt → Prop) (hP : ∀ Z1 e1, MF y Z0 Z1 → MR Z1 y σ e1 → LQ row e [] (fun i => σ.2 4 (12 * a + i)) n e1 → P 1 Z1) : ∀ (m k : Nat) (Z : Zt) (e1 : St), k + m = n → MR Z y σ e1 → MF y Z0 Z → LQ row e [] (fun i => σ.2 4 (12 * a + i)) k e1 → Jd l G YX12_shelfOf (b + 1, 0, 0) M Z 0 0 (Qm G (b + 1, 0, 0) M (ΦI P)) 49 [some (.ref y), some (.int (nI s)), some (.int (nI row)), some (.int (nI a)), some (.int (nI k))] [] := by
  intro m
  induction m with
  | zero =>
    intro k Z e1 hk hM hF hQ
    obtain rfl : n = k := by omega
    refine q_iload dX12_shelfOf_49 rfl ?_
    first | refine q_aload_n dX12_shelfOf_51 rfl ?_ | refine q_aload_nN dX12_shelfOf_51 rfl ?_
    refine q_getf dX12_shelfOf_52 fk_X12_13_11 hM.K (hM.a 2 (by decide) (by decide)) ?_
    refine q_iload_n dX12_shelfOf_55 rfl ?_
    refine m_iald 2 (a) hM dX12_shelfOf_56 (by decide) rfl rfl rfl (show a < 6 by omega) ?_
    rw [hC]
    refine q_icmp_ge 83 dX12_shelfOf_57 (by decide) (fun c57 => ?_) (fun c57 => absurd c57 (not_not_intro (Int32.le_refl _)))
    refine q_iconst (v := 1) dX12_shelfOf_83 (by decide) ?_
    exact q_zreturn dX12_shelfOf_84 rfl rfl (Nat.le_refl _) (Nat.le_refl _) (hP _ _ hF hM hQ)
  | succ m ih =>
    intro k Z e1 hk hM hF hQ
    refine q_iload dX12_shelfOf_49 rfl ?_
    first | refine q_aload_n dX12_shelfOf_51 rfl ?_ | refine q_aload_nN dX12_shelfOf_51 rfl ?_
    refine q_getf dX12_shelfOf_52 fk_X12_13_11 hM.K (hM.a 2 (by decide) (by decide)) ?_
    refine q_iload_n dX12_shelfOf_55 rfl ?_
    refine m_iald 2 (a) hM dX12_shelfOf_56 (by decide) rfl rfl rfl (show a < 6 by omega) ?_
    rw [hC]
    refine q_icmp_ge 83 dX12_shelfOf_57 (by decide) (fun c57 => absurd c57 (nI_ge (by omega) (by omega))) (fun c57 => ?_)
    first | refine q_aload_n dX12_shelfOf_60 rfl ?_ | refine q_aload_nN dX12_shelfOf_60 rfl ?_
    refine q_iload_n dX12_shelfOf_61 rfl ?_
    first | refine q_aload_n dX12_shelfOf_62 rfl ?_ | refine q_aload_nN dX12_shelfOf_62 rfl ?_
    refine q_getf dX12_shelfOf_63 fk_X12_20_11 hM.K (hM.a 4 (by decide) (by decide)) ?_
    refine q_bipush (v := 12) dX12_shelfOf_66 (by decide) ?_
    refine q_iload_n dX12_shelfOf_68 rfl ?_
    refine q_imul dX12_shelfOf_69 ?_
    refine q_iload dX12_shelfOf_70 rfl ?_
    refine q_iadd dX12_shelfOf_72 ?_
    refine m_lald 4 (12 * a + k) hM dX12_shelfOf_73 (by decide) rfl rfl (by rw [show (12 : Int32) = nI 12 from rfl, pk_mul, nI_add]) (show 12 * a + k < 72 by omega) ?_
    refine q_callV 11 dX12_shelfOf_74 mk_X12_163 rfl hM.K (mc_put l G Z y σ e1 hM row _ hrow hQ.n (by rw [List.length_nil]; omega) _) rfl np_X12_put (Nat.le_add_left _ _) (Nat.le_refl _) (Nat.le_refl _) (Nat.le_of_ble_eq_true rfl) (kV (fun Z2 hp => ?_))
    obtain ⟨f2, hM⟩ := hp
    replace hF := hF.tr f2
    have hQ := hQ.put (by rw [List.length_nil]; omega)
    refine q_iinc 1 (ls' := [_, _, _, _, _]) dX12_shelfOf_77 rfl (by decide) rfl rfl (Nat.le_of_ble_eq_true rfl) (by decide) ?_
    refine q_goto 49 dX12_shelfOf_80 (by decide) ?_
    rw [nI_1]
    exact ih (k + 1) _ _ (by omega) hM hF hQ
set_option maxHeartbeats 600000 in
set_option maxRecDepth 100000 in
theorem mg_join2 (l : Launch) (G : Gt) (M : Mt) (Z0 : Zt) (y : Nat) (σ e : St) (b row : Nat) (hrow : row < 16) (s : Nat) (L1 L2 : List Int64) (hr14 : row < 14) (h1 : RW e (row + 1) L1) (h2 : RW e (row + 2) L2) (hl : L1.length + L2.length ≤ 200) (P : Int32 → Zt → Prop) (hP : ∀ Z1 e1, MF y Z0 Z1 → MR Z1 y σ e1 → LQ row e L1 (fun i => L2.getD i 0) L2.length e1 → P 1 Z1) : ∀ (m k : Nat) (Z : Zt) (e1 : St), k + m = L2.length → MR Z y σ e1 → MF y Z0 Z → LQ row e L1 (fun i => L2.getD i 0) k e1 → Jd l G YX12_twoOf (b + 1, 0, 0) M Z 0 0 (Qm G (b + 1, 0, 0) M (ΦI P)) 125 [some (.ref y), some (.int (nI s)), some (.int (nI row)), some (.int (nI (row + 1))), some (.int (nI (row + 2))), some (.int (nI k)), none, none] [] := by
  intro m
  induction m with
  | zero =>
    intro k Z e1 hk hM hF hQ
    have hkN : k = L2.length := by omega
    subst hkN
    refine q_iload dX12_twoOf_125 rfl ?_
    first | refine q_aload_n dX12_twoOf_127 rfl ?_ | refine q_aload_nN dX12_twoOf_127 rfl ?_
    refine q_getf dX12_twoOf_128 fk_X12_84_11 hM.K (hM.a 30 (by decide) (by decide)) ?_
    refine q_iload dX12_twoOf_131 rfl ?_
    refine m_ialdx 30 (row + 2) hM dX12_twoOf_133 (by decide) rfl rfl rfl (show row + 2 < 16 by omega) ?_
    rw [(RW_ex h2 hQ.1 (by omega) (by omega)).1]
    refine q_icmp_ge 162 dX12_twoOf_134 (by decide) (fun c134 => ?_) (fun c134 => absurd c134 (not_not_intro (Int32.le_refl _)))
    refine q_iconst (v := 1) dX12_twoOf_162 (by decide) ?_
    exact q_zreturn dX12_twoOf_163 rfl rfl (Nat.le_refl _) (Nat.le_refl _) (hP _ _ hF hM hQ)
  | succ m ih =>
    intro k Z e1 hk hM hF hQ
    refine q_iload dX12_twoOf_125 rfl ?_
    first | refine q_aload_n dX12_twoOf_127 rfl ?_ | refine q_aload_nN dX12_twoOf_127 rfl ?_
    refine q_getf dX12_twoOf_128 fk_X12_84_11 hM.K (hM.a 30 (by decide) (by decide)) ?_
    refine q_iload dX12_twoOf_131 rfl ?_
    refine m_ialdx 30 (row + 2) hM dX12_twoOf_133 (by decide) rfl rfl rfl (show row + 2 < 16 by omega) ?_
    rw [(RW_ex h2 hQ.1 (by omega) (by omega)).1]
    refine q_icmp_ge 162 dX12_twoOf_134 (by decide) (fun c134 => absurd c134 (nI_ge (by omega) (by omega))) (fun c134 => ?_)
    first | refine q_aload_n dX12_twoOf_137 rfl ?_ | refine q_aload_nN dX12_twoOf_137 rfl ?_
    refine q_iload_n dX12_twoOf_138 rfl ?_
    first | refine q_aload_n dX12_twoOf_139 rfl ?_ | refine q_aload_nN dX12_twoOf_139 rfl ?_
    refine q_getf dX12_twoOf_140 fk_X12_81_11 hM.K (hM.a 29 (by decide) (by decide)) ?_
    refine q_sipush (v := 201) dX12_twoOf_143 (by decide) ?_
    refine q_iload dX12_twoOf_146 rfl ?_
    refine q_imul dX12_twoOf_148 ?_
    refine q_iload dX12_twoOf_149 rfl ?_
    refine q_iadd dX12_twoOf_151 ?_
    refine m_laldx 29 (201 * (row + 2) + k) hM dX12_twoOf_152 (by decide) rfl rfl (by rw [show (201 : Int32) = nI 201 from rfl, pk_mul, nI_add]) (show 201 * (row + 2) + k < 3216 by omega) ?_
    rw [At_getD (RW_ex h2 hQ.1 (by omega) (by omega)).2 (show k < L2.length by omega)]
    refine q_callV 11 dX12_twoOf_153 mk_X12_163 rfl hM.K (mc_put l G Z y σ e1 hM row _ hrow hQ.n (by omega) _) rfl np_X12_put (Nat.le_add_left _ _) (Nat.le_refl _) (Nat.le_refl _) (Nat.le_of_ble_eq_true rfl) (kV (fun Z2 hp => ?_))
    obtain ⟨f2, hM⟩ := hp
    replace hF := hF.tr f2
    have hQ := hQ.put (by omega)
    refine q_iinc 1 (ls' := [_, _, _, _, _, _, _, _]) dX12_twoOf_156 rfl (by decide) rfl rfl (Nat.le_of_ble_eq_true rfl) (by decide) ?_
    refine q_goto 125 dX12_twoOf_159 (by decide) ?_
    rw [nI_1]
    exact ih (k + 1) _ _ (by omega) hM hF hQ
set_option maxHeartbeats 600000 in
set_option maxRecDepth 100000 in
theorem mg_join1 (l : Launch) (G : Gt) (M : Mt) (Z0 : Zt) (y : Nat) (σ e : St) (b row : Nat) (hrow : row < 16) (s : Nat) (L1 L2 : List Int64) (hr14 : row < 14) (h1 : RW e (row + 1) L1) (h2 : RW e (row + 2) L2) (hl : L1.length + L2.length ≤ 200) (P : Int32 → Zt → Prop) (hP : ∀ Z1 e1, MF y Z0 Z1 → MR Z1 y σ e1 → LQ row e L1 (fun i => L2.getD i 0) L2.length e1 → P 1 Z1) : ∀ (m k : Nat) (Z : Zt) (e1 : St), k + m = L1.length → MR Z y σ e1 → MF y Z0 Z → LQ row e [] (fun i => L1.getD i 0) k e1 → Jd l G YX12_twoOf (b + 1, 0, 0) M Z 0 0 (Qm G (b + 1, 0, 0) M (ΦI P)) 87 [some (.ref y), some (.int (nI s)), some (.int (nI row)), some (.int (nI (row + 1))), some (.int (nI (row + 2))), some (.int (nI k)), none, none] [] := by
  intro m
  induction m with
  | zero =>
    intro k Z e1 hk hM hF hQ
    have hkN : k = L1.length := by omega
    subst hkN
    refine q_iload dX12_twoOf_87 rfl ?_
    first | refine q_aload_n dX12_twoOf_89 rfl ?_ | refine q_aload_nN dX12_twoOf_89 rfl ?_
    refine q_getf dX12_twoOf_90 fk_X12_84_11 hM.K (hM.a 30 (by decide) (by decide)) ?_
    refine q_iload_n dX12_twoOf_93 rfl ?_
    refine m_ialdx 30 (row + 1) hM dX12_twoOf_94 (by decide) rfl rfl rfl (show row + 1 < 16 by omega) ?_
    rw [(RW_ex h1 hQ.1 (by omega) (by omega)).1]
    refine q_icmp_ge 122 dX12_twoOf_95 (by decide) (fun c95 => ?_) (fun c95 => absurd c95 (not_not_intro (Int32.le_refl _)))
    refine q_iconst (v := 0) dX12_twoOf_122 (by decide) ?_
    refine q_istore (ls' := [_, _, _, _, _, _, _, _]) dX12_twoOf_123 rfl rfl (Nat.le_of_ble_eq_true rfl) (by decide) ?_
    exact mg_join2 l G M Z0 y σ e b row hrow s L1 L2 hr14 h1 h2 hl P hP L2.length 0 Z _ (by omega) hM hF (LQ_0 hQ.1 (by have := hQ.2; rw [List.nil_append, getD_all] at this; exact this))
  | succ m ih =>
    intro k Z e1 hk hM hF hQ
    refine q_iload dX12_twoOf_87 rfl ?_
    first | refine q_aload_n dX12_twoOf_89 rfl ?_ | refine q_aload_nN dX12_twoOf_89 rfl ?_
    refine q_getf dX12_twoOf_90 fk_X12_84_11 hM.K (hM.a 30 (by decide) (by decide)) ?_
    refine q_iload_n dX12_twoOf_93 rfl ?_
    refine m_ialdx 30 (row + 1) hM dX12_twoOf_94 (by decide) rfl rfl rfl (show row + 1 < 16 by omega) ?_
    rw [(RW_ex h1 hQ.1 (by omega) (by omega)).1]
    refine q_icmp_ge 122 dX12_twoOf_95 (by decide) (fun c95 => absurd c95 (nI_ge (by omega) (by omega))) (fun c95 => ?_)
    first | refine q_aload_n dX12_twoOf_98 rfl ?_ | refine q_aload_nN dX12_twoOf_98 rfl ?_
    refine q_iload_n dX12_twoOf_99 rfl ?_
    first | refine q_aload_n dX12_twoOf_100 rfl ?_ | refine q_aload_nN dX12_twoOf_100 rfl ?_
    refine q_getf dX12_twoOf_101 fk_X12_81_11 hM.K (hM.a 29 (by decide) (by decide)) ?_
    refine q_sipush (v := 201) dX12_twoOf_104 (by decide) ?_
    refine q_iload_n dX12_twoOf_107 rfl ?_
    refine q_imul dX12_twoOf_108 ?_
    refine q_iload dX12_twoOf_109 rfl ?_
    refine q_iadd dX12_twoOf_111 ?_
    refine m_laldx 29 (201 * (row + 1) + k) hM dX12_twoOf_112 (by decide) rfl rfl (by rw [show (201 : Int32) = nI 201 from rfl, pk_mul, nI_add]) (show 201 * (row + 1) + k < 3216 by omega) ?_
    rw [At_getD (RW_ex h1 hQ.1 (by omega) (by omega)).2 (show k < L1.length by omega)]
    refine q_callV 11 dX12_twoOf_113 mk_X12_163 rfl hM.K (mc_put l G Z y σ e1 hM row _ hrow hQ.n (by rw [List.length_nil]; omega) _) rfl np_X12_put (Nat.le_add_left _ _) (Nat.le_refl _) (Nat.le_refl _) (Nat.le_of_ble_eq_true rfl) (kV (fun Z2 hp => ?_))
    obtain ⟨f2, hM⟩ := hp
    replace hF := hF.tr f2
    have hQ := hQ.put (by rw [List.length_nil]; omega)
    refine q_iinc 1 (ls' := [_, _, _, _, _, _, _, _]) dX12_twoOf_116 rfl (by decide) rfl rfl (Nat.le_of_ble_eq_true rfl) (by decide) ?_
    refine q_goto 87 dX12_twoOf_119 (by decide) ?_
    rw [nI_1]
    exact ih (k + 1) _ _ (by omega) hM hF hQ
set_option maxHeartbeats 600000 in
set_option maxRecDepth 100000 in
theorem mg_turn (l : Launch) (G : Gt) (M : Mt) (Z0 : Zt) (y : Nat) (σ e : St) (b row : Nat) (hrow : row < 16) (s : Nat) (L : List Int64) (hr15 : row < 15) (h1 : RW e (row + 1) L) (hl : L.length ≤ 200) (P : Int32 → Zt → Prop) (hP : ∀ Z1 e1, MF y Z0 Z1 → MR Z1 y σ e1 → LQ row e [] (fun i => L.getD (L.length - 1 - i) 0) L.length e1 → P 1 Z1) : ∀ (m k : Nat) (Z : Zt) (e1 : St), k + m = L.length → MR Z y σ e1 → MF y Z0 Z → LQ row e [] (fun i => L.getD (L.length - 1 - i) 0) k e1 → Jd l G YX12_one (b + 1, 0, 0) M Z 0 0 (Qm G (b + 1, 0, 0) M (ΦI P)) 58 [some (.ref y), some (.int (nI s)), some (.int (nI row)), some (.int (nI (row + 1))), some (.int (nI L.length)), some (.int (nI (L.length - k) - 1)), none, none, none] [] := by
  intro m
  induction m with
  | zero =>
    intro k Z e1 hk hM hF hQ
    have hkN : k = L.length := by omega
    subst hkN
    refine q_iload dX12_one_58 rfl ?_
    refine q_if_lt 87 dX12_one_60 (by decide) (fun c60 => ?_) (fun c60 => absurd c60 (not_not_intro (by rw [Nat.sub_self]; decide)))
    refine q_iconst (v := 1) dX12_one_87 (by decide) ?_
    exact q_zreturn dX12_one_88 rfl rfl (Nat.le_refl _) (Nat.le_refl _) (hP _ _ hF hM hQ)
  | succ m ih =>
    intro k Z e1 hk hM hF hQ
    have hd : nI (L.length - k) - 1 = nI (L.length - 1 - k) := by
      rw [show L.length - k = L.length - 1 - k + 1 by omega, nI_pred]
    have hi2 : nI (L.length - k) - 1 + (-1) = nI (L.length - (k + 1)) - 1 := by
      rw [hd, show L.length - (k + 1) = L.length - 1 - k by omega, Int32.sub_eq_add_neg]
    refine q_iload dX12_one_58 rfl ?_
    refine q_if_lt 87 dX12_one_60 (by decide) (fun c60 => absurd c60 (by rw [hd]; exact nI_pos (by omega))) (fun c60 => ?_)
    first | refine q_aload_n dX12_one_63 rfl ?_ | refine q_aload_nN dX12_one_63 rfl ?_
    refine q_iload_n dX12_one_64 rfl ?_
    first | refine q_aload_n dX12_one_65 rfl ?_ | refine q_aload_nN dX12_one_65 rfl ?_
    refine q_getf dX12_one_66 fk_X12_81_11 hM.K (hM.a 29 (by decide) (by decide)) ?_
    refine q_sipush (v := 201) dX12_one_69 (by decide) ?_
    refine q_iload_n dX12_one_72 rfl ?_
    refine q_imul dX12_one_73 ?_
    refine q_iload dX12_one_74 rfl ?_
    refine q_iadd dX12_one_76 ?_
    refine m_laldx 29 (201 * (row + 1) + (L.length - 1 - k)) hM dX12_one_77 (by decide) rfl rfl (by rw [hd, show (201 : Int32) = nI 201 from rfl, pk_mul, nI_add]) (show 201 * (row + 1) + (L.length - 1 - k) < 3216 by omega) ?_
    rw [At_getD (RW_ex h1 hQ.1 (by omega) (by omega)).2 (show L.length - 1 - k < L.length by omega)]
    refine q_callV 11 dX12_one_78 mk_X12_163 rfl hM.K (mc_put l G Z y σ e1 hM row _ hrow hQ.n (by rw [List.length_nil]; omega) _) rfl np_X12_put (Nat.le_add_left _ _) (Nat.le_refl _) (Nat.le_refl _) (Nat.le_of_ble_eq_true rfl) (kV (fun Z2 hp => ?_))
    obtain ⟨f2, hM⟩ := hp
    replace hF := hF.tr f2
    have hQ := hQ.put (by rw [List.length_nil]; omega)
    refine q_iinc (-1) (ls' := [_, _, _, _, _, _, _, _, _]) dX12_one_81 rfl (by decide) rfl rfl (Nat.le_of_ble_eq_true rfl) (by decide) ?_
    refine q_goto 58 dX12_one_84 (by decide) ?_
    rw [hi2]
    exact ih (k + 1) _ _ (by omega) hM hF hQ
theorem ev_ge {m n : Nat} (hm : 1 ≤ m) : n ≤ evN m n * m := by
  unfold evN
  split
  · omega
  · have h1 := Nat.div_add_mod (n - 1) m
    have h2 : (n - 1) % m < m := Nat.mod_lt _ (by omega)
    rw [Nat.succ_mul, Nat.mul_comm]
    generalize m * ((n - 1) / m) = q at *
    omega
theorem ev_up {m n : Nat} (hm : 1 ≤ m) (hn : n ≤ 200) (h2 : m ≤ 200) : evN m n * m ≤ 400 := by
  unfold evN
  split
  · omega
  · have h1 := Nat.div_mul_le_self (n - 1) m
    rw [Nat.succ_mul]
    generalize (n - 1) / m * m = q at *
    omega
theorem ev_lt {m n k : Nat} (hm : 1 ≤ m) (h : k < evN m n) : k * m < n := by
  unfold evN at h
  split at h
  · omega
  · have h1 : k ≤ (n - 1) / m := by omega
    have h2 := Nat.mul_le_mul_right m h1
    have h3 := Nat.div_mul_le_self (n - 1) m
    generalize (n - 1) / m * m = q at *
    omega
set_option maxHeartbeats 600000 in
set_option maxRecDepth 100000 in
theorem mg_every (l : Launch) (G : Gt) (M : Mt) (Z0 : Zt) (y : Nat) (σ e : St) (b row : Nat) (hrow : row < 16) (s m0 : Nat) (hs : s < 20) (hm0 : 1 ≤ m0) (hm1 : m0 ≤ 200) (hN : σ.1 21 s = nI m0) (L : List Int64) (hr15 : row < 15) (h1 : RW e (row + 1) L) (hl : L.length ≤ 200) (P : Int32 → Zt → Prop) (hP : ∀ Z1 e1, MF y Z0 Z1 → MR Z1 y σ e1 → LQ row e [] (fun j => L.getD (j * m0) 0) (evN m0 L.length) e1 → P 1 Z1) : ∀ (m k : Nat) (Z : Zt) (e1 : St), k + m = evN m0 L.length → MR Z y σ e1 → MF y Z0 Z → LQ row e [] (fun j => L.getD (j * m0) 0) k e1 → Jd l G YX12_one (b + 1, 0, 0) M Z 0 0 (Qm G (b + 1, 0, 0) M (ΦI P)) 112 [some (.ref y), some (.int (nI s)), some (.int (nI row)), some (.int (nI (row + 1))), some (.int (nI L.length)), some (.int (nI (k * m0))), none, none, none] [] := by
  intro m
  induction m with
  | zero =>
    intro k Z e1 hk hM hF hQ
    have hkN : k = evN m0 L.length := by omega
    subst hkN
    refine q_iload dX12_one_112 rfl ?_
    refine q_iload dX12_one_114 rfl ?_
    refine q_icmp_ge 151 dX12_one_116 (by decide) (fun c116 => ?_) (fun c116 => absurd c116 (not_not_intro (nI_le (ev_ge hm0) (by have := ev_up hm0 hl hm1; omega))))
    refine q_iconst (v := 1) dX12_one_151 (by decide) ?_
    exact q_zreturn dX12_one_152 rfl rfl (Nat.le_refl _) (Nat.le_refl _) (hP _ _ hF hM hQ)
  | succ m ih =>
    intro k Z e1 hk hM hF hQ
    have hkm : k * m0 < L.length := ev_lt hm0 (by omega)
    have hke : k < L.length := Nat.lt_of_le_of_lt (Nat.le_mul_of_pos_right k hm0) hkm
    refine q_iload dX12_one_112 rfl ?_
    refine q_iload dX12_one_114 rfl ?_
    refine q_icmp_ge 151 dX12_one_116 (by decide) (fun c116 => absurd c116 (nI_ge hkm (by omega))) (fun c116 => ?_)
    first | refine q_aload_n dX12_one_119 rfl ?_ | refine q_aload_nN dX12_one_119 rfl ?_
    refine q_iload_n dX12_one_120 rfl ?_
    first | refine q_aload_n dX12_one_121 rfl ?_ | refine q_aload_nN dX12_one_121 rfl ?_
    refine q_getf dX12_one_122 fk_X12_81_11 hM.K (hM.a 29 (by decide) (by decide)) ?_
    refine q_sipush (v := 201) dX12_one_125 (by decide) ?_
    refine q_iload_n dX12_one_128 rfl ?_
    refine q_imul dX12_one_129 ?_
    refine q_iload dX12_one_130 rfl ?_
    refine q_iadd dX12_one_132 ?_
    refine m_laldx 29 (201 * (row + 1) + k * m0) hM dX12_one_133 (by decide) rfl rfl (by rw [show (201 : Int32) = nI 201 from rfl, pk_mul, nI_add]) (show 201 * (row + 1) + k * m0 < 3216 by omega) ?_
    rw [At_getD (RW_ex h1 hQ.1 (by omega) (by omega)).2 hkm]
    refine q_callV 11 dX12_one_134 mk_X12_163 rfl hM.K (mc_put l G Z y σ e1 hM row _ hrow hQ.n (by rw [List.length_nil]; omega) _) rfl np_X12_put (Nat.le_add_left _ _) (Nat.le_refl _) (Nat.le_refl _) (Nat.le_of_ble_eq_true rfl) (kV (fun Z2 hp => ?_))
    obtain ⟨f2, hM⟩ := hp
    replace hF := hF.tr f2
    have hQ := hQ.put (by rw [List.length_nil]; omega)
    refine q_iload dX12_one_137 rfl ?_
    first | refine q_aload_n dX12_one_139 rfl ?_ | refine q_aload_nN dX12_one_139 rfl ?_
    refine q_getf dX12_one_140 fk_X12_56_11 hM.K (hM.a 21 (by decide) (by decide)) ?_
    refine q_iload_n dX12_one_143 rfl ?_
    refine m_iald 21 (s) hM dX12_one_144 (by decide) rfl rfl rfl (show s < 20 by omega) ?_
    rw [hN]
    refine q_iadd dX12_one_145 ?_
    refine q_istore (ls' := [_, _, _, _, _, _, _, _, _]) dX12_one_146 rfl rfl (Nat.le_of_ble_eq_true rfl) (by decide) ?_
    refine q_goto 112 dX12_one_148 (by decide) ?_
    rw [nI_add, ← Nat.succ_mul]
    exact ih (k + 1) _ _ (by omega) hM hF hQ
