def PP (y : Nat) (Z0 : Zt) (e0 : St) (sp : Int32 × St) (r : Int32) (Z1 : Zt) : Prop := MF y Z0 Z1 ∧ ∃ fl wh, MR Z1 y sp.2 (ex e0 fl wh) ∧ (0 ≤ sp.1 → fl = 0 ∧ r = sp.1) ∧ (¬ 0 ≤ sp.1 → fl = -10 - sp.1 ∧ r = 0 ∧ (sp.1 ≠ -18 → wh = sp.2.1 14 0))
theorem PP_ok {y : Nat} {Z0 Z : Zt} {e0 σ : St} {wh r : Int32} {sp : Int32 × St} (hF : MF y Z0 Z) (hM : MR Z y σ (ex e0 0 wh)) (hs : sp = (r, σ)) (hr : 0 ≤ r) : PP y Z0 e0 sp r Z := by
  subst hs
  exact ⟨hF, 0, wh, hM, fun _ => ⟨rfl, rfl⟩, fun z => absurd hr z⟩
theorem PP_fail {y : Nat} {Z0 Z Z1 : Zt} {e0 σ : St} {kd f r : Int32} {sp : Int32 × St} (hF : MF y Z0 Z) (h : r = 0 ∧ MF y Z Z1 ∧ MR Z1 y (failS σ kd f).2 (ex e0 (-10 - (failS σ kd f).1) f)) (hs : sp = failS σ kd f) (hk : ¬ 0 ≤ -10 - kd) : PP y Z0 e0 sp r Z1 := by
  subst hs
  obtain ⟨rfl, f1, m1⟩ := h
  have hn : ¬ 0 ≤ (failS σ kd f).1 := by
    unfold failS
    split
    · show ¬ (0 : Int32) ≤ -18; decide
    · exact hk
  refine ⟨hF.tr f1, _, _, m1, fun z => absurd z hn, fun _ => ⟨rfl, rfl, fun h18 => ?_⟩⟩
  unfold failS at h18 ⊢
  split
  next z => rw [if_pos z] at h18; exact absurd rfl h18
  next z => exact (pI_at _ _ _ _).symm
theorem th_left (c : Int64) : ((c - c / 3 * 3).toInt32 = 0 ↔ c - c / 3 * 3 = 0) ∧ ((c - c / 3 * 3).toInt32 = 1 ↔ c - c / 3 * 3 = 1) := by
  rcases rest3 c with e | e | e | e | e <;> rw [e] <;> decide
theorem pl3_ix (v : Int64) : ∃ q, q < 3 ∧ pl3 v = nI q := by
  unfold pl3
  rcases rest3 v with e | e | e | e | e <;> rw [e]
  · exact ⟨2, by omega, by decide⟩
  · exact ⟨1, by omega, by decide⟩
  · exact ⟨0, by omega, by decide⟩
  · exact ⟨1, by omega, by decide⟩
  · exact ⟨2, by omega, by decide⟩
theorem thF_3 (c : Int64) : thF c = 1 ∨ thF c = 2 ∨ thF c = 3 := by
  unfold thF
  split
  · exact Or.inr (Or.inl rfl)
  · split
    · exact Or.inr (Or.inr rfl)
    · exact Or.inl rfl
noncomputable def bxS (σ : St) (b : Nat) (c v : Int64) (f : Int32) : Int32 × St := @ite _ (tkP (nI b) (thF c)) (Classical.propDecidable _) (1, pI σ 5 (3 * b + (pl3 v).toNatClampNeg) (thF c)) (failS σ 4 f)
theorem bxS_t {σ : St} {b : Nat} {c v : Int64} {f : Int32} (h : tkP (nI b) (thF c)) : bxS σ b c v f = (1, pI σ 5 (3 * b + (pl3 v).toNatClampNeg) (thF c)) := if_pos h
theorem bxS_f {σ : St} {b : Nat} {c v : Int64} {f : Int32} (h : ¬ tkP (nI b) (thF c)) : bxS σ b c v f = failS σ 4 f := if_neg h
theorem tk2 {nb th : Int32} (h : th = 2) : tkP nb th := by
  unfold tkP
  by_cases q0 : nb = 0
  · rw [if_pos q0]; exact Or.inr h
  · rw [if_neg q0]
    by_cases q1 : nb = 1
    · rw [if_pos q1]; exact h
    · rw [if_neg q1]; trivial
theorem th12 {t : Int32} (h : t = 1 ∨ t = 2 ∨ t = 3) (n : ¬ t = 3) : t = 1 ∨ t = 2 := by
  rcases h with e | e | e
  · exact Or.inl e
  · exact Or.inr e
  · exact absurd e n
set_option maxHeartbeats 600000 in
set_option maxRecDepth 100000 in
theorem mputs_52 (l : Launch) (G : Gt) (M : Mt) (Z0 Z : Zt) (y : Nat) (σ e0 : St) (wh : Int32) (hM : MR Z y σ (ex e0 0 wh)) (hF : MF y Z0 Z) (nn : Nat) (hnn : nn ≤ 20) (h15 : σ.1 15 0 = nI nn) (f : Int32) (b : Nat) (hb : b < 3) (c v : Int64) (left th pl0 : Int32) (hth : th = thF c) (q : Nat) (hq : q < 3) (hpl : pl3 v = nI q) : Jd l G YX12_puts (1, 0, 0) M Z 0 0 (Qm G (1, 0, 0) M (ΦI (PP y Z0 e0 (bxS σ b c v f)))) 52 [some (.ref y), some (.int f), some (.int (nI b)), some (.long c), none, some (.long v), none, some (.int left), some (.int th), some (.int pl0)] [.int (nI q)] := by
  have h3 := thF_3 c
  rw [← hth] at h3
  refine q_istore (ls' := [_, _, _, _, _, _, _, _, _, _]) dX12_puts_52 rfl rfl (Nat.le_of_ble_eq_true rfl) (by decide) ?_
  refine q_iload_n dX12_puts_54 rfl ?_
  refine q_if_ne 64 dX12_puts_55 (by decide) (fun c55 => ?_) (fun c55 => ?_)
  · refine q_iload_n dX12_puts_64 rfl ?_
    refine q_iconst (v := 1) dX12_puts_65 (by decide) ?_
    refine q_icmp_ne 82 dX12_puts_66 (by decide) (fun c66 => ?_) (fun c66 => ?_)
    · have tk : tkP (nI b) th := by unfold tkP; rw [if_neg c55, if_neg c66]; trivial
      first | refine q_aload_n dX12_puts_82 rfl ?_ | refine q_aload_nN dX12_puts_82 rfl ?_
      refine q_getf dX12_puts_83 fk_X12_23_11 hM.K (hM.a 5 (by decide) (by decide)) ?_
      refine q_iconst (v := 3) dX12_puts_86 (by decide) ?_
      refine q_iload_n dX12_puts_87 rfl ?_
      refine q_imul dX12_puts_88 ?_
      refine q_iload dX12_puts_89 rfl ?_
      refine q_iadd dX12_puts_91 ?_
      refine q_iload dX12_puts_92 rfl ?_
      refine m_iast 5 (3 * b + q) hM dX12_puts_94 (by decide) rfl rfl (by rw [show (3 : Int32) = nI 3 from rfl, pk_mul, nI_add]) (show 3 * b + q < 9 by omega) (fun Z hM hF1 => ?_)
      replace hF := hF.tr hF1
      refine q_iconst (v := 1) dX12_puts_95 (by decide) ?_
      exact q_zreturn dX12_puts_96 rfl rfl (by decide) (by decide) (PP_ok hF hM (by rw [bxS_t (by rw [← hth]; exact tk), hpl, nI_clamp (by omega), hth]) (by decide))
    · refine q_iload dX12_puts_69 rfl ?_
      refine q_iconst (v := 2) dX12_puts_71 (by decide) ?_
      refine q_icmp_eq 82 dX12_puts_72 (by decide) (fun c72 => ?_) (fun c72 => ?_)
      · have tk : tkP (nI b) th := tk2 c72
        first | refine q_aload_n dX12_puts_82 rfl ?_ | refine q_aload_nN dX12_puts_82 rfl ?_
        refine q_getf dX12_puts_83 fk_X12_23_11 hM.K (hM.a 5 (by decide) (by decide)) ?_
        refine q_iconst (v := 3) dX12_puts_86 (by decide) ?_
        refine q_iload_n dX12_puts_87 rfl ?_
        refine q_imul dX12_puts_88 ?_
        refine q_iload dX12_puts_89 rfl ?_
        refine q_iadd dX12_puts_91 ?_
        refine q_iload dX12_puts_92 rfl ?_
        refine m_iast 5 (3 * b + q) hM dX12_puts_94 (by decide) rfl rfl (by rw [show (3 : Int32) = nI 3 from rfl, pk_mul, nI_add]) (show 3 * b + q < 9 by omega) (fun Z hM hF1 => ?_)
        replace hF := hF.tr hF1
        refine q_iconst (v := 1) dX12_puts_95 (by decide) ?_
        exact q_zreturn dX12_puts_96 rfl rfl (by decide) (by decide) (PP_ok hF hM (by rw [bxS_t (by rw [← hth]; exact tk), hpl, nI_clamp (by omega), hth]) (by decide))
      · first | refine q_aload_n dX12_puts_75 rfl ?_ | refine q_aload_nN dX12_puts_75 rfl ?_
        refine q_iconst (v := 4) dX12_puts_76 (by decide) ?_
        refine q_iload_n dX12_puts_77 rfl ?_
        refine q_callV 11 dX12_puts_78 mk_X12_119 rfl hM.K (mc_fails l G Z y σ (ex e0 0 wh) hM e0 0 wh rfl nn hnn h15 4 f) rfl np_X12_fails (by decide) (by decide) (by decide) (Nat.le_of_ble_eq_true rfl) (kI (fun r78 Z78 h78 => ?_))
        
        exact q_zreturn dX12_puts_81 rfl (by rw [h78.1]; rfl) (by decide) (by decide) (PP_fail hF h78 (bxS_f (by rw [← hth]; exact fun z => by unfold tkP at z; rw [if_neg c55, if_pos c66] at z; exact c72 z)) (by decide))
  · refine q_iload dX12_puts_58 rfl ?_
    refine q_iconst (v := 3) dX12_puts_60 (by decide) ?_
    refine q_icmp_eq 75 dX12_puts_61 (by decide) (fun c61 => ?_) (fun c61 => ?_)
    · first | refine q_aload_n dX12_puts_75 rfl ?_ | refine q_aload_nN dX12_puts_75 rfl ?_
      refine q_iconst (v := 4) dX12_puts_76 (by decide) ?_
      refine q_iload_n dX12_puts_77 rfl ?_
      refine q_callV 11 dX12_puts_78 mk_X12_119 rfl hM.K (mc_fails l G Z y σ (ex e0 0 wh) hM e0 0 wh rfl nn hnn h15 4 f) rfl np_X12_fails (by decide) (by decide) (by decide) (Nat.le_of_ble_eq_true rfl) (kI (fun r78 Z78 h78 => ?_))
      
      exact q_zreturn dX12_puts_81 rfl (by rw [h78.1]; rfl) (by decide) (by decide) (PP_fail hF h78 (bxS_f (by rw [← hth]; exact fun z => by unfold tkP at z; rw [if_pos c55] at z; rw [c61] at z; exact absurd z (by decide))) (by decide))
    · refine q_iload_n dX12_puts_64 rfl ?_
      refine q_iconst (v := 1) dX12_puts_65 (by decide) ?_
      refine q_icmp_ne 82 dX12_puts_66 (by decide) (fun c66 => ?_) (fun c66 => ?_)
      · have tk : tkP (nI b) th := by unfold tkP; rw [if_pos c55]; exact th12 h3 c61
        first | refine q_aload_n dX12_puts_82 rfl ?_ | refine q_aload_nN dX12_puts_82 rfl ?_
        refine q_getf dX12_puts_83 fk_X12_23_11 hM.K (hM.a 5 (by decide) (by decide)) ?_
        refine q_iconst (v := 3) dX12_puts_86 (by decide) ?_
        refine q_iload_n dX12_puts_87 rfl ?_
        refine q_imul dX12_puts_88 ?_
        refine q_iload dX12_puts_89 rfl ?_
        refine q_iadd dX12_puts_91 ?_
        refine q_iload dX12_puts_92 rfl ?_
        refine m_iast 5 (3 * b + q) hM dX12_puts_94 (by decide) rfl rfl (by rw [show (3 : Int32) = nI 3 from rfl, pk_mul, nI_add]) (show 3 * b + q < 9 by omega) (fun Z hM hF1 => ?_)
        replace hF := hF.tr hF1
        refine q_iconst (v := 1) dX12_puts_95 (by decide) ?_
        exact q_zreturn dX12_puts_96 rfl rfl (by decide) (by decide) (PP_ok hF hM (by rw [bxS_t (by rw [← hth]; exact tk), hpl, nI_clamp (by omega), hth]) (by decide))
      · refine q_iload dX12_puts_69 rfl ?_
        refine q_iconst (v := 2) dX12_puts_71 (by decide) ?_
        refine q_icmp_eq 82 dX12_puts_72 (by decide) (fun c72 => ?_) (fun c72 => ?_)
        · have tk : tkP (nI b) th := tk2 c72
          first | refine q_aload_n dX12_puts_82 rfl ?_ | refine q_aload_nN dX12_puts_82 rfl ?_
          refine q_getf dX12_puts_83 fk_X12_23_11 hM.K (hM.a 5 (by decide) (by decide)) ?_
          refine q_iconst (v := 3) dX12_puts_86 (by decide) ?_
          refine q_iload_n dX12_puts_87 rfl ?_
          refine q_imul dX12_puts_88 ?_
          refine q_iload dX12_puts_89 rfl ?_
          refine q_iadd dX12_puts_91 ?_
          refine q_iload dX12_puts_92 rfl ?_
          refine m_iast 5 (3 * b + q) hM dX12_puts_94 (by decide) rfl rfl (by rw [show (3 : Int32) = nI 3 from rfl, pk_mul, nI_add]) (show 3 * b + q < 9 by omega) (fun Z hM hF1 => ?_)
          replace hF := hF.tr hF1
          refine q_iconst (v := 1) dX12_puts_95 (by decide) ?_
          exact q_zreturn dX12_puts_96 rfl rfl (by decide) (by decide) (PP_ok hF hM (by rw [bxS_t (by rw [← hth]; exact tk), hpl, nI_clamp (by omega), hth]) (by decide))
        · first | refine q_aload_n dX12_puts_75 rfl ?_ | refine q_aload_nN dX12_puts_75 rfl ?_
          refine q_iconst (v := 4) dX12_puts_76 (by decide) ?_
          refine q_iload_n dX12_puts_77 rfl ?_
          refine q_callV 11 dX12_puts_78 mk_X12_119 rfl hM.K (mc_fails l G Z y σ (ex e0 0 wh) hM e0 0 wh rfl nn hnn h15 4 f) rfl np_X12_fails (by decide) (by decide) (by decide) (Nat.le_of_ble_eq_true rfl) (kI (fun r78 Z78 h78 => ?_))
          
          exact q_zreturn dX12_puts_81 rfl (by rw [h78.1]; rfl) (by decide) (by decide) (PP_fail hF h78 (bxS_f (by rw [← hth]; exact fun z => by unfold tkP at z; rw [c66] at c55; exact absurd c55 (by decide))) (by decide))
set_option maxHeartbeats 600000 in
set_option maxRecDepth 100000 in
theorem mputs_28 (l : Launch) (G : Gt) (M : Mt) (Z0 Z : Zt) (y : Nat) (σ e0 : St) (wh : Int32) (hM : MR Z y σ (ex e0 0 wh)) (hF : MF y Z0 Z) (nn : Nat) (hnn : nn ≤ 20) (h15 : σ.1 15 0 = nI nn) (f : Int32) (b : Nat) (hb : b < 3) (c v : Int64) (left th : Int32) (hth : th = thF c) : Jd l G YX12_puts (1, 0, 0) M Z 0 0 (Qm G (1, 0, 0) M (ΦI (PP y Z0 e0 (bxS σ b c v f)))) 28 [some (.ref y), some (.int f), some (.int (nI b)), some (.long c), none, some (.long v), none, some (.int left), none, none] [.int th] := by
  refine q_istore (ls' := [_, _, _, _, _, _, _, _, _, _]) dX12_puts_28 rfl rfl (Nat.le_of_ble_eq_true rfl) (by decide) ?_
  refine q_lload dX12_puts_30 rfl ?_
  refine q_ldc2 dX12_puts_32 kl_X12_135 ?_
  refine q_lrem dX12_puts_35 (by decide) ?_
  refine q_l2i dX12_puts_36 ?_
  refine q_istore (ls' := [_, _, _, _, _, _, _, _, _, _]) dX12_puts_37 rfl rfl (Nat.le_of_ble_eq_true rfl) (by decide) ?_
  refine q_iload dX12_puts_39 rfl ?_
  refine q_if_ge 50 dX12_puts_41 (by decide) (fun c41 => ?_) (fun c41 => ?_)
  · refine q_iload dX12_puts_50 rfl ?_
    obtain ⟨q, hq, hpl⟩ := pl3_ix v
    have e9 : pl3 v = (v - v / 3 * 3).toInt32 := by unfold pl3; rw [if_neg (Int32.not_lt.mpr c41)]
    rw [← e9, hpl]
    exact mputs_52 l G M Z0 Z y σ e0 wh hM hF nn hnn h15 f b hb c v _ th _ hth q hq hpl
  · refine q_iload dX12_puts_44 rfl ?_
    refine q_ineg dX12_puts_46 ?_
    refine q_goto 52 dX12_puts_47 (by decide) ?_
    obtain ⟨q, hq, hpl⟩ := pl3_ix v
    have e9 : pl3 v = -(v - v / 3 * 3).toInt32 := by unfold pl3; rw [if_pos (Int32.not_le.mp c41)]
    rw [← e9, hpl]
    exact mputs_52 l G M Z0 Z y σ e0 wh hM hF nn hnn h15 f b hb c v _ th _ hth q hq hpl
set_option maxHeartbeats 600000 in
set_option maxRecDepth 100000 in
theorem mc_puts (l : Launch) (G : Gt) (Z0 : Zt) (y : Nat) (σ e0 : St) (wh : Int32) (hM : MR Z0 y σ (ex e0 0 wh)) (nn : Nat) (hnn : nn ≤ 20) (h15 : σ.1 15 0 = nI nn) (f : Int32) (b : Nat) (hb : b < 3) (c v : Int64) : Ct l G YX12_puts (1, 0, 0) Z0 [.ref y, .int f, .int (nI b), .long c, .long v] (ΦI (PP y Z0 e0 (bxS σ b c v f))) := by
  refine ct_of [some (.ref y), some (.int f), some (.int (nI b)), some (.long c), none, some (.long v), none, none, none, none] (by decide +kernel) (Nat.le_of_ble_eq_true rfl) rfl (fun M => ?_)
  have hF := MF.rf y Z0
  refine q_lload_n dX12_puts_0 rfl ?_
  refine q_ldc2 dX12_puts_1 kl_X12_135 ?_
  refine q_lrem dX12_puts_4 (by decide) ?_
  refine q_l2i dX12_puts_5 ?_
  refine q_istore (ls' := [_, _, _, _, _, _, _, _, _, _]) dX12_puts_6 rfl rfl (Nat.le_of_ble_eq_true rfl) (by decide) ?_
  refine q_iload dX12_puts_8 rfl ?_
  refine q_if_ne 17 dX12_puts_10 (by decide) (fun c10 => ?_) (fun c10 => ?_)
  · refine q_iload dX12_puts_17 rfl ?_
    refine q_iconst (v := 1) dX12_puts_19 (by decide) ?_
    refine q_icmp_ne 27 dX12_puts_20 (by decide) (fun c20 => ?_) (fun c20 => ?_)
    · refine q_iconst (v := 1) dX12_puts_27 (by decide) ?_
      exact mputs_28 l G M Z0 Z0 y σ e0 wh hM hF nn hnn h15 f b hb c v _ _ (by unfold thF; rw [if_neg (fun z => c10 ((th_left c).1.mpr z)), if_neg (fun z => c20 ((th_left c).2.mpr z))])
    · refine q_iconst (v := 3) dX12_puts_23 (by decide) ?_
      refine q_goto 28 dX12_puts_24 (by decide) ?_
      exact mputs_28 l G M Z0 Z0 y σ e0 wh hM hF nn hnn h15 f b hb c v _ _ (by unfold thF; rw [if_neg (fun z => c10 ((th_left c).1.mpr z)), if_pos ((th_left c).2.mp c20)])
  · refine q_iconst (v := 2) dX12_puts_13 (by decide) ?_
    refine q_goto 28 dX12_puts_14 (by decide) ?_
    exact mputs_28 l G M Z0 Z0 y σ e0 wh hM hF nn hnn h15 f b hb c v _ _ (by unfold thF; rw [if_pos ((th_left c).1.mp c10)])
