set_option maxHeartbeats 600000 in
set_option maxRecDepth 100000 in
theorem src_fin_one (l : Launch) (G : Gt) (M : Mt) (Z : Zt) (x nf ns : Nat) (af as : Nat → Nat) (σ : St) (h : CR Z x σ af as nf ns) (so s t a n d pl : Int32) (v F S C : Int64) (s1 t1 f1 : Nat) (Θ : Zt → Prop) (hctor : Ct l G YX8_init_ (4, 1, 4) (nO Z 8 (fun k => defaultValue (tyTab 7 k))) [.ref (zN Z), .int so, .ref (as s1), .null, .null, .null, .int n, .long v] (ΦV Θ)) (hΘ : ∀ Z1, Θ Z1 → Fr (zN Z) Z Z1 ∧ zK Z1 (zN Z) = 8 ∧ zF Z1 1 (zN Z) = .int d ∧ (d ≤ 6 → sO0 Z1 x (addS σ ns so s t a n d pl v F S C) (fun s => if s = ns then zN Z else as s) ns ∧ sO1 Z1 x (addS σ ns so s t a n d pl v F S C) (fun s => if s = ns then zN Z else as s) ns ∧ sO2 Z1 x (addS σ ns so s t a n d pl v F S C) (fun s => if s = ns then zN Z else as s) ns ∧ sO3 Z1 (addS σ ns so s t a n d pl v F S C) af (fun s => if s = ns then zN Z else as s) nf ns)) (P : Int32 → Zt → Prop) (hP : ∀ r Z1, (∃ as1 ns1, r = (keepS σ so s t a n d pl v F S C).1 ∧ CR Z1 x (keepS σ so s t a n d pl v F S C).2 af as1 nf ns1 ∧ KM x Z Z1) → P r Z1) : Jd l G YX11_source (6, 2, 13) M Z 0 0 (Qm G (6, 2, 13) M (ΦI P)) 129 [some (.ref x), some (.int so), some (.int s), some (.int t), some (.int a), some (.int n), some (.long v), none, some (.ref (as s1)), some .null, some .null, some (.int 0), some (.int 0)] [] := by
  have hx := h.1.1.1
  have hT := h.2.2.2.2.1
  have hs20 := hT.2.2.2.1
  have hN := h.2.2.2.2.2.2
  first | refine q_aload_n dX11_source_129 rfl ?_ | refine q_aload_nN dX11_source_129 rfl ?_
  refine q_new dX11_source_130 nk_X11_27 rfl (by decide) (by decide) ?_
  refine q_dup dX11_source_133 rfl ?_
  refine q_iload_n dX11_source_134 rfl ?_
  refine q_aload dX11_source_135 rfl ?_
  refine q_aloadN dX11_source_137 rfl ?_
  refine q_aloadN dX11_source_139 rfl ?_
  refine q_aconst_null dX11_source_141 ?_
  refine q_iload dX11_source_142 rfl ?_
  refine q_lload dX11_source_144 rfl ?_
  refine q_callI dX11_source_146 mk_X11_138 rfl (hctor) rfl np_X8_init_ (by decide) (by decide) (by decide) (Nat.le_of_ble_eq_true rfl) (kV (fun Z146 h146 => ?_))
  obtain ⟨hFr, hK146, hD146, hnew⟩ := hΘ Z146 h146
  have hC := h.fr hFr
  have hkm := hFr.km hN
  refine q_callV 10 dX11_source_149 mk_X11_130 rfl hC.1.1.1.1 (cc_keepSource l G Z146 x nf ns af as σ hC (zN Z) d hK146 hD146) rfl np_X11_keepSource (by decide) (by decide) (by decide) (Nat.le_of_ble_eq_true rfl) (kI (fun r149 Z149 h149 => ?_))
  exact q_ireturn dX11_source_152 rfl (by decide) (by decide) (hP _ _ (src_end h hC hkm (Nat.le_refl _) hnew h149))
set_option maxHeartbeats 600000 in
set_option maxRecDepth 100000 in
theorem src_fin_two (l : Launch) (G : Gt) (M : Mt) (Z : Zt) (x nf ns : Nat) (af as : Nat → Nat) (σ : St) (h : CR Z x σ af as nf ns) (so s t a n d pl : Int32) (v F S C : Int64) (s1 t1 f1 : Nat) (Θ : Zt → Prop) (hctor : Ct l G YX8_init_ (4, 1, 4) (nO Z 8 (fun k => defaultValue (tyTab 7 k))) [.ref (zN Z), .int so, .ref (as s1), .ref (as t1), .null, .null, .int n, .long v] (ΦV Θ)) (hΘ : ∀ Z1, Θ Z1 → Fr (zN Z) Z Z1 ∧ zK Z1 (zN Z) = 8 ∧ zF Z1 1 (zN Z) = .int d ∧ (d ≤ 6 → sO0 Z1 x (addS σ ns so s t a n d pl v F S C) (fun s => if s = ns then zN Z else as s) ns ∧ sO1 Z1 x (addS σ ns so s t a n d pl v F S C) (fun s => if s = ns then zN Z else as s) ns ∧ sO2 Z1 x (addS σ ns so s t a n d pl v F S C) (fun s => if s = ns then zN Z else as s) ns ∧ sO3 Z1 (addS σ ns so s t a n d pl v F S C) af (fun s => if s = ns then zN Z else as s) nf ns)) (P : Int32 → Zt → Prop) (hP : ∀ r Z1, (∃ as1 ns1, r = (keepS σ so s t a n d pl v F S C).1 ∧ CR Z1 x (keepS σ so s t a n d pl v F S C).2 af as1 nf ns1 ∧ KM x Z Z1) → P r Z1) : Jd l G YX11_source (6, 2, 13) M Z 0 0 (Qm G (6, 2, 13) M (ΦI P)) 129 [some (.ref x), some (.int so), some (.int s), some (.int t), some (.int a), some (.int n), some (.long v), none, some (.ref (as s1)), some (.ref (as t1)), some .null, some (.int 0), some (.int 0)] [] := by
  have hx := h.1.1.1
  have hT := h.2.2.2.2.1
  have hs20 := hT.2.2.2.1
  have hN := h.2.2.2.2.2.2
  first | refine q_aload_n dX11_source_129 rfl ?_ | refine q_aload_nN dX11_source_129 rfl ?_
  refine q_new dX11_source_130 nk_X11_27 rfl (by decide) (by decide) ?_
  refine q_dup dX11_source_133 rfl ?_
  refine q_iload_n dX11_source_134 rfl ?_
  refine q_aload dX11_source_135 rfl ?_
  refine q_aload dX11_source_137 rfl ?_
  refine q_aloadN dX11_source_139 rfl ?_
  refine q_aconst_null dX11_source_141 ?_
  refine q_iload dX11_source_142 rfl ?_
  refine q_lload dX11_source_144 rfl ?_
  refine q_callI dX11_source_146 mk_X11_138 rfl (hctor) rfl np_X8_init_ (by decide) (by decide) (by decide) (Nat.le_of_ble_eq_true rfl) (kV (fun Z146 h146 => ?_))
  obtain ⟨hFr, hK146, hD146, hnew⟩ := hΘ Z146 h146
  have hC := h.fr hFr
  have hkm := hFr.km hN
  refine q_callV 10 dX11_source_149 mk_X11_130 rfl hC.1.1.1.1 (cc_keepSource l G Z146 x nf ns af as σ hC (zN Z) d hK146 hD146) rfl np_X11_keepSource (by decide) (by decide) (by decide) (Nat.le_of_ble_eq_true rfl) (kI (fun r149 Z149 h149 => ?_))
  exact q_ireturn dX11_source_152 rfl (by decide) (by decide) (hP _ _ (src_end h hC hkm (Nat.le_refl _) hnew h149))
set_option maxHeartbeats 600000 in
set_option maxRecDepth 100000 in
theorem src_fin_pass (l : Launch) (G : Gt) (M : Mt) (Z : Zt) (x nf ns : Nat) (af as : Nat → Nat) (σ : St) (h : CR Z x σ af as nf ns) (so s t a n d pl : Int32) (v F S C : Int64) (s1 t1 f1 : Nat) (Θ : Zt → Prop) (hctor : Ct l G YX8_init_ (4, 1, 4) (nO Z 8 (fun k => defaultValue (tyTab 7 k))) [.ref (zN Z), .int so, .ref (as s1), .null, .ref (af f1), .null, .int n, .long v] (ΦV Θ)) (hΘ : ∀ Z1, Θ Z1 → Fr (zN Z) Z Z1 ∧ zK Z1 (zN Z) = 8 ∧ zF Z1 1 (zN Z) = .int d ∧ (d ≤ 6 → sO0 Z1 x (addS σ ns so s t a n d pl v F S C) (fun s => if s = ns then zN Z else as s) ns ∧ sO1 Z1 x (addS σ ns so s t a n d pl v F S C) (fun s => if s = ns then zN Z else as s) ns ∧ sO2 Z1 x (addS σ ns so s t a n d pl v F S C) (fun s => if s = ns then zN Z else as s) ns ∧ sO3 Z1 (addS σ ns so s t a n d pl v F S C) af (fun s => if s = ns then zN Z else as s) nf ns)) (P : Int32 → Zt → Prop) (hP : ∀ r Z1, (∃ as1 ns1, r = (keepS σ so s t a n d pl v F S C).1 ∧ CR Z1 x (keepS σ so s t a n d pl v F S C).2 af as1 nf ns1 ∧ KM x Z Z1) → P r Z1) : Jd l G YX11_source (6, 2, 13) M Z 0 0 (Qm G (6, 2, 13) M (ΦI P)) 129 [some (.ref x), some (.int so), some (.int s), some (.int t), some (.int a), some (.int n), some (.long v), none, some (.ref (as s1)), some .null, some (.ref (af f1)), some (.int 0), some (.int 0)] [] := by
  have hx := h.1.1.1
  have hT := h.2.2.2.2.1
  have hs20 := hT.2.2.2.1
  have hN := h.2.2.2.2.2.2
  first | refine q_aload_n dX11_source_129 rfl ?_ | refine q_aload_nN dX11_source_129 rfl ?_
  refine q_new dX11_source_130 nk_X11_27 rfl (by decide) (by decide) ?_
  refine q_dup dX11_source_133 rfl ?_
  refine q_iload_n dX11_source_134 rfl ?_
  refine q_aload dX11_source_135 rfl ?_
  refine q_aloadN dX11_source_137 rfl ?_
  refine q_aload dX11_source_139 rfl ?_
  refine q_aconst_null dX11_source_141 ?_
  refine q_iload dX11_source_142 rfl ?_
  refine q_lload dX11_source_144 rfl ?_
  refine q_callI dX11_source_146 mk_X11_138 rfl (hctor) rfl np_X8_init_ (by decide) (by decide) (by decide) (Nat.le_of_ble_eq_true rfl) (kV (fun Z146 h146 => ?_))
  obtain ⟨hFr, hK146, hD146, hnew⟩ := hΘ Z146 h146
  have hC := h.fr hFr
  have hkm := hFr.km hN
  refine q_callV 10 dX11_source_149 mk_X11_130 rfl hC.1.1.1.1 (cc_keepSource l G Z146 x nf ns af as σ hC (zN Z) d hK146 hD146) rfl np_X11_keepSource (by decide) (by decide) (by decide) (Nat.le_of_ble_eq_true rfl) (kI (fun r149 Z149 h149 => ?_))
  exact q_ireturn dX11_source_152 rfl (by decide) (by decide) (hP _ _ (src_end h hC hkm (Nat.le_refl _) hnew h149))
set_option maxHeartbeats 600000 in
set_option maxRecDepth 100000 in
theorem src_36_one (l : Launch) (G : Gt) (M : Mt) (Z : Zt) (x nf ns : Nat) (af as : Nat → Nat) (σ : St) (h : CR Z x σ af as nf ns) (so s t a n : Int32) (v : Int64) (h4 : ¬ so ≤ 4) (h7 : ¬ so = 7) (P : Int32 → Zt → Prop) (hgo : ∀ s1, s1 < ns → s = nI s1 → Jd l G YX11_source (6, 2, 13) M Z 0 0 (Qm G (6, 2, 13) M (ΦI P)) 129 [some (.ref x), some (.int so), some (.int s), some (.int t), some (.int a), some (.int n), some (.long v), none, some (.ref (as s1)), some .null, some .null, some (.int 0), some (.int 0)] []) (hno : (s < 0 ∨ ¬ s < nI ns) → P (-1) Z) : Jd l G YX11_source (6, 2, 13) M Z 0 0 (Qm G (6, 2, 13) M (ΦI P)) 36 [some (.ref x), some (.int so), some (.int s), some (.int t), some (.int a), some (.int n), some (.long v), none, none, none, none, none, none] [] := by
  have hx := h.1.1.1
  have hT := h.2.2.2.2.1
  have hs20 := hT.2.2.2.1
  have hN := h.2.2.2.2.2.2
  first | refine q_aload_n dX11_source_36 rfl ?_ | refine q_aload_nN dX11_source_36 rfl ?_
  refine q_iload_n dX11_source_37 rfl ?_
  refine q_callV 10 dX11_source_38 mk_X11_141 rfl hx.1 (cc_sourceAt l G Z x nf ns af as σ h s) rfl np_X11_sourceAt (by decide) (by decide) (by decide) (Nat.le_of_ble_eq_true rfl) (kA (fun r38 Z38 h38 => ?_))
  obtain ⟨e38, h38⟩ := h38
  rw [e38]
  rcases h38 with ⟨s1, hs1, qs1, rfl⟩ | ⟨ns1, rfl⟩
  · refine q_astore (ls' := [_, _, _, _, _, _, _, _, _, _, _, _, _]) dX11_source_41 rfl rfl (Nat.le_of_ble_eq_true rfl) (by decide) ?_
    refine q_iload_n dX11_source_43 rfl ?_
    refine q_iconst (v := 4) dX11_source_44 (by decide) ?_
    refine q_icmp_gt 56 dX11_source_45 (by decide) (fun c45 => ?_) (fun c45 => absurd c45 (not_not_intro (Int32.not_le.mp h4)))
    refine q_aconst_null dX11_source_56 ?_
    refine q_astoreN (ls' := [_, _, _, _, _, _, _, _, _, _, _, _, _]) dX11_source_57 rfl rfl (Nat.le_of_ble_eq_true rfl) (by decide) ?_
    refine q_iload_n dX11_source_59 rfl ?_
    refine q_bipush (v := 7) dX11_source_60 (by decide) ?_
    refine q_icmp_ne 74 dX11_source_62 (by decide) (fun c62 => ?_) (fun c62 => absurd c62 h7)
    refine q_aconst_null dX11_source_74 ?_
    refine q_astoreN (ls' := [_, _, _, _, _, _, _, _, _, _, _, _, _]) dX11_source_75 rfl rfl (Nat.le_of_ble_eq_true rfl) (by decide) ?_
    refine q_iload_n dX11_source_77 rfl ?_
    refine q_iconst (v := 4) dX11_source_78 (by decide) ?_
    refine q_icmp_gt 91 dX11_source_79 (by decide) (fun c79 => ?_) (fun c79 => absurd c79 (not_not_intro (Int32.not_le.mp h4)))
    refine q_iconst (v := 0) dX11_source_91 (by decide) ?_
    refine q_istore (ls' := [_, _, _, _, _, _, _, _, _, _, _, _, _]) dX11_source_92 rfl rfl (Nat.le_of_ble_eq_true rfl) (by decide) ?_
    refine q_iload_n dX11_source_94 rfl ?_
    refine q_bipush (v := 7) dX11_source_95 (by decide) ?_
    refine q_icmp_ne 109 dX11_source_97 (by decide) (fun c97 => ?_) (fun c97 => absurd c97 h7)
    refine q_iconst (v := 0) dX11_source_109 (by decide) ?_
    refine q_istore (ls' := [_, _, _, _, _, _, _, _, _, _, _, _, _]) dX11_source_110 rfl rfl (Nat.le_of_ble_eq_true rfl) (by decide) ?_
    refine q_aload dX11_source_112 rfl ?_
    refine q_ifnull dX11_source_114 ?_
    refine q_iload dX11_source_117 rfl ?_
    refine q_if_ne 127 dX11_source_119 (by decide) (fun c119 => absurd c119 (not_not_intro rfl)) (fun c119 => ?_)
    refine q_iload dX11_source_122 rfl ?_
    refine q_if_eq 129 dX11_source_124 (by decide) (fun c124 => ?_) (fun c124 => absurd c124 (not_not_intro rfl))
    exact hgo s1 hs1 qs1
  · refine q_astoreN (ls' := [_, _, _, _, _, _, _, _, _, _, _, _, _]) dX11_source_41 rfl rfl (Nat.le_of_ble_eq_true rfl) (by decide) ?_
    refine q_iload_n dX11_source_43 rfl ?_
    refine q_iconst (v := 4) dX11_source_44 (by decide) ?_
    refine q_icmp_gt 56 dX11_source_45 (by decide) (fun c45 => ?_) (fun c45 => absurd c45 (not_not_intro (Int32.not_le.mp h4)))
    refine q_aconst_null dX11_source_56 ?_
    refine q_astoreN (ls' := [_, _, _, _, _, _, _, _, _, _, _, _, _]) dX11_source_57 rfl rfl (Nat.le_of_ble_eq_true rfl) (by decide) ?_
    refine q_iload_n dX11_source_59 rfl ?_
    refine q_bipush (v := 7) dX11_source_60 (by decide) ?_
    refine q_icmp_ne 74 dX11_source_62 (by decide) (fun c62 => ?_) (fun c62 => absurd c62 h7)
    refine q_aconst_null dX11_source_74 ?_
    refine q_astoreN (ls' := [_, _, _, _, _, _, _, _, _, _, _, _, _]) dX11_source_75 rfl rfl (Nat.le_of_ble_eq_true rfl) (by decide) ?_
    refine q_iload_n dX11_source_77 rfl ?_
    refine q_iconst (v := 4) dX11_source_78 (by decide) ?_
    refine q_icmp_gt 91 dX11_source_79 (by decide) (fun c79 => ?_) (fun c79 => absurd c79 (not_not_intro (Int32.not_le.mp h4)))
    refine q_iconst (v := 0) dX11_source_91 (by decide) ?_
    refine q_istore (ls' := [_, _, _, _, _, _, _, _, _, _, _, _, _]) dX11_source_92 rfl rfl (Nat.le_of_ble_eq_true rfl) (by decide) ?_
    refine q_iload_n dX11_source_94 rfl ?_
    refine q_bipush (v := 7) dX11_source_95 (by decide) ?_
    refine q_icmp_ne 109 dX11_source_97 (by decide) (fun c97 => ?_) (fun c97 => absurd c97 h7)
    refine q_iconst (v := 0) dX11_source_109 (by decide) ?_
    refine q_istore (ls' := [_, _, _, _, _, _, _, _, _, _, _, _, _]) dX11_source_110 rfl rfl (Nat.le_of_ble_eq_true rfl) (by decide) ?_
    refine q_aloadN dX11_source_112 rfl ?_
    refine q_ifnullN 127 dX11_source_114 (by decide) ?_
    refine q_iconst (v := (-1)) dX11_source_127 (by decide) ?_
    exact q_ireturn dX11_source_128 rfl (by decide) (by decide) (hno ns1)
set_option maxHeartbeats 600000 in
set_option maxRecDepth 100000 in
theorem src_36_two (l : Launch) (G : Gt) (M : Mt) (Z : Zt) (x nf ns : Nat) (af as : Nat → Nat) (σ : St) (h : CR Z x σ af as nf ns) (so s t a n : Int32) (v : Int64) (h4 : so ≤ 4) (h7 : ¬ so = 7) (P : Int32 → Zt → Prop) (hgo : ∀ s1 t1, s1 < ns → s = nI s1 → t1 < ns → t = nI t1 → Jd l G YX11_source (6, 2, 13) M Z 0 0 (Qm G (6, 2, 13) M (ΦI P)) 129 [some (.ref x), some (.int so), some (.int s), some (.int t), some (.int a), some (.int n), some (.long v), none, some (.ref (as s1)), some (.ref (as t1)), some .null, some (.int 0), some (.int 0)] []) (hno : ((s < 0 ∨ ¬ s < nI ns) ∨ (t < 0 ∨ ¬ t < nI ns)) → P (-1) Z) : Jd l G YX11_source (6, 2, 13) M Z 0 0 (Qm G (6, 2, 13) M (ΦI P)) 36 [some (.ref x), some (.int so), some (.int s), some (.int t), some (.int a), some (.int n), some (.long v), none, none, none, none, none, none] [] := by
  have hx := h.1.1.1
  have hT := h.2.2.2.2.1
  have hs20 := hT.2.2.2.1
  have hN := h.2.2.2.2.2.2
  first | refine q_aload_n dX11_source_36 rfl ?_ | refine q_aload_nN dX11_source_36 rfl ?_
  refine q_iload_n dX11_source_37 rfl ?_
  refine q_callV 10 dX11_source_38 mk_X11_141 rfl hx.1 (cc_sourceAt l G Z x nf ns af as σ h s) rfl np_X11_sourceAt (by decide) (by decide) (by decide) (Nat.le_of_ble_eq_true rfl) (kA (fun r38 Z38 h38 => ?_))
  obtain ⟨e38, h38⟩ := h38
  rw [e38]
  rcases h38 with ⟨s1, hs1, qs1, rfl⟩ | ⟨ns1, rfl⟩
  · refine q_astore (ls' := [_, _, _, _, _, _, _, _, _, _, _, _, _]) dX11_source_41 rfl rfl (Nat.le_of_ble_eq_true rfl) (by decide) ?_
    refine q_iload_n dX11_source_43 rfl ?_
    refine q_iconst (v := 4) dX11_source_44 (by decide) ?_
    refine q_icmp_gt 56 dX11_source_45 (by decide) (fun c45 => absurd c45 (Int32.not_lt.mpr h4)) (fun c45 => ?_)
    first | refine q_aload_n dX11_source_48 rfl ?_ | refine q_aload_nN dX11_source_48 rfl ?_
    refine q_iload_n dX11_source_49 rfl ?_
    refine q_callV 10 dX11_source_50 mk_X11_141 rfl hx.1 (cc_sourceAt l G Z x nf ns af as σ h t) rfl np_X11_sourceAt (by decide) (by decide) (by decide) (Nat.le_of_ble_eq_true rfl) (kA (fun r50 Z50 h50 => ?_))
    obtain ⟨e50, h50⟩ := h50
    rw [e50]
    rcases h50 with ⟨t1, ht1, qt1, rfl⟩ | ⟨nt1, rfl⟩
    · refine q_goto 57 dX11_source_53 (by decide) ?_
      refine q_astore (ls' := [_, _, _, _, _, _, _, _, _, _, _, _, _]) dX11_source_57 rfl rfl (Nat.le_of_ble_eq_true rfl) (by decide) ?_
      refine q_iload_n dX11_source_59 rfl ?_
      refine q_bipush (v := 7) dX11_source_60 (by decide) ?_
      refine q_icmp_ne 74 dX11_source_62 (by decide) (fun c62 => ?_) (fun c62 => absurd c62 h7)
      refine q_aconst_null dX11_source_74 ?_
      refine q_astoreN (ls' := [_, _, _, _, _, _, _, _, _, _, _, _, _]) dX11_source_75 rfl rfl (Nat.le_of_ble_eq_true rfl) (by decide) ?_
      refine q_iload_n dX11_source_77 rfl ?_
      refine q_iconst (v := 4) dX11_source_78 (by decide) ?_
      refine q_icmp_gt 91 dX11_source_79 (by decide) (fun c79 => absurd c79 (Int32.not_lt.mpr h4)) (fun c79 => ?_)
      refine q_aload dX11_source_82 rfl ?_
      refine q_ifnonnull 91 dX11_source_84 (by decide) ?_
      refine q_iconst (v := 0) dX11_source_91 (by decide) ?_
      refine q_istore (ls' := [_, _, _, _, _, _, _, _, _, _, _, _, _]) dX11_source_92 rfl rfl (Nat.le_of_ble_eq_true rfl) (by decide) ?_
      refine q_iload_n dX11_source_94 rfl ?_
      refine q_bipush (v := 7) dX11_source_95 (by decide) ?_
      refine q_icmp_ne 109 dX11_source_97 (by decide) (fun c97 => ?_) (fun c97 => absurd c97 h7)
      refine q_iconst (v := 0) dX11_source_109 (by decide) ?_
      refine q_istore (ls' := [_, _, _, _, _, _, _, _, _, _, _, _, _]) dX11_source_110 rfl rfl (Nat.le_of_ble_eq_true rfl) (by decide) ?_
      refine q_aload dX11_source_112 rfl ?_
      refine q_ifnull dX11_source_114 ?_
      refine q_iload dX11_source_117 rfl ?_
      refine q_if_ne 127 dX11_source_119 (by decide) (fun c119 => absurd c119 (not_not_intro rfl)) (fun c119 => ?_)
      refine q_iload dX11_source_122 rfl ?_
      refine q_if_eq 129 dX11_source_124 (by decide) (fun c124 => ?_) (fun c124 => absurd c124 (not_not_intro rfl))
      exact hgo s1 t1 hs1 qs1 ht1 qt1
    · refine q_goto 57 dX11_source_53 (by decide) ?_
      refine q_astoreN (ls' := [_, _, _, _, _, _, _, _, _, _, _, _, _]) dX11_source_57 rfl rfl (Nat.le_of_ble_eq_true rfl) (by decide) ?_
      refine q_iload_n dX11_source_59 rfl ?_
      refine q_bipush (v := 7) dX11_source_60 (by decide) ?_
      refine q_icmp_ne 74 dX11_source_62 (by decide) (fun c62 => ?_) (fun c62 => absurd c62 h7)
      refine q_aconst_null dX11_source_74 ?_
      refine q_astoreN (ls' := [_, _, _, _, _, _, _, _, _, _, _, _, _]) dX11_source_75 rfl rfl (Nat.le_of_ble_eq_true rfl) (by decide) ?_
      refine q_iload_n dX11_source_77 rfl ?_
      refine q_iconst (v := 4) dX11_source_78 (by decide) ?_
      refine q_icmp_gt 91 dX11_source_79 (by decide) (fun c79 => absurd c79 (Int32.not_lt.mpr h4)) (fun c79 => ?_)
      refine q_aloadN dX11_source_82 rfl ?_
      refine q_ifnonnullN dX11_source_84 ?_
      refine q_iconst (v := 1) dX11_source_87 (by decide) ?_
      refine q_goto 92 dX11_source_88 (by decide) ?_
      refine q_istore (ls' := [_, _, _, _, _, _, _, _, _, _, _, _, _]) dX11_source_92 rfl rfl (Nat.le_of_ble_eq_true rfl) (by decide) ?_
      refine q_iload_n dX11_source_94 rfl ?_
      refine q_bipush (v := 7) dX11_source_95 (by decide) ?_
      refine q_icmp_ne 109 dX11_source_97 (by decide) (fun c97 => ?_) (fun c97 => absurd c97 h7)
      refine q_iconst (v := 0) dX11_source_109 (by decide) ?_
      refine q_istore (ls' := [_, _, _, _, _, _, _, _, _, _, _, _, _]) dX11_source_110 rfl rfl (Nat.le_of_ble_eq_true rfl) (by decide) ?_
      refine q_aload dX11_source_112 rfl ?_
      refine q_ifnull dX11_source_114 ?_
      refine q_iload dX11_source_117 rfl ?_
      refine q_if_ne 127 dX11_source_119 (by decide) (fun c119 => ?_) (fun c119 => absurd c119 (by decide))
      refine q_iconst (v := (-1)) dX11_source_127 (by decide) ?_
      exact q_ireturn dX11_source_128 rfl (by decide) (by decide) (hno (Or.inr nt1))
  · refine q_astoreN (ls' := [_, _, _, _, _, _, _, _, _, _, _, _, _]) dX11_source_41 rfl rfl (Nat.le_of_ble_eq_true rfl) (by decide) ?_
    refine q_iload_n dX11_source_43 rfl ?_
    refine q_iconst (v := 4) dX11_source_44 (by decide) ?_
    refine q_icmp_gt 56 dX11_source_45 (by decide) (fun c45 => absurd c45 (Int32.not_lt.mpr h4)) (fun c45 => ?_)
    first | refine q_aload_n dX11_source_48 rfl ?_ | refine q_aload_nN dX11_source_48 rfl ?_
    refine q_iload_n dX11_source_49 rfl ?_
    refine q_callV 10 dX11_source_50 mk_X11_141 rfl hx.1 (cc_sourceAt l G Z x nf ns af as σ h t) rfl np_X11_sourceAt (by decide) (by decide) (by decide) (Nat.le_of_ble_eq_true rfl) (kA (fun r50 Z50 h50 => ?_))
    obtain ⟨e50, h50⟩ := h50
    rw [e50]
    rcases h50 with ⟨t1, ht1, qt1, rfl⟩ | ⟨nt1, rfl⟩
    · refine q_goto 57 dX11_source_53 (by decide) ?_
      refine q_astore (ls' := [_, _, _, _, _, _, _, _, _, _, _, _, _]) dX11_source_57 rfl rfl (Nat.le_of_ble_eq_true rfl) (by decide) ?_
      refine q_iload_n dX11_source_59 rfl ?_
      refine q_bipush (v := 7) dX11_source_60 (by decide) ?_
      refine q_icmp_ne 74 dX11_source_62 (by decide) (fun c62 => ?_) (fun c62 => absurd c62 h7)
      refine q_aconst_null dX11_source_74 ?_
      refine q_astoreN (ls' := [_, _, _, _, _, _, _, _, _, _, _, _, _]) dX11_source_75 rfl rfl (Nat.le_of_ble_eq_true rfl) (by decide) ?_
      refine q_iload_n dX11_source_77 rfl ?_
      refine q_iconst (v := 4) dX11_source_78 (by decide) ?_
      refine q_icmp_gt 91 dX11_source_79 (by decide) (fun c79 => absurd c79 (Int32.not_lt.mpr h4)) (fun c79 => ?_)
      refine q_aload dX11_source_82 rfl ?_
      refine q_ifnonnull 91 dX11_source_84 (by decide) ?_
      refine q_iconst (v := 0) dX11_source_91 (by decide) ?_
      refine q_istore (ls' := [_, _, _, _, _, _, _, _, _, _, _, _, _]) dX11_source_92 rfl rfl (Nat.le_of_ble_eq_true rfl) (by decide) ?_
      refine q_iload_n dX11_source_94 rfl ?_
      refine q_bipush (v := 7) dX11_source_95 (by decide) ?_
      refine q_icmp_ne 109 dX11_source_97 (by decide) (fun c97 => ?_) (fun c97 => absurd c97 h7)
      refine q_iconst (v := 0) dX11_source_109 (by decide) ?_
      refine q_istore (ls' := [_, _, _, _, _, _, _, _, _, _, _, _, _]) dX11_source_110 rfl rfl (Nat.le_of_ble_eq_true rfl) (by decide) ?_
      refine q_aloadN dX11_source_112 rfl ?_
      refine q_ifnullN 127 dX11_source_114 (by decide) ?_
      refine q_iconst (v := (-1)) dX11_source_127 (by decide) ?_
      exact q_ireturn dX11_source_128 rfl (by decide) (by decide) (hno (Or.inl ns1))
    · refine q_goto 57 dX11_source_53 (by decide) ?_
      refine q_astoreN (ls' := [_, _, _, _, _, _, _, _, _, _, _, _, _]) dX11_source_57 rfl rfl (Nat.le_of_ble_eq_true rfl) (by decide) ?_
      refine q_iload_n dX11_source_59 rfl ?_
      refine q_bipush (v := 7) dX11_source_60 (by decide) ?_
      refine q_icmp_ne 74 dX11_source_62 (by decide) (fun c62 => ?_) (fun c62 => absurd c62 h7)
      refine q_aconst_null dX11_source_74 ?_
      refine q_astoreN (ls' := [_, _, _, _, _, _, _, _, _, _, _, _, _]) dX11_source_75 rfl rfl (Nat.le_of_ble_eq_true rfl) (by decide) ?_
      refine q_iload_n dX11_source_77 rfl ?_
      refine q_iconst (v := 4) dX11_source_78 (by decide) ?_
      refine q_icmp_gt 91 dX11_source_79 (by decide) (fun c79 => absurd c79 (Int32.not_lt.mpr h4)) (fun c79 => ?_)
      refine q_aloadN dX11_source_82 rfl ?_
      refine q_ifnonnullN dX11_source_84 ?_
      refine q_iconst (v := 1) dX11_source_87 (by decide) ?_
      refine q_goto 92 dX11_source_88 (by decide) ?_
      refine q_istore (ls' := [_, _, _, _, _, _, _, _, _, _, _, _, _]) dX11_source_92 rfl rfl (Nat.le_of_ble_eq_true rfl) (by decide) ?_
      refine q_iload_n dX11_source_94 rfl ?_
      refine q_bipush (v := 7) dX11_source_95 (by decide) ?_
      refine q_icmp_ne 109 dX11_source_97 (by decide) (fun c97 => ?_) (fun c97 => absurd c97 h7)
      refine q_iconst (v := 0) dX11_source_109 (by decide) ?_
      refine q_istore (ls' := [_, _, _, _, _, _, _, _, _, _, _, _, _]) dX11_source_110 rfl rfl (Nat.le_of_ble_eq_true rfl) (by decide) ?_
      refine q_aloadN dX11_source_112 rfl ?_
      refine q_ifnullN 127 dX11_source_114 (by decide) ?_
      refine q_iconst (v := (-1)) dX11_source_127 (by decide) ?_
      exact q_ireturn dX11_source_128 rfl (by decide) (by decide) (hno (Or.inl ns1))
set_option maxHeartbeats 600000 in
set_option maxRecDepth 100000 in
theorem src_36_pass (l : Launch) (G : Gt) (M : Mt) (Z : Zt) (x nf ns : Nat) (af as : Nat → Nat) (σ : St) (h : CR Z x σ af as nf ns) (so s t a n : Int32) (v : Int64) (h4 : ¬ so ≤ 4) (h7 : so = 7) (P : Int32 → Zt → Prop) (hgo : ∀ s1 f1, s1 < ns → s = nI s1 → f1 < nf → a = nI f1 → Jd l G YX11_source (6, 2, 13) M Z 0 0 (Qm G (6, 2, 13) M (ΦI P)) 129 [some (.ref x), some (.int so), some (.int s), some (.int t), some (.int a), some (.int n), some (.long v), none, some (.ref (as s1)), some .null, some (.ref (af f1)), some (.int 0), some (.int 0)] []) (hno : ((s < 0 ∨ ¬ s < nI ns) ∨ (a < 0 ∨ ¬ a < nI nf)) → P (-1) Z) : Jd l G YX11_source (6, 2, 13) M Z 0 0 (Qm G (6, 2, 13) M (ΦI P)) 36 [some (.ref x), some (.int so), some (.int s), some (.int t), some (.int a), some (.int n), some (.long v), none, none, none, none, none, none] [] := by
  have hx := h.1.1.1
  have hT := h.2.2.2.2.1
  have hs20 := hT.2.2.2.1
  have hN := h.2.2.2.2.2.2
  first | refine q_aload_n dX11_source_36 rfl ?_ | refine q_aload_nN dX11_source_36 rfl ?_
  refine q_iload_n dX11_source_37 rfl ?_
  refine q_callV 10 dX11_source_38 mk_X11_141 rfl hx.1 (cc_sourceAt l G Z x nf ns af as σ h s) rfl np_X11_sourceAt (by decide) (by decide) (by decide) (Nat.le_of_ble_eq_true rfl) (kA (fun r38 Z38 h38 => ?_))
  obtain ⟨e38, h38⟩ := h38
  rw [e38]
  rcases h38 with ⟨s1, hs1, qs1, rfl⟩ | ⟨ns1, rfl⟩
  · refine q_astore (ls' := [_, _, _, _, _, _, _, _, _, _, _, _, _]) dX11_source_41 rfl rfl (Nat.le_of_ble_eq_true rfl) (by decide) ?_
    refine q_iload_n dX11_source_43 rfl ?_
    refine q_iconst (v := 4) dX11_source_44 (by decide) ?_
    refine q_icmp_gt 56 dX11_source_45 (by decide) (fun c45 => ?_) (fun c45 => absurd c45 (not_not_intro (Int32.not_le.mp h4)))
    refine q_aconst_null dX11_source_56 ?_
    refine q_astoreN (ls' := [_, _, _, _, _, _, _, _, _, _, _, _, _]) dX11_source_57 rfl rfl (Nat.le_of_ble_eq_true rfl) (by decide) ?_
    refine q_iload_n dX11_source_59 rfl ?_
    refine q_bipush (v := 7) dX11_source_60 (by decide) ?_
    refine q_icmp_ne 74 dX11_source_62 (by decide) (fun c62 => absurd c62 (not_not_intro h7)) (fun c62 => ?_)
    first | refine q_aload_n dX11_source_65 rfl ?_ | refine q_aload_nN dX11_source_65 rfl ?_
    refine q_iload dX11_source_66 rfl ?_
    refine q_callV 10 dX11_source_68 mk_X11_108 rfl hx.1 (cc_filterAt l G Z x nf ns af as σ h a) rfl np_X11_filterAt (by decide) (by decide) (by decide) (Nat.le_of_ble_eq_true rfl) (kA (fun r68 Z68 h68 => ?_))
    obtain ⟨e68, h68⟩ := h68
    rw [e68]
    rcases h68 with ⟨f1, hf1, qf1, rfl⟩ | ⟨nf1, rfl⟩
    · refine q_goto 75 dX11_source_71 (by decide) ?_
      refine q_astore (ls' := [_, _, _, _, _, _, _, _, _, _, _, _, _]) dX11_source_75 rfl rfl (Nat.le_of_ble_eq_true rfl) (by decide) ?_
      refine q_iload_n dX11_source_77 rfl ?_
      refine q_iconst (v := 4) dX11_source_78 (by decide) ?_
      refine q_icmp_gt 91 dX11_source_79 (by decide) (fun c79 => ?_) (fun c79 => absurd c79 (not_not_intro (Int32.not_le.mp h4)))
      refine q_iconst (v := 0) dX11_source_91 (by decide) ?_
      refine q_istore (ls' := [_, _, _, _, _, _, _, _, _, _, _, _, _]) dX11_source_92 rfl rfl (Nat.le_of_ble_eq_true rfl) (by decide) ?_
      refine q_iload_n dX11_source_94 rfl ?_
      refine q_bipush (v := 7) dX11_source_95 (by decide) ?_
      refine q_icmp_ne 109 dX11_source_97 (by decide) (fun c97 => absurd c97 (not_not_intro h7)) (fun c97 => ?_)
      refine q_aload dX11_source_100 rfl ?_
      refine q_ifnonnull 109 dX11_source_102 (by decide) ?_
      refine q_iconst (v := 0) dX11_source_109 (by decide) ?_
      refine q_istore (ls' := [_, _, _, _, _, _, _, _, _, _, _, _, _]) dX11_source_110 rfl rfl (Nat.le_of_ble_eq_true rfl) (by decide) ?_
      refine q_aload dX11_source_112 rfl ?_
      refine q_ifnull dX11_source_114 ?_
      refine q_iload dX11_source_117 rfl ?_
      refine q_if_ne 127 dX11_source_119 (by decide) (fun c119 => absurd c119 (not_not_intro rfl)) (fun c119 => ?_)
      refine q_iload dX11_source_122 rfl ?_
      refine q_if_eq 129 dX11_source_124 (by decide) (fun c124 => ?_) (fun c124 => absurd c124 (not_not_intro rfl))
      exact hgo s1 f1 hs1 qs1 hf1 qf1
    · refine q_goto 75 dX11_source_71 (by decide) ?_
      refine q_astoreN (ls' := [_, _, _, _, _, _, _, _, _, _, _, _, _]) dX11_source_75 rfl rfl (Nat.le_of_ble_eq_true rfl) (by decide) ?_
      refine q_iload_n dX11_source_77 rfl ?_
      refine q_iconst (v := 4) dX11_source_78 (by decide) ?_
      refine q_icmp_gt 91 dX11_source_79 (by decide) (fun c79 => ?_) (fun c79 => absurd c79 (not_not_intro (Int32.not_le.mp h4)))
      refine q_iconst (v := 0) dX11_source_91 (by decide) ?_
      refine q_istore (ls' := [_, _, _, _, _, _, _, _, _, _, _, _, _]) dX11_source_92 rfl rfl (Nat.le_of_ble_eq_true rfl) (by decide) ?_
      refine q_iload_n dX11_source_94 rfl ?_
      refine q_bipush (v := 7) dX11_source_95 (by decide) ?_
      refine q_icmp_ne 109 dX11_source_97 (by decide) (fun c97 => absurd c97 (not_not_intro h7)) (fun c97 => ?_)
      refine q_aloadN dX11_source_100 rfl ?_
      refine q_ifnonnullN dX11_source_102 ?_
      refine q_iconst (v := 1) dX11_source_105 (by decide) ?_
      refine q_goto 110 dX11_source_106 (by decide) ?_
      refine q_istore (ls' := [_, _, _, _, _, _, _, _, _, _, _, _, _]) dX11_source_110 rfl rfl (Nat.le_of_ble_eq_true rfl) (by decide) ?_
      refine q_aload dX11_source_112 rfl ?_
      refine q_ifnull dX11_source_114 ?_
      refine q_iload dX11_source_117 rfl ?_
      refine q_if_ne 127 dX11_source_119 (by decide) (fun c119 => absurd c119 (not_not_intro rfl)) (fun c119 => ?_)
      refine q_iload dX11_source_122 rfl ?_
      refine q_if_eq 129 dX11_source_124 (by decide) (fun c124 => absurd c124 (by decide)) (fun c124 => ?_)
      refine q_iconst (v := (-1)) dX11_source_127 (by decide) ?_
      exact q_ireturn dX11_source_128 rfl (by decide) (by decide) (hno (Or.inr nf1))
  · refine q_astoreN (ls' := [_, _, _, _, _, _, _, _, _, _, _, _, _]) dX11_source_41 rfl rfl (Nat.le_of_ble_eq_true rfl) (by decide) ?_
    refine q_iload_n dX11_source_43 rfl ?_
    refine q_iconst (v := 4) dX11_source_44 (by decide) ?_
    refine q_icmp_gt 56 dX11_source_45 (by decide) (fun c45 => ?_) (fun c45 => absurd c45 (not_not_intro (Int32.not_le.mp h4)))
    refine q_aconst_null dX11_source_56 ?_
    refine q_astoreN (ls' := [_, _, _, _, _, _, _, _, _, _, _, _, _]) dX11_source_57 rfl rfl (Nat.le_of_ble_eq_true rfl) (by decide) ?_
    refine q_iload_n dX11_source_59 rfl ?_
    refine q_bipush (v := 7) dX11_source_60 (by decide) ?_
    refine q_icmp_ne 74 dX11_source_62 (by decide) (fun c62 => absurd c62 (not_not_intro h7)) (fun c62 => ?_)
    first | refine q_aload_n dX11_source_65 rfl ?_ | refine q_aload_nN dX11_source_65 rfl ?_
    refine q_iload dX11_source_66 rfl ?_
    refine q_callV 10 dX11_source_68 mk_X11_108 rfl hx.1 (cc_filterAt l G Z x nf ns af as σ h a) rfl np_X11_filterAt (by decide) (by decide) (by decide) (Nat.le_of_ble_eq_true rfl) (kA (fun r68 Z68 h68 => ?_))
    obtain ⟨e68, h68⟩ := h68
    rw [e68]
    rcases h68 with ⟨f1, hf1, qf1, rfl⟩ | ⟨nf1, rfl⟩
    · refine q_goto 75 dX11_source_71 (by decide) ?_
      refine q_astore (ls' := [_, _, _, _, _, _, _, _, _, _, _, _, _]) dX11_source_75 rfl rfl (Nat.le_of_ble_eq_true rfl) (by decide) ?_
      refine q_iload_n dX11_source_77 rfl ?_
      refine q_iconst (v := 4) dX11_source_78 (by decide) ?_
      refine q_icmp_gt 91 dX11_source_79 (by decide) (fun c79 => ?_) (fun c79 => absurd c79 (not_not_intro (Int32.not_le.mp h4)))
      refine q_iconst (v := 0) dX11_source_91 (by decide) ?_
      refine q_istore (ls' := [_, _, _, _, _, _, _, _, _, _, _, _, _]) dX11_source_92 rfl rfl (Nat.le_of_ble_eq_true rfl) (by decide) ?_
      refine q_iload_n dX11_source_94 rfl ?_
      refine q_bipush (v := 7) dX11_source_95 (by decide) ?_
      refine q_icmp_ne 109 dX11_source_97 (by decide) (fun c97 => absurd c97 (not_not_intro h7)) (fun c97 => ?_)
      refine q_aload dX11_source_100 rfl ?_
      refine q_ifnonnull 109 dX11_source_102 (by decide) ?_
      refine q_iconst (v := 0) dX11_source_109 (by decide) ?_
      refine q_istore (ls' := [_, _, _, _, _, _, _, _, _, _, _, _, _]) dX11_source_110 rfl rfl (Nat.le_of_ble_eq_true rfl) (by decide) ?_
      refine q_aloadN dX11_source_112 rfl ?_
      refine q_ifnullN 127 dX11_source_114 (by decide) ?_
      refine q_iconst (v := (-1)) dX11_source_127 (by decide) ?_
      exact q_ireturn dX11_source_128 rfl (by decide) (by decide) (hno (Or.inl ns1))
    · refine q_goto 75 dX11_source_71 (by decide) ?_
      refine q_astoreN (ls' := [_, _, _, _, _, _, _, _, _, _, _, _, _]) dX11_source_75 rfl rfl (Nat.le_of_ble_eq_true rfl) (by decide) ?_
      refine q_iload_n dX11_source_77 rfl ?_
      refine q_iconst (v := 4) dX11_source_78 (by decide) ?_
      refine q_icmp_gt 91 dX11_source_79 (by decide) (fun c79 => ?_) (fun c79 => absurd c79 (not_not_intro (Int32.not_le.mp h4)))
      refine q_iconst (v := 0) dX11_source_91 (by decide) ?_
      refine q_istore (ls' := [_, _, _, _, _, _, _, _, _, _, _, _, _]) dX11_source_92 rfl rfl (Nat.le_of_ble_eq_true rfl) (by decide) ?_
      refine q_iload_n dX11_source_94 rfl ?_
      refine q_bipush (v := 7) dX11_source_95 (by decide) ?_
      refine q_icmp_ne 109 dX11_source_97 (by decide) (fun c97 => absurd c97 (not_not_intro h7)) (fun c97 => ?_)
      refine q_aloadN dX11_source_100 rfl ?_
      refine q_ifnonnullN dX11_source_102 ?_
      refine q_iconst (v := 1) dX11_source_105 (by decide) ?_
      refine q_goto 110 dX11_source_106 (by decide) ?_
      refine q_istore (ls' := [_, _, _, _, _, _, _, _, _, _, _, _, _]) dX11_source_110 rfl rfl (Nat.le_of_ble_eq_true rfl) (by decide) ?_
      refine q_aloadN dX11_source_112 rfl ?_
      refine q_ifnullN 127 dX11_source_114 (by decide) ?_
      refine q_iconst (v := (-1)) dX11_source_127 (by decide) ?_
      exact q_ireturn dX11_source_128 rfl (by decide) (by decide) (hno (Or.inl ns1))
