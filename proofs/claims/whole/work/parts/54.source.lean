def plnC (σ : St) (so s : Int32) : Prop := (so = 5 ∨ so = 8) ∧ σ.1 24 s.toNatClampNeg = 1
noncomputable def plnF (σ : St) (so s : Int32) : Int64 := if so = 5 then σ.2 25 s.toNatClampNeg + (if σ.2 27 s.toNatClampNeg = 0 then 0 else (σ.2 27 s.toNatClampNeg - 1) * σ.2 26 s.toNatClampNeg) else σ.2 25 s.toNatClampNeg
noncomputable def plnT (σ : St) (so s n : Int32) : Int64 := if so = 5 then -σ.2 26 s.toNatClampNeg else σ.2 26 s.toNatClampNeg * n.toInt64
noncomputable def plnN (σ : St) (so s n : Int32) : Int64 := if so = 5 then σ.2 27 s.toNatClampNeg else (if σ.2 27 s.toNatClampNeg = 0 then 0 else (σ.2 27 s.toNatClampNeg - 1) / n.toInt64 + 1)
noncomputable def sdD (σ : St) (so s t : Int32) : Int32 := if so ≤ 4 ∧ σ.1 23 s.toNatClampNeg + 1 < σ.1 23 t.toNatClampNeg + 1 then σ.1 23 t.toNatClampNeg + 1 else σ.1 23 s.toNatClampNeg + 1
noncomputable def fromS (σ : St) (so s t a n : Int32) (v : Int64) : Int32 × St := if (so = 5 ∨ so = 8) ∧ σ.1 24 s.toNatClampNeg = 1 then keepS σ so s t a n (sdD σ so s t) 1 v (plnF σ so s) (plnT σ so s n) (plnN σ so s n) else keepS σ so s t a n (sdD σ so s t) 0 v (σ.2 25 (σ.1 16 0).toNatClampNeg) (σ.2 26 (σ.1 16 0).toNatClampNeg) (σ.2 27 (σ.1 16 0).toNatClampNeg)
noncomputable def srcS (σ : St) (so s t a n : Int32) (v : Int64) : Int32 × St := if (so < 2 ∨ ¬ so ≤ 9) ∨ ¬ (if so = 6 then ¬ n < 0 ∧ n ≤ 200 else if so = 8 then ¬ n < 1 ∧ n ≤ 200 else True) then (-2, σ) else if so = 9 then (if a < 0 ∨ ¬ a < 6 then (-2, σ) else keepS σ 9 s t a n 1 0 v (σ.2 25 (σ.1 16 0).toNatClampNeg) (σ.2 26 (σ.1 16 0).toNatClampNeg) (σ.2 27 (σ.1 16 0).toNatClampNeg)) else if ((s < 0 ∨ ¬ s < σ.1 16 0) ∨ (so ≤ 4 ∧ (t < 0 ∨ ¬ t < σ.1 16 0)) ∨ (so = 7 ∧ (a < 0 ∨ ¬ a < σ.1 6 0))) then (-1, σ) else fromS σ so s t a n v
theorem sdD_one {σ : St} {so t : Int32} {i d : Nat} (hk : ¬ so ≤ 4) (hi : i < 2 ^ 31) (he : σ.1 23 i = nI d) : sdD σ so (nI i) t = nI (d + 1) := by
  unfold sdD
  rw [if_neg (fun z => hk z.1), nI_clamp hi, he, nI_1]
theorem sdD_two {σ : St} {so : Int32} {i j d e : Nat} (hk : so ≤ 4) (hi : i < 2 ^ 31) (hj : j < 2 ^ 31) (he : σ.1 23 i = nI d) (hf : σ.1 23 j = nI e) (hd : d ≤ 6) (hh : e ≤ 6) : sdD σ so (nI i) (nI j) = nI (if d < e then e + 1 else d + 1) := by
  unfold sdD
  rw [nI_clamp hi, nI_clamp hj, he, hf, nI_1, nI_1]
  by_cases c : d < e
  · rw [if_pos ⟨hk, nI_lt (by omega) (by omega)⟩, if_pos c]
  · rw [if_neg (fun z => absurd z.2 (Int32.not_lt.mpr (nI_le (by omega) (by omega)))), if_neg c]
theorem fromS_pl {σ : St} {so s t a n : Int32} {v : Int64} (h : plnC σ so s) : fromS σ so s t a n v = keepS σ so s t a n (sdD σ so s t) 1 v (plnF σ so s) (plnT σ so s n) (plnN σ so s n) := by unfold fromS; unfold plnC at h; rw [if_pos h]
theorem fromS_np {σ : St} {so s t a n : Int32} {v : Int64} (h : ¬ plnC σ so s) : fromS σ so s t a n v = keepS σ so s t a n (sdD σ so s t) 0 v (σ.2 25 (σ.1 16 0).toNatClampNeg) (σ.2 26 (σ.1 16 0).toNatClampNeg) (σ.2 27 (σ.1 16 0).toNatClampNeg) := by unfold fromS; unfold plnC at h; rw [if_neg h]
theorem so_28 {so : Int32} (hr : ¬ (so < 2 ∨ ¬ so ≤ 9)) (h9 : ¬ so = 9) : 2 ≤ so ∧ so ≤ 8 := by
  have a1 : 2 ≤ so := Int32.not_lt.mp (fun z => hr (Or.inl z))
  have a2 : so ≤ 9 := Classical.byContradiction (fun z => hr (Or.inr z))
  refine ⟨a1, ?_⟩
  have b2 := Int32.le_iff_toInt_le.mp a2
  have b9 : so.toInt ≠ 9 := fun e => h9 (Int32.toInt_inj.mp e)
  have i8 : (8 : Int32).toInt = 8 := by decide
  have i9 : (9 : Int32).toInt = 9 := by decide
  exact Int32.le_iff_toInt_le.mpr (by omega)
theorem src_good {σ : St} {so s t a n : Int32} {v : Int64} {nf ns : Nat} (hr : ¬ (so < 2 ∨ ¬ so ≤ 9)) (hfit : (if so = 6 then ¬ n < 0 ∧ n ≤ 200 else if so = 8 then ¬ n < 1 ∧ n ≤ 200 else True)) (h9 : ¬ so = 9) (h16 : σ.1 16 0 = nI ns) (h6 : σ.1 6 0 = nI nf) (hs : ¬ (s < 0 ∨ ¬ s < nI ns)) (ht : so ≤ 4 → ¬ (t < 0 ∨ ¬ t < nI ns)) (ha : so = 7 → ¬ (a < 0 ∨ ¬ a < nI nf)) : srcS σ so s t a n v = fromS σ so s t a n v := by
  unfold srcS
  rw [if_neg (fun z => z.elim hr (fun y => y hfit)), if_neg h9, h16, h6, if_neg (fun z => z.elim hs (fun y => y.elim (fun w => ht w.1 w.2) (fun w => ha w.1 w.2)))]
theorem in_ok {k m : Nat} (hm : m ≤ 20) (h : k < m) : ¬ (nI k < 0 ∨ ¬ nI k < nI m) := fun z => z.elim (ix_in (by omega) h).1 (fun y => y (ix_in (by omega) h).2)
set_option maxHeartbeats 600000 in
theorem cs_two (l : Launch) (G : Gt) (M : Mt) (Z : Zt) (x nf ns : Nat) (af as : Nat → Nat) (σ : St) (h : CR Z x σ af as nf ns) (so s t a n : Int32) (v : Int64) (hr : ¬ (so < 2 ∨ ¬ so ≤ 9)) (hfit : (if so = 6 then ¬ n < 0 ∧ n ≤ 200 else if so = 8 then ¬ n < 1 ∧ n ≤ 200 else True)) (h9 : ¬ so = 9) (h4 : so ≤ 4) (h7 : ¬ so = 7) : Jd l G YX11_source (6, 2, 13) M Z 0 0 (Qm G (6, 2, 13) M (ΦI (fun r Z1 => ∃ as1 ns1, r = (srcS σ so s t a n v).1 ∧ CR Z1 x (srcS σ so s t a n v).2 af as1 nf ns1 ∧ KM x Z Z1))) 36 [some (.ref x), some (.int so), some (.int s), some (.int t), some (.int a), some (.int n), some (.long v), none, none, none, none, none, none] [] := by
  have t3 := h.2.2.2.2.1.2.2.1
  have t4 := h.2.2.2.2.1.2.2.2.1
  have n6 := h.1.2.2.2.2.1
  have n20 := h.1.2.2.2.2.2.1
  have hso : 2 ≤ so ∧ so ≤ 8 := so_28 hr h9
  refine src_36_two l G M Z x nf ns af as σ h so s t a n v h4 h7 (fun r Z1 => ∃ as1 ns1, r = (srcS σ so s t a n v).1 ∧ CR Z1 x (srcS σ so s t a n v).2 af as1 nf ns1 ∧ KM x Z Z1) (fun s1 t1 hs1 qs1 ht1 qt1 => ?_) (fun hb => by unfold srcS; rw [if_neg (fun z => z.elim hr (fun y => y hfit)), if_neg h9, t3, n6, if_pos (hb.elim Or.inl (fun y => Or.inr (Or.inl ⟨h4, y⟩)))]; exact ⟨as, ns, rfl, h, KM.rf x Z⟩)
  obtain ⟨-, ⟨d1, l1, g1, m1, f1⟩, -⟩ := h.src hs1
  obtain ⟨-, ⟨d2, l2, g2, m2, f2⟩, -⟩ := h.src ht1
  subst qs1 qt1
  obtain ⟨Θ, hc, hz⟩ := np_two l G Z x nf ns af as σ h so 0 a n v (σ.2 25 (σ.1 16 0).toNatClampNeg) (σ.2 26 (σ.1 16 0).toNatClampNeg) (σ.2 27 (σ.1 16 0).toNatClampNeg) s1 hs1 t1 ht1 d1 l1 m1 f1 d2 l2 m2 f2 hso hfit h4
  refine src_fin_two l G M Z x nf ns af as σ h so (nI s1) (nI t1) a n _ 0 v _ _ _ s1 t1 0 Θ hc hz _ (fun r Z1 hh => ?_)
  rw [src_good hr hfit h9 t3 n6 (in_ok t4 hs1) (fun _ => in_ok t4 ht1) (fun z => absurd z h7), fromS_np (fun z => z.1.elim (fun e => by rw [e] at h4; exact absurd h4 (by decide)) (fun e => by rw [e] at h4; exact absurd h4 (by decide))), sdD_two h4 (by omega) (by omega) m1 m2 l1 l2]
  exact hh
set_option maxHeartbeats 600000 in
theorem cs_pass (l : Launch) (G : Gt) (M : Mt) (Z : Zt) (x nf ns : Nat) (af as : Nat → Nat) (σ : St) (h : CR Z x σ af as nf ns) (so s t a n : Int32) (v : Int64) (hr : ¬ (so < 2 ∨ ¬ so ≤ 9)) (hfit : (if so = 6 then ¬ n < 0 ∧ n ≤ 200 else if so = 8 then ¬ n < 1 ∧ n ≤ 200 else True)) (h9 : ¬ so = 9) (h4 : ¬ so ≤ 4) (h7 : so = 7) : Jd l G YX11_source (6, 2, 13) M Z 0 0 (Qm G (6, 2, 13) M (ΦI (fun r Z1 => ∃ as1 ns1, r = (srcS σ so s t a n v).1 ∧ CR Z1 x (srcS σ so s t a n v).2 af as1 nf ns1 ∧ KM x Z Z1))) 36 [some (.ref x), some (.int so), some (.int s), some (.int t), some (.int a), some (.int n), some (.long v), none, none, none, none, none, none] [] := by
  have t3 := h.2.2.2.2.1.2.2.1
  have t4 := h.2.2.2.2.1.2.2.2.1
  have n6 := h.1.2.2.2.2.1
  have n20 := h.1.2.2.2.2.2.1
  have hso : 2 ≤ so ∧ so ≤ 8 := so_28 hr h9
  refine src_36_pass l G M Z x nf ns af as σ h so s t a n v h4 h7 (fun r Z1 => ∃ as1 ns1, r = (srcS σ so s t a n v).1 ∧ CR Z1 x (srcS σ so s t a n v).2 af as1 nf ns1 ∧ KM x Z Z1) (fun s1 f1 hs1 qs1 hf1 qf1 => ?_) (fun hb => by unfold srcS; rw [if_neg (fun z => z.elim hr (fun y => y hfit)), if_neg h9, t3, n6, if_pos (hb.elim Or.inl (fun y => Or.inr (Or.inr ⟨h7, y⟩)))]; exact ⟨as, ns, rfl, h, KM.rf x Z⟩)
  obtain ⟨-, ⟨d1, l1, g1, m1, e1⟩, -⟩ := h.src hs1
  subst qs1 qf1
  obtain ⟨Θ, hc, hz⟩ := np_pass l G Z x nf ns af as σ h so t 0 n v (σ.2 25 (σ.1 16 0).toNatClampNeg) (σ.2 26 (σ.1 16 0).toNatClampNeg) (σ.2 27 (σ.1 16 0).toNatClampNeg) s1 hs1 f1 hf1 d1 l1 m1 e1 hso hfit h7
  refine src_fin_pass l G M Z x nf ns af as σ h so (nI s1) t (nI f1) n _ 0 v _ _ _ s1 0 f1 Θ hc hz _ (fun r Z1 hh => ?_)
  rw [src_good hr hfit h9 t3 n6 (in_ok t4 hs1) (fun z => absurd z h4) (fun _ => in_ok n20 hf1), fromS_np (fun z => z.1.elim (fun e => by rw [e] at h7; exact absurd h7 (by decide)) (fun e => by rw [e] at h7; exact absurd h7 (by decide))), sdD_one h4 (by omega) m1]
  exact hh
set_option maxHeartbeats 600000 in
theorem cs_one (l : Launch) (G : Gt) (M : Mt) (Z : Zt) (x nf ns : Nat) (af as : Nat → Nat) (σ : St) (h : CR Z x σ af as nf ns) (so s t a n : Int32) (v : Int64) (hr : ¬ (so < 2 ∨ ¬ so ≤ 9)) (hfit : (if so = 6 then ¬ n < 0 ∧ n ≤ 200 else if so = 8 then ¬ n < 1 ∧ n ≤ 200 else True)) (h9 : ¬ so = 9) (h4 : ¬ so ≤ 4) (h7 : ¬ so = 7) : Jd l G YX11_source (6, 2, 13) M Z 0 0 (Qm G (6, 2, 13) M (ΦI (fun r Z1 => ∃ as1 ns1, r = (srcS σ so s t a n v).1 ∧ CR Z1 x (srcS σ so s t a n v).2 af as1 nf ns1 ∧ KM x Z Z1))) 36 [some (.ref x), some (.int so), some (.int s), some (.int t), some (.int a), some (.int n), some (.long v), none, none, none, none, none, none] [] := by
  have t3 := h.2.2.2.2.1.2.2.1
  have t4 := h.2.2.2.2.1.2.2.2.1
  have n6 := h.1.2.2.2.2.1
  have n20 := h.1.2.2.2.2.2.1
  have hso : 2 ≤ so ∧ so ≤ 8 := so_28 hr h9
  refine src_36_one l G M Z x nf ns af as σ h so s t a n v h4 h7 (fun r Z1 => ∃ as1 ns1, r = (srcS σ so s t a n v).1 ∧ CR Z1 x (srcS σ so s t a n v).2 af as1 nf ns1 ∧ KM x Z Z1) (fun s1 hs1 qs1 => ?_) (fun hb => by unfold srcS; rw [if_neg (fun z => z.elim hr (fun y => y hfit)), if_neg h9, t3, n6, if_pos (Or.inl hb)]; exact ⟨as, ns, rfl, h, KM.rf x Z⟩)
  obtain ⟨-, ⟨d1, l1, g1, m1, f1⟩, pl⟩ := h.src hs1
  subst qs1
  have key : (zF Z 2 (as s1) = .null ∨ ∃ q, zF Z 2 (as s1) = .ref q ∧ ¬ so = 5 ∧ ¬ so = 8) → ¬ plnC σ so (nI s1) → Jd l G YX11_source (6, 2, 13) M Z 0 0 (Qm G (6, 2, 13) M (ΦI (fun r Z1 => ∃ as1 ns1, r = (srcS σ so (nI s1) t a n v).1 ∧ CR Z1 x (srcS σ so (nI s1) t a n v).2 af as1 nf ns1 ∧ KM x Z Z1))) 129 [some (.ref x), some (.int so), some (.int (nI s1)), some (.int t), some (.int a), some (.int n), some (.long v), none, some (.ref (as s1)), some .null, some .null, some (.int 0), some (.int 0)] [] := fun hp hn => by
    obtain ⟨Θ, hc, hz⟩ := np_one l G Z x nf ns af as σ h so t a n v (σ.2 25 (σ.1 16 0).toNatClampNeg) (σ.2 26 (σ.1 16 0).toNatClampNeg) (σ.2 27 (σ.1 16 0).toNatClampNeg) s1 hs1 d1 l1 m1 f1 hso hfit h4 h7 hp
    refine src_fin_one l G M Z x nf ns af as σ h so (nI s1) t a n _ 0 v _ _ _ s1 0 0 Θ hc hz _ (fun r Z1 hh => ?_)
    rw [src_good hr hfit h9 t3 n6 (in_ok t4 hs1) (fun z => absurd z h4) (fun z => absurd z h7), fromS_np hn, sdD_one h4 (by omega) m1]
    exact hh
  rcases pl with ⟨p1, p2⟩ | ⟨p1, q, q1, q2⟩
  · exact key (Or.inl p2) (fun z => by have := z.2; rw [nI_clamp (by omega), p1] at this; exact absurd this (by decide))
  · by_cases e5 : so = 5
    · subst e5
      obtain ⟨Θ, hc, hz⟩ := pl_5 l G Z x nf ns af as σ h t a n v s1 q hs1 d1 l1 f1 q1 q2
      refine src_fin_one l G M Z x nf ns af as σ h 5 (nI s1) t a n _ 1 v _ _ _ s1 0 0 Θ hc hz _ (fun r Z1 hh => ?_)
      rw [src_good hr hfit h9 t3 n6 (in_ok t4 hs1) (fun z => absurd z h4) (fun z => absurd z h7), fromS_pl ⟨Or.inl rfl, by rw [nI_clamp (by omega)]; exact p1⟩, sdD_one h4 (by omega) m1]
      unfold plnF plnT plnN
      rw [nI_clamp (by omega), if_pos rfl, if_pos rfl, if_pos rfl]
      exact hh
    by_cases e8 : so = 8
    · subst e8
      obtain ⟨Θ, hc, hz⟩ := pl_8 l G Z x nf ns af as σ h t a n v s1 q hs1 d1 l1 f1 q1 q2 (by rw [if_neg (by decide), if_pos rfl] at hfit; exact hfit)
      refine src_fin_one l G M Z x nf ns af as σ h 8 (nI s1) t a n _ 1 v _ _ _ s1 0 0 Θ hc hz _ (fun r Z1 hh => ?_)
      rw [src_good hr hfit h9 t3 n6 (in_ok t4 hs1) (fun z => absurd z h4) (fun z => absurd z h7), fromS_pl ⟨Or.inr rfl, by rw [nI_clamp (by omega)]; exact p1⟩, sdD_one h4 (by omega) m1]
      unfold plnF plnT plnN
      rw [nI_clamp (by omega), if_neg (by decide), if_neg (by decide), if_neg (by decide)]
      exact hh
    exact key (Or.inr ⟨q, q1, e5, e8⟩) (fun z => z.1.elim e5 e8)
set_option maxHeartbeats 600000 in
set_option maxRecDepth 100000 in
theorem cc_source (l : Launch) (G : Gt) (Z : Zt) (x nf ns : Nat) (af as : Nat → Nat) (σ : St) (h : CR Z x σ af as nf ns) (so s t a n : Int32) (v : Int64) : Ct l G YX11_source (6, 2, 13) Z [.ref x, .int so, .int s, .int t, .int a, .int n, .long v] (ΦI (fun r Z1 => ∃ as1 ns1, r = (srcS σ so s t a n v).1 ∧ CR Z1 x (srcS σ so s t a n v).2 af as1 nf ns1 ∧ KM x Z Z1)) := by
  refine ct_of [some (.ref x), some (.int so), some (.int s), some (.int t), some (.int a), some (.int n), some (.long v), none, none, none, none, none, none] (by decide +kernel) (Nat.le_of_ble_eq_true rfl) rfl (fun M => ?_)
  have hx := h.1.1.1
  refine q_iload_n dX11_source_0 rfl ?_
  refine q_iconst (v := 2) dX11_source_1 (by decide) ?_
  refine q_icmp_lt 20 dX11_source_2 (by decide) (fun c2 => ?_) (fun c2 => ?_)
  · refine q_bipush (v := (-2)) dX11_source_20 (by decide) ?_
    exact q_ireturn dX11_source_22 rfl (by decide) (by decide) (by unfold srcS; rw [if_pos (Or.inl (Or.inl c2))]; exact ⟨as, ns, rfl, h, KM.rf x Z⟩)
  · refine q_iload_n dX11_source_5 rfl ?_
    refine q_bipush (v := 9) dX11_source_6 (by decide) ?_
    refine q_icmp_gt 20 dX11_source_8 (by decide) (fun c8 => ?_) (fun c8 => ?_)
    · refine q_bipush (v := (-2)) dX11_source_20 (by decide) ?_
      exact q_ireturn dX11_source_22 rfl (by decide) (by decide) (by unfold srcS; rw [if_pos (Or.inl (Or.inr (Int32.not_le.mpr c8)))]; exact ⟨as, ns, rfl, h, KM.rf x Z⟩)
    · refine q_iload_n dX11_source_11 rfl ?_
      refine q_iload dX11_source_12 rfl ?_
      refine q_callS dX11_source_14 mk_X11_158 (cc_countFits l G Z so n) rfl np_X11_countFits (by decide) (by decide) (by decide) (Nat.le_of_ble_eq_true rfl) (kI (fun r14 Z14 h14 => ?_))
      obtain ⟨e14, h14⟩ := h14
      rw [e14]
      refine q_if_ne 23 dX11_source_17 (by decide) (fun c17 => ?_) (fun c17 => ?_)
      · refine q_iload_n dX11_source_23 rfl ?_
        refine q_bipush (v := 9) dX11_source_24 (by decide) ?_
        refine q_icmp_ne 36 dX11_source_26 (by decide) (fun c26 => ?_) (fun c26 => ?_)
        · have hr : ¬ (so < 2 ∨ ¬ so ≤ 9) := (fun z => z.elim c2 (fun y => y (Int32.not_lt.mp c8)))
          have hfit := rb_t h14 c17
          by_cases h4 : so ≤ 4
          · exact cs_two l G M Z x nf ns af as σ h so s t a n v hr hfit c26 h4 (fun e => by rw [e] at h4; exact absurd h4 (by decide))
          by_cases h7 : so = 7
          · exact cs_pass l G M Z x nf ns af as σ h so s t a n v hr hfit c26 h4 h7
          exact cs_one l G M Z x nf ns af as σ h so s t a n v hr hfit c26 h4 h7
        · first | refine q_aload_n dX11_source_29 rfl ?_ | refine q_aload_nN dX11_source_29 rfl ?_
          refine q_iload dX11_source_30 rfl ?_
          refine q_callV 10 dX11_source_32 mk_X11_162 rfl hx.1 (cc_sourceOfShelf l G Z x nf ns af as σ h a s t n v (σ.2 25 (σ.1 16 0).toNatClampNeg) (σ.2 26 (σ.1 16 0).toNatClampNeg) (σ.2 27 (σ.1 16 0).toNatClampNeg)) rfl np_X11_sourceOfShelf (by decide) (by decide) (by decide) (Nat.le_of_ble_eq_true rfl) (kI (fun r32 Z32 h32 => ?_))
          exact q_ireturn dX11_source_35 rfl (by decide) (by decide) (by unfold srcS; rw [if_neg (fun z => z.elim (fun z => z.elim c2 (fun y => y (Int32.not_lt.mp c8))) (fun y => y (rb_t h14 c17))), if_pos c26]; exact h32)
      · refine q_bipush (v := (-2)) dX11_source_20 (by decide) ?_
        exact q_ireturn dX11_source_22 rfl (by decide) (by decide) (by unfold srcS; rw [if_pos (Or.inr (rb_f h14 c17))]; exact ⟨as, ns, rfl, h, KM.rf x Z⟩)
