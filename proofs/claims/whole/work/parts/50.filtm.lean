theorem fOb.cl {Z : Zt} {x : Nat} {σ : St} {af : Nat → Nat} {f : Nat} (h : fOb Z x σ af f) : ∃ cf, fOK RX3 1 cf 1 ∧ zK Z (af f) = cf + 1 := by
  rcases h.kd with e | e | e | e
  · exact ⟨1, fk_X3_1_1, e⟩
  · exact ⟨2, fk_X3_1_2, e⟩
  · exact ⟨3, fk_X3_1_3, e⟩
  · exact ⟨6, fk_X3_1_6, e⟩
theorem addF_11n (σ : St) (n : Nat) (kd a b d : Int32) (v : Int64) {g : Nat} (hg : g ≠ n) : (addF σ n kd a b d v).1 11 g = σ.1 11 g := by rw [addF_1, if_neg (by omega), if_neg hg]
theorem made_newF {Z : Zt} {x nf a i d0 : Nat} {σ : St} {af af' : Nat → Nat} {kd b : Int32} {v : Int64} (ha : af' nf = a) (hag : ∀ g, g < nf → af' g = af g) (hx : x + 61 ≤ a) (hkd : 7 ≤ kd ∧ kd ≤ 11) (hi : i < nf) (hd1 : 1 ≤ d0) (hd6 : d0 ≤ 6) (hK : zK Z a = 3) (h0 : zF Z 0 a = .int (nI nf)) (h1 : zF Z 1 a = .int (nI d0)) (h2 : zF Z 2 a = .int kd) (h3 : zF Z 3 a = .ref (af i)) (hdi : dpt σ i < d0)
    (h4 : (8 ≤ kd ∧ kd ≤ 10) → ∃ h, h < nf ∧ b = nI h ∧ zF Z 4 a = .ref (af h) ∧ dpt σ h < d0) (h4n : ¬ (8 ≤ kd ∧ kd ≤ 10) → zF Z 4 a = .null) (h5 : zF Z 5 a = .int 0) : fOb Z x (addF σ nf kd (nI i) b (nI d0) v) af' nf ∧ fO5 Z (addF σ nf kd (nI i) b (nI d0) v) af' nf := by
  subst ha
  have n3 : ¬ (kd = 3 ∨ kd = 12) := fun z => by rcases z with e | e <;> rw [e] at hkd <;> exact absurd hkd (by decide)
  have n5 : ¬ kd = 5 := fun e => by rw [e] at hkd; exact absurd hkd (by decide)
  have dn : dpt (addF σ nf kd (nI i) b (nI d0) v) nf = d0 := by unfold dpt; rw [addF_11, nI_clamp (by omega)]
  have dg : ∀ g, g < nf → dpt (addF σ nf kd (nI i) b (nI d0) v) g = dpt σ g := fun g hg => by unfold dpt; rw [addF_11n _ _ _ _ _ _ _ (by omega)]
  unfold fOb fO5
  rw [addF_7, addF_8, addF_9, addF_11, addF_12, addF_10, dn]
  refine ⟨⟨⟨hx, h0, d0, hd6, hd1, rfl, h1⟩, fun z => absurd z n3, fun z => absurd z n5, fun _ => ⟨hK, h2, ⟨i, hi, rfl, by rw [hag i hi]; exact h3, by rw [dg i hi]; exact hdi⟩, fun z => ?_, h4n⟩, fun _ _ z => absurd hkd z⟩, fun _ => ⟨0, h5, fun _ => rfl⟩, fun _ => rfl⟩
  obtain ⟨g, g1, g2, g3, g4⟩ := h4 z
  exact ⟨g, g1, g2, by rw [hag g g1]; exact g3, by rw [dg g g1]; exact g4⟩
theorem num_newF {Z : Zt} {x nf a : Nat} {σ : St} {af' : Nat → Nat} {kd fa fb : Int32} {v : Int64} (ha : af' nf = a) (hx : x + 61 ≤ a) (n3 : ¬ (kd = 3 ∨ kd = 12)) (n5 : ¬ kd = 5) (nm : ¬ (7 ≤ kd ∧ kd ≤ 11)) (hK : zK Z a = 4) (h0 : zF Z 0 a = .int (nI nf)) (h1 : zF Z 1 a = .int 1) (h2 : zF Z 2 a = .int kd) (h3 : zF Z 3 a = .int fa) (h4 : zF Z 4 a = .long v) : fOb Z x (addF σ nf kd fa fb 1 v) af' nf ∧ fO5 Z (addF σ nf kd fa fb 1 v) af' nf := by
  subst ha
  unfold fOb fO5
  rw [addF_7, addF_8, addF_11, addF_12, addF_10]
  exact ⟨⟨⟨hx, h0, 1, by omega, by omega, rfl, h1⟩, fun z => absurd z n3, fun z => absurd z n5, fun z => absurd z nm, fun _ _ _ => ⟨hK, h2, h3, h4⟩⟩, fun z => absurd z nm, fun _ => rfl⟩
noncomputable def mdD (σ : St) (kd a b : Int32) : Int32 := if (8 ≤ kd ∧ kd ≤ 10) ∧ σ.1 11 a.toNatClampNeg + 1 < σ.1 11 b.toNatClampNeg + 1 then σ.1 11 b.toNatClampNeg + 1 else σ.1 11 a.toNatClampNeg + 1
noncomputable def madeS (σ : St) (kd a b : Int32) (v : Int64) : Int32 × St := if (a < 0 ∨ ¬ a < σ.1 6 0) ∨ ((8 ≤ kd ∧ kd ≤ 10) ∧ (b < 0 ∨ ¬ b < σ.1 6 0)) then (-1, σ) else keepF σ kd a b (mdD σ kd a b) v
theorem mdD_one {σ : St} {kd b : Int32} {i d : Nat} (hk : ¬ (8 ≤ kd ∧ kd ≤ 10)) (hi : i < 2 ^ 31) (he : σ.1 11 i = nI d) (hd : d ≤ 6) : mdD σ kd (nI i) b = nI (d + 1) := by
  unfold mdD
  rw [if_neg (fun z => hk z.1), nI_clamp hi, he, nI_1]
theorem mdD_two {σ : St} {kd : Int32} {i j d e : Nat} (hk : 8 ≤ kd ∧ kd ≤ 10) (hi : i < 2 ^ 31) (hj : j < 2 ^ 31) (he : σ.1 11 i = nI d) (hf : σ.1 11 j = nI e) (hd : d ≤ 6) (hh : e ≤ 6) : mdD σ kd (nI i) (nI j) = nI (if d < e then e + 1 else d + 1) := by
  unfold mdD
  rw [nI_clamp hi, nI_clamp hj, he, hf, nI_1, nI_1]
  by_cases c : d < e
  · rw [if_pos ⟨hk, nI_lt (by omega) (by omega)⟩, if_pos c]
  · rw [if_neg (fun z => absurd z.2 (Int32.not_lt.mpr (nI_le (by omega) (by omega)))), if_neg c]
theorem md_two {d e : Nat} (hd : d ≤ 6) (hh : e ≤ 6) : 1 + (if nI d < nI e then nI e else nI d) = nI (if d < e then e + 1 else d + 1) := by
  by_cases c : d < e
  · rw [if_pos (nI_lt (by omega) (by omega)), if_pos c, Int32.add_comm, nI_1]
  · rw [if_neg (Int32.not_lt.mpr (nI_le (by omega) (by omega))), if_neg c, Int32.add_comm, nI_1]
theorem md_one {d : Nat} (hd : d ≤ 6) : 1 + (if nI d < 0 then 0 else nI d) = nI (d + 1) := by
  rw [if_neg (nI_pos (by omega)), Int32.add_comm, nI_1]
theorem six_of {d : Nat} (hd : d ≤ 7) (h : nI d ≤ 6) : d ≤ 6 := by
  have e : d = 7 ∨ d ≤ 6 := by omega
  rcases e with rfl | e
  · exact absurd h (by decide)
  · exact e
set_option maxHeartbeats 600000 in
set_option maxRecDepth 100000 in
theorem fff_one (l : Launch) (G : Gt) (M : Mt) (Z : Zt) (x nf ns : Nat) (af as : Nat → Nat) (σ : St) (h : CR Z x σ af as nf ns) (kd a b : Int32) (v : Int64) (hkd : 7 ≤ kd ∧ kd ≤ 11) (hk : ¬ (8 ≤ kd ∧ kd ≤ 10)) : Jd l G YX11_filterOfFilters (3, 1, 6) M Z 0 0 (Qm G (3, 1, 6) M (ΦI (fun r Z1 => ∃ af1 nf1, r = (madeS σ kd a b v).1 ∧ CR Z1 x (madeS σ kd a b v).2 af1 as nf1 ns ∧ KM x Z Z1))) 23 [some (.ref x), some (.int kd), some (.int a), some (.int b), none, none, none] [.int 0] := by
  have hx := h.1.1.1
  have hT := h.2.2.2.2.1
  have hn20 := h.1.2.2.2.2.2.1
  have hn6 := h.1.2.2.2.2.1
  have hN := h.2.2.2.2.2.2
  refine q_istore (ls' := [_, _, _, _, _, _, _]) dX11_filterOfFilters_23 rfl rfl (Nat.le_of_ble_eq_true rfl) (by decide) ?_
  first | refine q_aload_n dX11_filterOfFilters_25 rfl ?_ | refine q_aload_nN dX11_filterOfFilters_25 rfl ?_
  refine q_iload_n dX11_filterOfFilters_26 rfl ?_
  refine q_callV 10 dX11_filterOfFilters_27 mk_X11_108 rfl hx.1 (cc_filterAt l G Z x nf ns af as σ h a) rfl np_X11_filterAt (by decide) (by decide) (by decide) (Nat.le_of_ble_eq_true rfl) (kA (fun r27 Z27 h27 => ?_))
  obtain ⟨e27, h27⟩ := h27
  rw [e27]
  rcases h27 with ⟨i, hi, rfl, rfl⟩ | ⟨ni, rfl⟩
  · obtain ⟨obi, -⟩ := h.1.2.2.2.2.2.2 i hi
    obtain ⟨cfi, oki, kki⟩ := obi.cl
    obtain ⟨di, li, gi, mi, fi⟩ := obi.1.2.2
    have ani : af i ≠ zN Z := Nat.ne_of_lt (h.afN hi)
    refine q_astore (ls' := [_, _, _, _, _, _, _]) dX11_filterOfFilters_30 rfl rfl (Nat.le_of_ble_eq_true rfl) (by decide) ?_
    refine q_iload dX11_filterOfFilters_32 rfl ?_
    refine q_if_eq 45 dX11_filterOfFilters_34 (by decide) (fun c34 => ?_) (fun c34 => absurd c34 (not_not_intro rfl))
    refine q_aconst_null dX11_filterOfFilters_45 ?_
    refine q_astoreN (ls' := [_, _, _, _, _, _, _]) dX11_filterOfFilters_46 rfl rfl (Nat.le_of_ble_eq_true rfl) (by decide) ?_
    refine q_aload dX11_filterOfFilters_48 rfl ?_
    refine q_ifnull dX11_filterOfFilters_50 ?_
    refine q_iload dX11_filterOfFilters_53 rfl ?_
    refine q_if_eq 65 dX11_filterOfFilters_55 (by decide) (fun c55 => ?_) (fun c55 => absurd c55 (not_not_intro rfl))
    first | refine q_aload_n dX11_filterOfFilters_65 rfl ?_ | refine q_aload_nN dX11_filterOfFilters_65 rfl ?_
    refine q_new dX11_filterOfFilters_66 nk_X11_235 rfl (by decide) (by decide) ?_
    refine q_dup dX11_filterOfFilters_69 rfl ?_
    first | refine q_aload_n dX11_filterOfFilters_70 rfl ?_ | refine q_aload_nN dX11_filterOfFilters_70 rfl ?_
    refine q_getf dX11_filterOfFilters_71 fk_X11_97_10 (by rw [zK_nO (by omega)]; exact hx.1) ((zF_nO (by omega)).trans hT.1) ?_
    refine q_iload_n dX11_filterOfFilters_74 rfl ?_
    refine q_aload dX11_filterOfFilters_75 rfl ?_
    refine q_aloadN dX11_filterOfFilters_77 rfl ?_
    refine q_callI dX11_filterOfFilters_79 mk_X11_237 rfl (c_X3_init_one l G _ (zN Z) (af i) cfi (nI nf) kd (nI di) zK_nO' oki ((zK_nO ani).trans kki) ((zF_nO ani).trans fi)) rfl np_X3_init (by decide) (by decide) (by decide) (Nat.le_of_ble_eq_true rfl) (kV (fun Z79 h79 => ?_))
    rw [md_one li] at h79
    generalize hdd : (di + 1) = dd at h79
    have hdb : 1 ≤ dd ∧ dd ≤ 7 ∧ di < dd := by rw [← hdd]; omega
    have F : ∀ k b, zF Z79 k b = _ := fun k b => by rw [h79, zF_sF, zF_sF, zF_sF, zF_sF, zF_sF]
    have hK79 : zK Z79 (zN Z) = 3 := by rw [h79, zK_sF, zK_sF, zK_sF, zK_sF, zK_sF]; exact zK_nO'
    have hD79 : zF Z79 1 (zN Z) = .int (nI dd) := by rw [F, if_neg (by omega), if_neg (by omega), if_neg (by omega), if_pos ⟨rfl, rfl⟩]
    have hFr : Fr (zN Z) Z Z79 := by
      rw [h79]
      exact (((((Fr_nO (Nat.le_refl _)).tr (Fr_sF (Nat.le_refl _))).tr (Fr_sF (Nat.le_refl _))).tr (Fr_sF (Nat.le_refl _))).tr (Fr_sF (Nat.le_refl _))).tr (Fr_sF (Nat.le_refl _))
    have hC := h.fr hFr
    have hkm := hFr.km hN
    have F5 : zF Z79 5 (zN Z) = .int 0 := by rw [F, if_neg (by omega), if_neg (by omega), if_neg (by omega), if_neg (by omega), if_neg (by omega), zF_nO']; rfl
    have hnew := fun h6 : nI dd ≤ 6 => made_newF (Z := Z79) (x := x) (nf := nf) (a := zN Z) (i := i) (d0 := dd) (σ := σ) (af := af) (af' := fun f => if f = nf then zN Z else af f) (kd := kd) (b := b) (v := v) (if_pos rfl) (fun g hg => if_neg (by omega)) hN hkd hi hdb.1 (six_of hdb.2.1 h6) hK79 (by rw [F, if_neg (by omega), if_neg (by omega), if_neg (by omega), if_neg (by omega), if_pos ⟨rfl, rfl⟩]) hD79 (by rw [F, if_neg (by omega), if_neg (by omega), if_pos ⟨rfl, rfl⟩]) (by rw [F, if_neg (by omega), if_pos ⟨rfl, rfl⟩]) (by unfold dpt; rw [mi, nI_clamp (by omega)]; omega) (fun z => absurd z hk) (fun _ => by rw [F, if_pos ⟨rfl, rfl⟩]) F5
    refine q_callV 10 dX11_filterOfFilters_82 mk_X11_104 rfl hC.1.1.1.1 (cc_keepFilter l G Z79 x nf ns af as σ hC (zN Z) 2 _ (nI dd) rfl (List.Mem.tail _ (List.Mem.head _)) fk_X11_257_2 hK79 hD79) rfl np_X11_keepFilter (by decide) (by decide) (by decide) (Nat.le_of_ble_eq_true rfl) (kI (fun r82 Z82 h82 => ?_))
    exact q_ireturn dX11_filterOfFilters_85 rfl (by decide) (by decide) (by unfold madeS; rw [hn6, if_neg (fun z => z.elim (fun y => y.elim (ix_in (by omega) hi).1 (fun y => y (ix_in (by omega) hi).2)) (fun y => hk y.1)), mdD_one hk (by omega) mi li, hdd]; exact filt_end h hC hkm hnew h82)
  · refine q_astoreN (ls' := [_, _, _, _, _, _, _]) dX11_filterOfFilters_30 rfl rfl (Nat.le_of_ble_eq_true rfl) (by decide) ?_
    refine q_iload dX11_filterOfFilters_32 rfl ?_
    refine q_if_eq 45 dX11_filterOfFilters_34 (by decide) (fun c34 => ?_) (fun c34 => absurd c34 (not_not_intro rfl))
    refine q_aconst_null dX11_filterOfFilters_45 ?_
    refine q_astoreN (ls' := [_, _, _, _, _, _, _]) dX11_filterOfFilters_46 rfl rfl (Nat.le_of_ble_eq_true rfl) (by decide) ?_
    refine q_aloadN dX11_filterOfFilters_48 rfl ?_
    refine q_ifnullN 63 dX11_filterOfFilters_50 (by decide) ?_
    refine q_iconst (v := (-1)) dX11_filterOfFilters_63 (by decide) ?_
    exact q_ireturn dX11_filterOfFilters_64 rfl (by decide) (by decide) (by unfold madeS; rw [hn6, if_pos (Or.inl ni)]; exact ⟨af, nf, rfl, h, KM.rf x Z⟩)
set_option maxHeartbeats 600000 in
set_option maxRecDepth 100000 in
theorem fff_two (l : Launch) (G : Gt) (M : Mt) (Z : Zt) (x nf ns : Nat) (af as : Nat → Nat) (σ : St) (h : CR Z x σ af as nf ns) (kd a b : Int32) (v : Int64) (hkd : 7 ≤ kd ∧ kd ≤ 11) (hk : (8 ≤ kd ∧ kd ≤ 10)) : Jd l G YX11_filterOfFilters (3, 1, 6) M Z 0 0 (Qm G (3, 1, 6) M (ΦI (fun r Z1 => ∃ af1 nf1, r = (madeS σ kd a b v).1 ∧ CR Z1 x (madeS σ kd a b v).2 af1 as nf1 ns ∧ KM x Z Z1))) 23 [some (.ref x), some (.int kd), some (.int a), some (.int b), none, none, none] [.int 1] := by
  have hx := h.1.1.1
  have hT := h.2.2.2.2.1
  have hn20 := h.1.2.2.2.2.2.1
  have hn6 := h.1.2.2.2.2.1
  have hN := h.2.2.2.2.2.2
  refine q_istore (ls' := [_, _, _, _, _, _, _]) dX11_filterOfFilters_23 rfl rfl (Nat.le_of_ble_eq_true rfl) (by decide) ?_
  first | refine q_aload_n dX11_filterOfFilters_25 rfl ?_ | refine q_aload_nN dX11_filterOfFilters_25 rfl ?_
  refine q_iload_n dX11_filterOfFilters_26 rfl ?_
  refine q_callV 10 dX11_filterOfFilters_27 mk_X11_108 rfl hx.1 (cc_filterAt l G Z x nf ns af as σ h a) rfl np_X11_filterAt (by decide) (by decide) (by decide) (Nat.le_of_ble_eq_true rfl) (kA (fun r27 Z27 h27 => ?_))
  obtain ⟨e27, h27⟩ := h27
  rw [e27]
  rcases h27 with ⟨i, hi, rfl, rfl⟩ | ⟨ni, rfl⟩
  · refine q_astore (ls' := [_, _, _, _, _, _, _]) dX11_filterOfFilters_30 rfl rfl (Nat.le_of_ble_eq_true rfl) (by decide) ?_
    refine q_iload dX11_filterOfFilters_32 rfl ?_
    refine q_if_eq 45 dX11_filterOfFilters_34 (by decide) (fun c34 => absurd c34 (by decide)) (fun c34 => ?_)
    first | refine q_aload_n dX11_filterOfFilters_37 rfl ?_ | refine q_aload_nN dX11_filterOfFilters_37 rfl ?_
    refine q_iload_n dX11_filterOfFilters_38 rfl ?_
    refine q_callV 10 dX11_filterOfFilters_39 mk_X11_108 rfl hx.1 (cc_filterAt l G Z x nf ns af as σ h b) rfl np_X11_filterAt (by decide) (by decide) (by decide) (Nat.le_of_ble_eq_true rfl) (kA (fun r39 Z39 h39 => ?_))
    obtain ⟨e39, h39⟩ := h39
    rw [e39]
    rcases h39 with ⟨j, hj, rfl, rfl⟩ | ⟨nj, rfl⟩
    · obtain ⟨obi, -⟩ := h.1.2.2.2.2.2.2 i hi
      obtain ⟨cfi, oki, kki⟩ := obi.cl
      obtain ⟨di, li, gi, mi, fi⟩ := obi.1.2.2
      have ani : af i ≠ zN Z := Nat.ne_of_lt (h.afN hi)
      obtain ⟨obj, -⟩ := h.1.2.2.2.2.2.2 j hj
      obtain ⟨cfj, okj, kkj⟩ := obj.cl
      obtain ⟨dj, lj, gj, mj, fj⟩ := obj.1.2.2
      have anj : af j ≠ zN Z := Nat.ne_of_lt (h.afN hj)
      refine q_goto 46 dX11_filterOfFilters_42 (by decide) ?_
      refine q_astore (ls' := [_, _, _, _, _, _, _]) dX11_filterOfFilters_46 rfl rfl (Nat.le_of_ble_eq_true rfl) (by decide) ?_
      refine q_aload dX11_filterOfFilters_48 rfl ?_
      refine q_ifnull dX11_filterOfFilters_50 ?_
      refine q_iload dX11_filterOfFilters_53 rfl ?_
      refine q_if_eq 65 dX11_filterOfFilters_55 (by decide) (fun c55 => absurd c55 (by decide)) (fun c55 => ?_)
      refine q_aload dX11_filterOfFilters_58 rfl ?_
      refine q_ifnonnull 65 dX11_filterOfFilters_60 (by decide) ?_
      first | refine q_aload_n dX11_filterOfFilters_65 rfl ?_ | refine q_aload_nN dX11_filterOfFilters_65 rfl ?_
      refine q_new dX11_filterOfFilters_66 nk_X11_235 rfl (by decide) (by decide) ?_
      refine q_dup dX11_filterOfFilters_69 rfl ?_
      first | refine q_aload_n dX11_filterOfFilters_70 rfl ?_ | refine q_aload_nN dX11_filterOfFilters_70 rfl ?_
      refine q_getf dX11_filterOfFilters_71 fk_X11_97_10 (by rw [zK_nO (by omega)]; exact hx.1) ((zF_nO (by omega)).trans hT.1) ?_
      refine q_iload_n dX11_filterOfFilters_74 rfl ?_
      refine q_aload dX11_filterOfFilters_75 rfl ?_
      refine q_aload dX11_filterOfFilters_77 rfl ?_
      refine q_callI dX11_filterOfFilters_79 mk_X11_237 rfl (c_X3_init_two l G _ (zN Z) (af i) (af j) cfi cfj (nI nf) kd (nI di) (nI dj) zK_nO' oki ((zK_nO ani).trans kki) ((zF_nO ani).trans fi) okj ((zK_nO anj).trans kkj) ((zF_nO anj).trans fj)) rfl np_X3_init (by decide) (by decide) (by decide) (Nat.le_of_ble_eq_true rfl) (kV (fun Z79 h79 => ?_))
      rw [md_two li lj] at h79
      generalize hdd : (if di < dj then dj + 1 else di + 1) = dd at h79
      have hdb : 1 ≤ dd ∧ dd ≤ 7 ∧ di < dd ∧ dj < dd := by rw [← hdd]; split <;> omega
      have F : ∀ k b, zF Z79 k b = _ := fun k b => by rw [h79, zF_sF, zF_sF, zF_sF, zF_sF, zF_sF]
      have hK79 : zK Z79 (zN Z) = 3 := by rw [h79, zK_sF, zK_sF, zK_sF, zK_sF, zK_sF]; exact zK_nO'
      have hD79 : zF Z79 1 (zN Z) = .int (nI dd) := by rw [F, if_neg (by omega), if_neg (by omega), if_neg (by omega), if_pos ⟨rfl, rfl⟩]
      have hFr : Fr (zN Z) Z Z79 := by
        rw [h79]
        exact (((((Fr_nO (Nat.le_refl _)).tr (Fr_sF (Nat.le_refl _))).tr (Fr_sF (Nat.le_refl _))).tr (Fr_sF (Nat.le_refl _))).tr (Fr_sF (Nat.le_refl _))).tr (Fr_sF (Nat.le_refl _))
      have hC := h.fr hFr
      have hkm := hFr.km hN
      have F5 : zF Z79 5 (zN Z) = .int 0 := by rw [F, if_neg (by omega), if_neg (by omega), if_neg (by omega), if_neg (by omega), if_neg (by omega), zF_nO']; rfl
      have hnew := fun h6 : nI dd ≤ 6 => made_newF (Z := Z79) (x := x) (nf := nf) (a := zN Z) (i := i) (d0 := dd) (σ := σ) (af := af) (af' := fun f => if f = nf then zN Z else af f) (kd := kd) (b := nI j) (v := v) (if_pos rfl) (fun g hg => if_neg (by omega)) hN hkd hi hdb.1 (six_of hdb.2.1 h6) hK79 (by rw [F, if_neg (by omega), if_neg (by omega), if_neg (by omega), if_neg (by omega), if_pos ⟨rfl, rfl⟩]) hD79 (by rw [F, if_neg (by omega), if_neg (by omega), if_pos ⟨rfl, rfl⟩]) (by rw [F, if_neg (by omega), if_pos ⟨rfl, rfl⟩]) (by unfold dpt; rw [mi, nI_clamp (by omega)]; omega) (fun _ => ⟨j, hj, rfl, by rw [F, if_pos ⟨rfl, rfl⟩], by unfold dpt; rw [mj, nI_clamp (by omega)]; omega⟩) (fun z => absurd hk z) F5
      refine q_callV 10 dX11_filterOfFilters_82 mk_X11_104 rfl hC.1.1.1.1 (cc_keepFilter l G Z79 x nf ns af as σ hC (zN Z) 2 _ (nI dd) rfl (List.Mem.tail _ (List.Mem.head _)) fk_X11_257_2 hK79 hD79) rfl np_X11_keepFilter (by decide) (by decide) (by decide) (Nat.le_of_ble_eq_true rfl) (kI (fun r82 Z82 h82 => ?_))
      exact q_ireturn dX11_filterOfFilters_85 rfl (by decide) (by decide) (by unfold madeS; rw [hn6, if_neg (fun z => z.elim (fun y => y.elim (ix_in (by omega) hi).1 (fun y => y (ix_in (by omega) hi).2)) (fun y => y.2.elim (ix_in (by omega) hj).1 (fun y => y (ix_in (by omega) hj).2))), mdD_two hk (by omega) (by omega) mi mj li lj, hdd]; exact filt_end h hC hkm hnew h82)
    · refine q_goto 46 dX11_filterOfFilters_42 (by decide) ?_
      refine q_astoreN (ls' := [_, _, _, _, _, _, _]) dX11_filterOfFilters_46 rfl rfl (Nat.le_of_ble_eq_true rfl) (by decide) ?_
      refine q_aload dX11_filterOfFilters_48 rfl ?_
      refine q_ifnull dX11_filterOfFilters_50 ?_
      refine q_iload dX11_filterOfFilters_53 rfl ?_
      refine q_if_eq 65 dX11_filterOfFilters_55 (by decide) (fun c55 => absurd c55 (by decide)) (fun c55 => ?_)
      refine q_aloadN dX11_filterOfFilters_58 rfl ?_
      refine q_ifnonnullN dX11_filterOfFilters_60 ?_
      refine q_iconst (v := (-1)) dX11_filterOfFilters_63 (by decide) ?_
      exact q_ireturn dX11_filterOfFilters_64 rfl (by decide) (by decide) (by unfold madeS; rw [hn6, if_pos (Or.inr ⟨hk, nj⟩)]; exact ⟨af, nf, rfl, h, KM.rf x Z⟩)
  · refine q_astoreN (ls' := [_, _, _, _, _, _, _]) dX11_filterOfFilters_30 rfl rfl (Nat.le_of_ble_eq_true rfl) (by decide) ?_
    refine q_iload dX11_filterOfFilters_32 rfl ?_
    refine q_if_eq 45 dX11_filterOfFilters_34 (by decide) (fun c34 => absurd c34 (by decide)) (fun c34 => ?_)
    first | refine q_aload_n dX11_filterOfFilters_37 rfl ?_ | refine q_aload_nN dX11_filterOfFilters_37 rfl ?_
    refine q_iload_n dX11_filterOfFilters_38 rfl ?_
    refine q_callV 10 dX11_filterOfFilters_39 mk_X11_108 rfl hx.1 (cc_filterAt l G Z x nf ns af as σ h b) rfl np_X11_filterAt (by decide) (by decide) (by decide) (Nat.le_of_ble_eq_true rfl) (kA (fun r39 Z39 h39 => ?_))
    obtain ⟨e39, h39⟩ := h39
    rw [e39]
    rcases h39 with ⟨j, hj, rfl, rfl⟩ | ⟨nj, rfl⟩
    · refine q_goto 46 dX11_filterOfFilters_42 (by decide) ?_
      refine q_astore (ls' := [_, _, _, _, _, _, _]) dX11_filterOfFilters_46 rfl rfl (Nat.le_of_ble_eq_true rfl) (by decide) ?_
      refine q_aloadN dX11_filterOfFilters_48 rfl ?_
      refine q_ifnullN 63 dX11_filterOfFilters_50 (by decide) ?_
      refine q_iconst (v := (-1)) dX11_filterOfFilters_63 (by decide) ?_
      exact q_ireturn dX11_filterOfFilters_64 rfl (by decide) (by decide) (by unfold madeS; rw [hn6, if_pos (Or.inl ni)]; exact ⟨af, nf, rfl, h, KM.rf x Z⟩)
    · refine q_goto 46 dX11_filterOfFilters_42 (by decide) ?_
      refine q_astoreN (ls' := [_, _, _, _, _, _, _]) dX11_filterOfFilters_46 rfl rfl (Nat.le_of_ble_eq_true rfl) (by decide) ?_
      refine q_aloadN dX11_filterOfFilters_48 rfl ?_
      refine q_ifnullN 63 dX11_filterOfFilters_50 (by decide) ?_
      refine q_iconst (v := (-1)) dX11_filterOfFilters_63 (by decide) ?_
      exact q_ireturn dX11_filterOfFilters_64 rfl (by decide) (by decide) (by unfold madeS; rw [hn6, if_pos (Or.inl ni)]; exact ⟨af, nf, rfl, h, KM.rf x Z⟩)
theorem not_mid {kd : Int32} (h : 7 ≤ kd ∧ kd ≤ 11) (h8 : ¬ kd = 8) (h9 : ¬ kd = 9) (h10 : ¬ kd = 10) : ¬ (8 ≤ kd ∧ kd ≤ 10) := fun z => by
  have a1 := Int32.le_iff_toInt_le.mp z.1
  have a2 := Int32.le_iff_toInt_le.mp z.2
  have b8 : kd.toInt ≠ 8 := fun e => h8 (Int32.toInt_inj.mp e)
  have b9 : kd.toInt ≠ 9 := fun e => h9 (Int32.toInt_inj.mp e)
  have b10 : kd.toInt ≠ 10 := fun e => h10 (Int32.toInt_inj.mp e)
  have i8 : (8 : Int32).toInt = 8 := by decide
  have i10 : (10 : Int32).toInt = 10 := by decide
  omega
set_option maxHeartbeats 600000 in
set_option maxRecDepth 100000 in
theorem cc_filterOfFilters (l : Launch) (G : Gt) (Z : Zt) (x nf ns : Nat) (af as : Nat → Nat) (σ : St) (h : CR Z x σ af as nf ns) (kd a b : Int32) (v : Int64) (hkd : 7 ≤ kd ∧ kd ≤ 11) : Ct l G YX11_filterOfFilters (3, 1, 6) Z [.ref x, .int kd, .int a, .int b] (ΦI (fun r Z1 => ∃ af1 nf1, r = (madeS σ kd a b v).1 ∧ CR Z1 x (madeS σ kd a b v).2 af1 as nf1 ns ∧ KM x Z Z1)) := by
  refine ct_of [some (.ref x), some (.int kd), some (.int a), some (.int b), none, none, none] (by decide +kernel) (Nat.le_of_ble_eq_true rfl) rfl (fun M => ?_)
  refine q_iload_n dX11_filterOfFilters_0 rfl ?_
  refine q_bipush (v := 8) dX11_filterOfFilters_1 (by decide) ?_
  refine q_icmp_eq 18 dX11_filterOfFilters_3 (by decide) (fun c3 => ?_) (fun c3 => ?_)
  · refine q_iconst (v := 1) dX11_filterOfFilters_18 (by decide) ?_
    refine q_goto 23 dX11_filterOfFilters_19 (by decide) ?_
    exact fff_two l G M Z x nf ns af as σ h kd a b v hkd (by rw [c3]; decide)
  · refine q_iload_n dX11_filterOfFilters_6 rfl ?_
    refine q_bipush (v := 9) dX11_filterOfFilters_7 (by decide) ?_
    refine q_icmp_eq 18 dX11_filterOfFilters_9 (by decide) (fun c9 => ?_) (fun c9 => ?_)
    · refine q_iconst (v := 1) dX11_filterOfFilters_18 (by decide) ?_
      refine q_goto 23 dX11_filterOfFilters_19 (by decide) ?_
      exact fff_two l G M Z x nf ns af as σ h kd a b v hkd (by rw [c9]; decide)
    · refine q_iload_n dX11_filterOfFilters_12 rfl ?_
      refine q_bipush (v := 10) dX11_filterOfFilters_13 (by decide) ?_
      refine q_icmp_ne 22 dX11_filterOfFilters_15 (by decide) (fun c15 => ?_) (fun c15 => ?_)
      · refine q_iconst (v := 0) dX11_filterOfFilters_22 (by decide) ?_
        exact fff_one l G M Z x nf ns af as σ h kd a b v hkd (not_mid hkd c3 c9 c15)
      · refine q_iconst (v := 1) dX11_filterOfFilters_18 (by decide) ?_
        refine q_goto 23 dX11_filterOfFilters_19 (by decide) ?_
        exact fff_two l G M Z x nf ns af as σ h kd a b v hkd (by rw [c15]; decide)
noncomputable def filtS (σ : St) (kd a b : Int32) (v : Int64) : Int32 × St := if kd < 0 ∨ ¬ kd ≤ 12 then (-2, σ) else if 7 ≤ kd ∧ kd ≤ 11 then madeS σ kd a b v else if kd = 3 ∨ kd = 12 then (if a < 0 ∨ ¬ a < 6 then (-2, σ) else keepF σ kd a b 1 v) else if kd = 5 then (if a < 0 ∨ ¬ a < 3 then (-2, σ) else keepF σ 5 a b 1 v) else keepF σ kd a b 1 v
set_option maxHeartbeats 600000 in
set_option maxRecDepth 100000 in
theorem cc_filter (l : Launch) (G : Gt) (Z : Zt) (x nf ns : Nat) (af as : Nat → Nat) (σ : St) (h : CR Z x σ af as nf ns) (kd a b : Int32) (v : Int64) : Ct l G YX11_filter (4, 1, 6) Z [.ref x, .int kd, .int a, .int b, .long v] (ΦI (fun r Z1 => ∃ af1 nf1, r = (filtS σ kd a b v).1 ∧ CR Z1 x (filtS σ kd a b v).2 af1 as nf1 ns ∧ KM x Z Z1)) := by
  refine ct_of [some (.ref x), some (.int kd), some (.int a), some (.int b), some (.long v), none] (by decide +kernel) (Nat.le_of_ble_eq_true rfl) rfl (fun M => ?_)
  have hx := h.1.1.1
  have hT := h.2.2.2.2.1
  have hn20 := h.1.2.2.2.2.2.1
  have hn6 := h.1.2.2.2.2.1
  have hN := h.2.2.2.2.2.2
  refine q_iload_n dX11_filter_0 rfl ?_
  refine q_if_lt 10 dX11_filter_1 (by decide) (fun c1 => ?_) (fun c1 => ?_)
  · refine q_bipush (v := (-2)) dX11_filter_10 (by decide) ?_
    exact q_ireturn dX11_filter_12 rfl (by decide) (by decide) (by unfold filtS; rw [if_pos (Or.inl c1)]; exact ⟨af, nf, rfl, h, KM.rf x Z⟩)
  · refine q_iload_n dX11_filter_4 rfl ?_
    refine q_bipush (v := 12) dX11_filter_5 (by decide) ?_
    refine q_icmp_le 13 dX11_filter_7 (by decide) (fun c7 => ?_) (fun c7 => ?_)
    · refine q_iload_n dX11_filter_13 rfl ?_
      refine q_bipush (v := 7) dX11_filter_14 (by decide) ?_
      refine q_icmp_lt 33 dX11_filter_16 (by decide) (fun c16 => ?_) (fun c16 => ?_)
      · refine q_iload_n dX11_filter_33 rfl ?_
        refine q_iconst (v := 3) dX11_filter_34 (by decide) ?_
        refine q_icmp_eq 44 dX11_filter_35 (by decide) (fun c35 => ?_) (fun c35 => ?_)
        · first | refine q_aload_n dX11_filter_44 rfl ?_ | refine q_aload_nN dX11_filter_44 rfl ?_
          refine q_iload_n dX11_filter_45 rfl ?_
          refine q_iload_n dX11_filter_46 rfl ?_
          refine q_lload dX11_filter_47 rfl ?_
          refine q_callV 10 dX11_filter_49 mk_X11_87 rfl hx.1 (cc_filterOfShelf l G Z x nf ns af as σ h kd a b v (Or.inl c35)) rfl np_X11_filterOfShelf (by decide) (by decide) (by decide) (Nat.le_of_ble_eq_true rfl) (kI (fun r49 Z49 h49 => ?_))
          exact q_ireturn dX11_filter_52 rfl (by decide) (by decide) (by unfold filtS; rw [if_neg (fun z => z.elim c1 (fun y => y c7)), if_neg (fun z => absurd z.1 (Int32.not_le.mpr c16)), if_pos (Or.inl c35)]; exact h49)
        · refine q_iload_n dX11_filter_38 rfl ?_
          refine q_bipush (v := 12) dX11_filter_39 (by decide) ?_
          refine q_icmp_ne 53 dX11_filter_41 (by decide) (fun c41 => ?_) (fun c41 => ?_)
          · refine q_iload_n dX11_filter_53 rfl ?_
            refine q_iconst (v := 5) dX11_filter_54 (by decide) ?_
            refine q_icmp_ne 66 dX11_filter_55 (by decide) (fun c55 => ?_) (fun c55 => ?_)
            · first | refine q_aload_n dX11_filter_66 rfl ?_ | refine q_aload_nN dX11_filter_66 rfl ?_
              refine q_new dX11_filter_67 nk_X11_95 rfl (by decide) (by decide) ?_
              refine q_dup dX11_filter_70 rfl ?_
              first | refine q_aload_n dX11_filter_71 rfl ?_ | refine q_aload_nN dX11_filter_71 rfl ?_
              refine q_getf dX11_filter_72 fk_X11_97_10 (by rw [zK_nO (by omega)]; exact hx.1) ((zF_nO (by omega)).trans hT.1) ?_
              refine q_iload_n dX11_filter_75 rfl ?_
              refine q_iload_n dX11_filter_76 rfl ?_
              refine q_lload dX11_filter_77 rfl ?_
              refine q_callI dX11_filter_79 mk_X11_101 rfl (c_X4_init l G _ (zN Z) (nI nf) kd a v zK_nO') rfl np_X4_init (by decide) (by decide) (by decide) (Nat.le_of_ble_eq_true rfl) (kV (fun Z79 h79 => ?_))
              have F : ∀ k b, zF Z79 k b = _ := fun k b => by rw [h79, zF_sF, zF_sF, zF_sF, zF_sF, zF_sF]
              have hK79 : zK Z79 (zN Z) = 4 := by rw [h79, zK_sF, zK_sF, zK_sF, zK_sF, zK_sF]; exact zK_nO'
              have hD79 : zF Z79 1 (zN Z) = .int 1 := by rw [F, if_neg (by omega), if_neg (by omega), if_neg (by omega), if_pos ⟨rfl, rfl⟩]
              have hFr : Fr (zN Z) Z Z79 := by
                rw [h79]
                exact (((((Fr_nO (Nat.le_refl _)).tr (Fr_sF (Nat.le_refl _))).tr (Fr_sF (Nat.le_refl _))).tr (Fr_sF (Nat.le_refl _))).tr (Fr_sF (Nat.le_refl _))).tr (Fr_sF (Nat.le_refl _))
              have hC := h.fr hFr
              have hkm := hFr.km hN
              have n3 : ¬ (kd = 3 ∨ kd = 12) := fun z => z.elim c35 c41
              have hnew := num_newF (Z := Z79) (x := x) (nf := nf) (a := zN Z) (σ := σ) (af' := fun f => if f = nf then zN Z else af f) (kd := kd) (fa := a) (fb := b) (v := v) (if_pos rfl) hN n3 c55 (fun z => absurd z.1 (Int32.not_le.mpr c16)) hK79 (by rw [F, if_neg (by omega), if_neg (by omega), if_neg (by omega), if_neg (by omega), if_pos ⟨rfl, rfl⟩]) hD79 (by rw [F, if_neg (by omega), if_neg (by omega), if_pos ⟨rfl, rfl⟩]) (by rw [F, if_neg (by omega), if_pos ⟨rfl, rfl⟩]) (by rw [F, if_pos ⟨rfl, rfl⟩])
              refine q_callV 10 dX11_filter_82 mk_X11_104 rfl hC.1.1.1.1 (cc_keepFilter l G Z79 x nf ns af as σ hC (zN Z) 3 _ 1 rfl (List.Mem.tail _ (List.Mem.tail _ (List.Mem.head _))) fk_X11_257_3 hK79 hD79) rfl np_X11_keepFilter (by decide) (by decide) (by decide) (Nat.le_of_ble_eq_true rfl) (kI (fun r82 Z82 h82 => ?_))
              exact q_ireturn dX11_filter_85 rfl (by decide) (by decide) (by unfold filtS; rw [if_neg (fun z => z.elim c1 (fun y => y c7)), if_neg (fun z => absurd z.1 (Int32.not_le.mpr c16)), if_neg n3, if_neg c55]; exact filt_end h hC hkm (fun _ => hnew) h82)
            · first | refine q_aload_n dX11_filter_58 rfl ?_ | refine q_aload_nN dX11_filter_58 rfl ?_
              refine q_iload_n dX11_filter_59 rfl ?_
              refine q_lload dX11_filter_60 rfl ?_
              refine q_callV 10 dX11_filter_62 mk_X11_91 rfl hx.1 (cc_filterOfBox l G Z x nf ns af as σ h a b v) rfl np_X11_filterOfBox (by decide) (by decide) (by decide) (Nat.le_of_ble_eq_true rfl) (kI (fun r62 Z62 h62 => ?_))
              exact q_ireturn dX11_filter_65 rfl (by decide) (by decide) (by unfold filtS; rw [if_neg (fun z => z.elim c1 (fun y => y c7)), if_neg (fun z => absurd z.1 (Int32.not_le.mpr c16)), if_neg (fun z => z.elim c35 c41), if_pos c55]; exact h62)
          · first | refine q_aload_n dX11_filter_44 rfl ?_ | refine q_aload_nN dX11_filter_44 rfl ?_
            refine q_iload_n dX11_filter_45 rfl ?_
            refine q_iload_n dX11_filter_46 rfl ?_
            refine q_lload dX11_filter_47 rfl ?_
            refine q_callV 10 dX11_filter_49 mk_X11_87 rfl hx.1 (cc_filterOfShelf l G Z x nf ns af as σ h kd a b v (Or.inr c41)) rfl np_X11_filterOfShelf (by decide) (by decide) (by decide) (Nat.le_of_ble_eq_true rfl) (kI (fun r49 Z49 h49 => ?_))
            exact q_ireturn dX11_filter_52 rfl (by decide) (by decide) (by unfold filtS; rw [if_neg (fun z => z.elim c1 (fun y => y c7)), if_neg (fun z => absurd z.1 (Int32.not_le.mpr c16)), if_pos (Or.inr c41)]; exact h49)
      · refine q_iload_n dX11_filter_19 rfl ?_
        refine q_bipush (v := 11) dX11_filter_20 (by decide) ?_
        refine q_icmp_gt 33 dX11_filter_22 (by decide) (fun c22 => ?_) (fun c22 => ?_)
        · refine q_iload_n dX11_filter_33 rfl ?_
          refine q_iconst (v := 3) dX11_filter_34 (by decide) ?_
          refine q_icmp_eq 44 dX11_filter_35 (by decide) (fun c35 => ?_) (fun c35 => ?_)
          · first | refine q_aload_n dX11_filter_44 rfl ?_ | refine q_aload_nN dX11_filter_44 rfl ?_
            refine q_iload_n dX11_filter_45 rfl ?_
            refine q_iload_n dX11_filter_46 rfl ?_
            refine q_lload dX11_filter_47 rfl ?_
            refine q_callV 10 dX11_filter_49 mk_X11_87 rfl hx.1 (cc_filterOfShelf l G Z x nf ns af as σ h kd a b v (Or.inl c35)) rfl np_X11_filterOfShelf (by decide) (by decide) (by decide) (Nat.le_of_ble_eq_true rfl) (kI (fun r49 Z49 h49 => ?_))
            exact q_ireturn dX11_filter_52 rfl (by decide) (by decide) (by unfold filtS; rw [if_neg (fun z => z.elim c1 (fun y => y c7)), if_neg (fun z => absurd z.2 (Int32.not_le.mpr c22)), if_pos (Or.inl c35)]; exact h49)
          · refine q_iload_n dX11_filter_38 rfl ?_
            refine q_bipush (v := 12) dX11_filter_39 (by decide) ?_
            refine q_icmp_ne 53 dX11_filter_41 (by decide) (fun c41 => ?_) (fun c41 => ?_)
            · refine q_iload_n dX11_filter_53 rfl ?_
              refine q_iconst (v := 5) dX11_filter_54 (by decide) ?_
              refine q_icmp_ne 66 dX11_filter_55 (by decide) (fun c55 => ?_) (fun c55 => ?_)
              · first | refine q_aload_n dX11_filter_66 rfl ?_ | refine q_aload_nN dX11_filter_66 rfl ?_
                refine q_new dX11_filter_67 nk_X11_95 rfl (by decide) (by decide) ?_
                refine q_dup dX11_filter_70 rfl ?_
                first | refine q_aload_n dX11_filter_71 rfl ?_ | refine q_aload_nN dX11_filter_71 rfl ?_
                refine q_getf dX11_filter_72 fk_X11_97_10 (by rw [zK_nO (by omega)]; exact hx.1) ((zF_nO (by omega)).trans hT.1) ?_
                refine q_iload_n dX11_filter_75 rfl ?_
                refine q_iload_n dX11_filter_76 rfl ?_
                refine q_lload dX11_filter_77 rfl ?_
                refine q_callI dX11_filter_79 mk_X11_101 rfl (c_X4_init l G _ (zN Z) (nI nf) kd a v zK_nO') rfl np_X4_init (by decide) (by decide) (by decide) (Nat.le_of_ble_eq_true rfl) (kV (fun Z79 h79 => ?_))
                have F : ∀ k b, zF Z79 k b = _ := fun k b => by rw [h79, zF_sF, zF_sF, zF_sF, zF_sF, zF_sF]
                have hK79 : zK Z79 (zN Z) = 4 := by rw [h79, zK_sF, zK_sF, zK_sF, zK_sF, zK_sF]; exact zK_nO'
                have hD79 : zF Z79 1 (zN Z) = .int 1 := by rw [F, if_neg (by omega), if_neg (by omega), if_neg (by omega), if_pos ⟨rfl, rfl⟩]
                have hFr : Fr (zN Z) Z Z79 := by
                  rw [h79]
                  exact (((((Fr_nO (Nat.le_refl _)).tr (Fr_sF (Nat.le_refl _))).tr (Fr_sF (Nat.le_refl _))).tr (Fr_sF (Nat.le_refl _))).tr (Fr_sF (Nat.le_refl _))).tr (Fr_sF (Nat.le_refl _))
                have hC := h.fr hFr
                have hkm := hFr.km hN
                have n3 : ¬ (kd = 3 ∨ kd = 12) := fun z => z.elim c35 c41
                have hnew := num_newF (Z := Z79) (x := x) (nf := nf) (a := zN Z) (σ := σ) (af' := fun f => if f = nf then zN Z else af f) (kd := kd) (fa := a) (fb := b) (v := v) (if_pos rfl) hN n3 c55 (fun z => absurd z.2 (Int32.not_le.mpr c22)) hK79 (by rw [F, if_neg (by omega), if_neg (by omega), if_neg (by omega), if_neg (by omega), if_pos ⟨rfl, rfl⟩]) hD79 (by rw [F, if_neg (by omega), if_neg (by omega), if_pos ⟨rfl, rfl⟩]) (by rw [F, if_neg (by omega), if_pos ⟨rfl, rfl⟩]) (by rw [F, if_pos ⟨rfl, rfl⟩])
                refine q_callV 10 dX11_filter_82 mk_X11_104 rfl hC.1.1.1.1 (cc_keepFilter l G Z79 x nf ns af as σ hC (zN Z) 3 _ 1 rfl (List.Mem.tail _ (List.Mem.tail _ (List.Mem.head _))) fk_X11_257_3 hK79 hD79) rfl np_X11_keepFilter (by decide) (by decide) (by decide) (Nat.le_of_ble_eq_true rfl) (kI (fun r82 Z82 h82 => ?_))
                exact q_ireturn dX11_filter_85 rfl (by decide) (by decide) (by unfold filtS; rw [if_neg (fun z => z.elim c1 (fun y => y c7)), if_neg (fun z => absurd z.2 (Int32.not_le.mpr c22)), if_neg n3, if_neg c55]; exact filt_end h hC hkm (fun _ => hnew) h82)
              · first | refine q_aload_n dX11_filter_58 rfl ?_ | refine q_aload_nN dX11_filter_58 rfl ?_
                refine q_iload_n dX11_filter_59 rfl ?_
                refine q_lload dX11_filter_60 rfl ?_
                refine q_callV 10 dX11_filter_62 mk_X11_91 rfl hx.1 (cc_filterOfBox l G Z x nf ns af as σ h a b v) rfl np_X11_filterOfBox (by decide) (by decide) (by decide) (Nat.le_of_ble_eq_true rfl) (kI (fun r62 Z62 h62 => ?_))
                exact q_ireturn dX11_filter_65 rfl (by decide) (by decide) (by unfold filtS; rw [if_neg (fun z => z.elim c1 (fun y => y c7)), if_neg (fun z => absurd z.2 (Int32.not_le.mpr c22)), if_neg (fun z => z.elim c35 c41), if_pos c55]; exact h62)
            · first | refine q_aload_n dX11_filter_44 rfl ?_ | refine q_aload_nN dX11_filter_44 rfl ?_
              refine q_iload_n dX11_filter_45 rfl ?_
              refine q_iload_n dX11_filter_46 rfl ?_
              refine q_lload dX11_filter_47 rfl ?_
              refine q_callV 10 dX11_filter_49 mk_X11_87 rfl hx.1 (cc_filterOfShelf l G Z x nf ns af as σ h kd a b v (Or.inr c41)) rfl np_X11_filterOfShelf (by decide) (by decide) (by decide) (Nat.le_of_ble_eq_true rfl) (kI (fun r49 Z49 h49 => ?_))
              exact q_ireturn dX11_filter_52 rfl (by decide) (by decide) (by unfold filtS; rw [if_neg (fun z => z.elim c1 (fun y => y c7)), if_neg (fun z => absurd z.2 (Int32.not_le.mpr c22)), if_pos (Or.inr c41)]; exact h49)
        · first | refine q_aload_n dX11_filter_25 rfl ?_ | refine q_aload_nN dX11_filter_25 rfl ?_
          refine q_iload_n dX11_filter_26 rfl ?_
          refine q_iload_n dX11_filter_27 rfl ?_
          refine q_iload_n dX11_filter_28 rfl ?_
          refine q_callV 10 dX11_filter_29 mk_X11_83 rfl hx.1 (cc_filterOfFilters l G Z x nf ns af as σ h kd a b v ⟨Int32.not_lt.mp c16, Int32.not_lt.mp c22⟩) rfl np_X11_filterOfFilters (by decide) (by decide) (by decide) (Nat.le_of_ble_eq_true rfl) (kI (fun r29 Z29 h29 => ?_))
          exact q_ireturn dX11_filter_32 rfl (by decide) (by decide) (by unfold filtS; rw [if_neg (fun z => z.elim c1 (fun y => y c7)), if_pos ⟨Int32.not_lt.mp c16, Int32.not_lt.mp c22⟩]; exact h29)
    · refine q_bipush (v := (-2)) dX11_filter_10 (by decide) ?_
      exact q_ireturn dX11_filter_12 rfl (by decide) (by decide) (by unfold filtS; rw [if_pos (Or.inr c7)]; exact ⟨af, nf, rfl, h, KM.rf x Z⟩)
