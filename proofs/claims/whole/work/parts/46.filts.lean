theorem addF_7 (σ : St) (n : Nat) (kd a b d : Int32) (v : Int64) : (addF σ n kd a b d v).1 7 n = kd := by rw [addF_1, if_neg (by omega), if_pos rfl, if_pos rfl]
theorem addF_8 (σ : St) (n : Nat) (kd a b d : Int32) (v : Int64) : (addF σ n kd a b d v).1 8 n = a := by rw [addF_1, if_neg (by omega), if_pos rfl, if_neg (by decide), if_pos rfl]
theorem addF_9 (σ : St) (n : Nat) (kd a b d : Int32) (v : Int64) : (addF σ n kd a b d v).1 9 n = b := by rw [addF_1, if_neg (by omega), if_pos rfl, if_neg (by decide), if_neg (by decide), if_pos rfl]
theorem addF_11 (σ : St) (n : Nat) (kd a b d : Int32) (v : Int64) : (addF σ n kd a b d v).1 11 n = d := by rw [addF_1, if_neg (by omega), if_pos rfl, if_neg (by decide), if_neg (by decide), if_neg (by decide), if_pos rfl]
theorem addF_12 (σ : St) (n : Nat) (kd a b d : Int32) (v : Int64) : (addF σ n kd a b d v).1 12 n = 0 := by rw [addF_1, if_neg (by omega), if_pos rfl, if_neg (by decide), if_neg (by decide), if_neg (by decide), if_neg (by decide), if_pos rfl]
theorem addF_10 (σ : St) (n : Nat) (kd a b d : Int32) (v : Int64) : (addF σ n kd a b d v).2 10 n = v := by rw [addF_2, if_pos ⟨rfl, rfl⟩]
noncomputable def keepF (σ : St) (kd a b d : Int32) (v : Int64) : Int32 × St := if 20 ≤ σ.1 6 0 ∨ ¬ d ≤ 6 then (-3, σ) else (σ.1 6 0, addF σ (σ.1 6 0).toNatClampNeg kd a b d v)
theorem filt_end {Z Z2 Z1 : Zt} {x nf ns a : Nat} {σ : St} {af as : Nat → Nat} {r kd fa fb d : Int32} {v : Int64} (h : CR Z x σ af as nf ns) (hC : CR Z2 x σ af as nf ns) (hkm : KM x Z Z2) (hnew : d ≤ 6 → fOb Z2 x (addF σ nf kd fa fb d v) (fun f => if f = nf then a else af f) nf ∧ fO5 Z2 (addF σ nf kd fa fb d v) (fun f => if f = nf then a else af f) nf)
    (hk : ((20 ≤ nI nf ∨ ¬ d ≤ 6) → r = -3 ∧ Z1 = Z2) ∧ (¬ (20 ≤ nI nf ∨ ¬ d ≤ 6) → r = nI nf ∧ Z1 = sF (sR Z2 (x + 3) nf (some a)) 4 x (.int (nI (nf + 1))))) : ∃ af1 nf1, r = (keepF σ kd fa fb d v).1 ∧ CR Z1 x (keepF σ kd fa fb d v).2 af1 as nf1 ns ∧ KM x Z Z1 := by
  have t3 := h.1.2.2.2.2.1
  have t4 := h.1.2.2.2.2.2.1
  unfold keepF
  rw [t3, nI_clamp (by omega)]
  by_cases hf : 20 ≤ nI nf ∨ ¬ d ≤ 6
  · rw [if_pos hf]
    obtain ⟨e1, e2⟩ := hk.1 hf
    rw [e2]
    exact ⟨af, nf, e1, hC, hkm⟩
  · rw [if_neg hf]
    obtain ⟨e1, e2⟩ := hk.2 hf
    have hlt : nf < 20 := Classical.byContradiction fun z => hf (Or.inl (show nI 20 ≤ nI nf from nI_le (by omega) (by omega)))
    obtain ⟨u1, u2⟩ := CR_addF kd fa fb d v hC hlt e2 (hnew (Classical.byContradiction fun z => hf (Or.inr z)))
    exact ⟨_, _, e1, u1, hkm.tr u2⟩
theorem shelf_newF {Z : Zt} {x nf a j : Nat} {σ : St} {af' : Nat → Nat} {kd fb : Int32} {v : Int64} (ha : af' nf = a) (hx : x + 61 ≤ a) (hkd : kd = 3 ∨ kd = 12) (hj : j < 6) (hK : zK Z a = 7) (h0 : zF Z 0 a = .int (nI nf)) (h1 : zF Z 1 a = .int 1) (h2 : zF Z 2 a = .ref (x + 12 + 2 * j)) (h3 : zF Z 3 a = .int (if kd = 3 then 1 else 3)) (h4 : zF Z 4 a = .long v) : fOb Z x (addF σ nf kd (nI j) fb 1 v) af' nf ∧ fO5 Z (addF σ nf kd (nI j) fb 1 v) af' nf := by
  subst ha
  unfold fOb fO5
  rw [addF_7, addF_8, addF_11, addF_12, addF_10]
  refine ⟨⟨⟨hx, h0, 1, by omega, by omega, rfl, h1⟩, fun _ => ⟨hK, j, hj, rfl, h2, h3, h4⟩, fun z => ?_, fun z => ?_, fun z => absurd hkd z⟩, fun z => ?_, fun _ => rfl⟩
  · rcases hkd with e | e <;> rw [e] at z <;> exact absurd z (by decide)
  · rcases hkd with e | e <;> rw [e] at z <;> exact absurd z (by decide)
  · rcases hkd with e | e <;> rw [e] at z <;> exact absurd z (by decide)
theorem box_newF {Z : Zt} {x nf a j : Nat} {σ : St} {af' : Nat → Nat} {fb : Int32} {v : Int64} (ha : af' nf = a) (hx : x + 61 ≤ a) (hj : j < 3) (hK : zK Z a = 2) (h0 : zF Z 0 a = .int (nI nf)) (h1 : zF Z 1 a = .int 1) (h2 : zF Z 2 a = .ref (x + 24 + 2 * j)) (h3 : zF Z 3 a = .int (pl3 v)) : fOb Z x (addF σ nf 5 (nI j) fb 1 v) af' nf ∧ fO5 Z (addF σ nf 5 (nI j) fb 1 v) af' nf := by
  subst ha
  unfold fOb fO5
  rw [addF_7, addF_8, addF_11, addF_12, addF_10]
  refine ⟨⟨⟨hx, h0, 1, by omega, by omega, rfl, h1⟩, fun z => absurd z (by decide), fun _ => ⟨hK, j, hj, rfl, h2, h3⟩, fun z => absurd z (by decide), fun _ z => absurd rfl z⟩, fun z => absurd z (by decide), fun _ => rfl⟩
set_option maxHeartbeats 600000 in
set_option maxRecDepth 100000 in
theorem cc_filterOfShelf (l : Launch) (G : Gt) (Z : Zt) (x nf ns : Nat) (af as : Nat → Nat) (σ : St) (h : CR Z x σ af as nf ns) (kd a fb : Int32) (v : Int64) (hkd : kd = 3 ∨ kd = 12) : Ct l G YX11_filterOfShelf (3, 1, 5) Z [.ref x, .int kd, .int a, .long v] (ΦI (fun r Z1 => ∃ af1 nf1, r = (if a < 0 ∨ ¬ a < 6 then (-2, σ) else keepF σ kd a fb 1 v).1 ∧ CR Z1 x (if a < 0 ∨ ¬ a < 6 then (-2, σ) else keepF σ kd a fb 1 v).2 af1 as nf1 ns ∧ KM x Z Z1)) := by
  refine ct_of [some (.ref x), some (.int kd), some (.int a), some (.long v), none, none, none] (by decide +kernel) (Nat.le_of_ble_eq_true rfl) rfl (fun M => ?_)
  have hx := h.1.1.1
  have hT := h.2.2.2.2.1
  have hn20 := h.1.2.2.2.2.2.1
  have hN := h.2.2.2.2.2.2
  first | refine q_aload_n dX11_filterOfShelf_0 rfl ?_ | refine q_aload_nN dX11_filterOfShelf_0 rfl ?_
  refine q_iload_n dX11_filterOfShelf_1 rfl ?_
  refine q_callV 10 dX11_filterOfShelf_2 mk_X11_55 rfl hx.1 (cc_shelfAt l G Z x nf ns af as σ h a) rfl np_X11_shelfAt (by decide) (by decide) (by decide) (Nat.le_of_ble_eq_true rfl) (kA (fun r2 Z2 h2 => ?_))
  obtain ⟨e2, h2⟩ := h2
  rw [e2]
  rcases h2 with ⟨j, hj, rfl, rfl⟩ | ⟨hn, rfl⟩
  · have hnk : ¬ (nI j < 0 ∨ ¬ nI j < 6) := fun z => z.elim (ix_in (m := 6) (by decide) hj).1 (fun y => y (ix_in (m := 6) (by decide) hj).2)
    first | refine q_astore (ls' := [_, _, _, _, _, _, _]) dX11_filterOfShelf_5 rfl rfl (Nat.le_of_ble_eq_true rfl) (by decide) ?_ | refine q_astoreN (ls' := [_, _, _, _, _, _, _]) dX11_filterOfShelf_5 rfl rfl (Nat.le_of_ble_eq_true rfl) (by decide) ?_
    first | refine q_aload dX11_filterOfShelf_7 rfl ?_ | refine q_aloadN dX11_filterOfShelf_7 rfl ?_
    refine q_ifnonnull 15 dX11_filterOfShelf_9 (by decide) ?_
    refine q_iload_n dX11_filterOfShelf_15 rfl ?_
    refine q_iconst (v := 3) dX11_filterOfShelf_16 (by decide) ?_
    refine q_icmp_ne 24 dX11_filterOfShelf_17 (by decide) (fun c17 => ?_) (fun c17 => ?_)
    · have hwt : Value.int 3 = .int (if kd = 3 then 1 else 3) := by rw [if_neg c17]
      refine q_iconst (v := 3) dX11_filterOfShelf_24 (by decide) ?_
      refine q_istore (ls' := [_, _, _, _, _, _, _]) dX11_filterOfShelf_25 rfl rfl (Nat.le_of_ble_eq_true rfl) (by decide) ?_
      first | refine q_aload_n dX11_filterOfShelf_27 rfl ?_ | refine q_aload_nN dX11_filterOfShelf_27 rfl ?_
      refine q_new dX11_filterOfShelf_28 nk_X11_240 rfl (by decide) (by decide) ?_
      refine q_dup dX11_filterOfShelf_31 rfl ?_
      first | refine q_aload_n dX11_filterOfShelf_32 rfl ?_ | refine q_aload_nN dX11_filterOfShelf_32 rfl ?_
      refine q_getf dX11_filterOfShelf_33 fk_X11_97_10 (by rw [zK_nO (by omega)]; exact hx.1) ((zF_nO (by omega)).trans hT.1) ?_
      first | refine q_aload dX11_filterOfShelf_36 rfl ?_ | refine q_aloadN dX11_filterOfShelf_36 rfl ?_
      refine q_iload dX11_filterOfShelf_38 rfl ?_
      refine q_lload_n dX11_filterOfShelf_40 rfl ?_
      refine q_callI dX11_filterOfShelf_41 mk_X11_242 rfl (c_X7_init l G _ (zN Z) (x + 12 + 2 * j) (nI nf) _ v zK_nO') rfl np_X7_init (by decide) (by decide) (by decide) (Nat.le_of_ble_eq_true rfl) (kV (fun Z41 h41 => ?_))
      have F : ∀ k b, zF Z41 k b = _ := fun k b => by rw [h41, zF_sF, zF_sF, zF_sF, zF_sF, zF_sF]
      have hK41 : zK Z41 (zN Z) = 7 := by rw [h41, zK_sF, zK_sF, zK_sF, zK_sF, zK_sF]; exact zK_nO'
      have hD41 : zF Z41 1 (zN Z) = .int 1 := by rw [F, if_neg (by omega), if_neg (by omega), if_neg (by omega), if_pos ⟨rfl, rfl⟩]
      have hFr : Fr (zN Z) Z Z41 := by
        rw [h41]
        exact (((((Fr_nO (Nat.le_refl _)).tr (Fr_sF (Nat.le_refl _))).tr (Fr_sF (Nat.le_refl _))).tr (Fr_sF (Nat.le_refl _))).tr (Fr_sF (Nat.le_refl _))).tr (Fr_sF (Nat.le_refl _))
      have hC := h.fr hFr
      have hkm := hFr.km hN
      have hnew := shelf_newF (Z := Z41) (x := x) (nf := nf) (a := zN Z) (j := j) (σ := σ) (af' := fun f => if f = nf then zN Z else af f) (kd := kd) (fb := fb) (v := v) (if_pos rfl) hN hkd hj hK41 (by rw [F, if_neg (by omega), if_neg (by omega), if_neg (by omega), if_neg (by omega), if_pos ⟨rfl, rfl⟩]) hD41 (by rw [F, if_neg (by omega), if_neg (by omega), if_pos ⟨rfl, rfl⟩]) (by rw [F, if_neg (by omega), if_pos ⟨rfl, rfl⟩]; exact hwt) (by rw [F, if_pos ⟨rfl, rfl⟩])
      refine q_callV 10 dX11_filterOfShelf_44 mk_X11_104 rfl hC.1.1.1.1 (cc_keepFilter l G Z41 x nf ns af as σ hC (zN Z) 6 _ 1 rfl (List.Mem.tail _ (List.Mem.tail _ (List.Mem.tail _ (List.Mem.head _)))) fk_X11_257_6 hK41 hD41) rfl np_X11_keepFilter (by decide) (by decide) (by decide) (Nat.le_of_ble_eq_true rfl) (kI (fun r44 Z44 h44 => ?_))
      exact q_ireturn dX11_filterOfShelf_47 rfl (by decide) (by decide) (by rw [if_neg hnk]; exact filt_end h hC hkm (fun _ => hnew) h44)
    · have hwt : Value.int 1 = .int (if kd = 3 then 1 else 3) := by rw [if_pos c17]
      refine q_iconst (v := 1) dX11_filterOfShelf_20 (by decide) ?_
      refine q_goto 25 dX11_filterOfShelf_21 (by decide) ?_
      refine q_istore (ls' := [_, _, _, _, _, _, _]) dX11_filterOfShelf_25 rfl rfl (Nat.le_of_ble_eq_true rfl) (by decide) ?_
      first | refine q_aload_n dX11_filterOfShelf_27 rfl ?_ | refine q_aload_nN dX11_filterOfShelf_27 rfl ?_
      refine q_new dX11_filterOfShelf_28 nk_X11_240 rfl (by decide) (by decide) ?_
      refine q_dup dX11_filterOfShelf_31 rfl ?_
      first | refine q_aload_n dX11_filterOfShelf_32 rfl ?_ | refine q_aload_nN dX11_filterOfShelf_32 rfl ?_
      refine q_getf dX11_filterOfShelf_33 fk_X11_97_10 (by rw [zK_nO (by omega)]; exact hx.1) ((zF_nO (by omega)).trans hT.1) ?_
      first | refine q_aload dX11_filterOfShelf_36 rfl ?_ | refine q_aloadN dX11_filterOfShelf_36 rfl ?_
      refine q_iload dX11_filterOfShelf_38 rfl ?_
      refine q_lload_n dX11_filterOfShelf_40 rfl ?_
      refine q_callI dX11_filterOfShelf_41 mk_X11_242 rfl (c_X7_init l G _ (zN Z) (x + 12 + 2 * j) (nI nf) _ v zK_nO') rfl np_X7_init (by decide) (by decide) (by decide) (Nat.le_of_ble_eq_true rfl) (kV (fun Z41 h41 => ?_))
      have F : ∀ k b, zF Z41 k b = _ := fun k b => by rw [h41, zF_sF, zF_sF, zF_sF, zF_sF, zF_sF]
      have hK41 : zK Z41 (zN Z) = 7 := by rw [h41, zK_sF, zK_sF, zK_sF, zK_sF, zK_sF]; exact zK_nO'
      have hD41 : zF Z41 1 (zN Z) = .int 1 := by rw [F, if_neg (by omega), if_neg (by omega), if_neg (by omega), if_pos ⟨rfl, rfl⟩]
      have hFr : Fr (zN Z) Z Z41 := by
        rw [h41]
        exact (((((Fr_nO (Nat.le_refl _)).tr (Fr_sF (Nat.le_refl _))).tr (Fr_sF (Nat.le_refl _))).tr (Fr_sF (Nat.le_refl _))).tr (Fr_sF (Nat.le_refl _))).tr (Fr_sF (Nat.le_refl _))
      have hC := h.fr hFr
      have hkm := hFr.km hN
      have hnew := shelf_newF (Z := Z41) (x := x) (nf := nf) (a := zN Z) (j := j) (σ := σ) (af' := fun f => if f = nf then zN Z else af f) (kd := kd) (fb := fb) (v := v) (if_pos rfl) hN hkd hj hK41 (by rw [F, if_neg (by omega), if_neg (by omega), if_neg (by omega), if_neg (by omega), if_pos ⟨rfl, rfl⟩]) hD41 (by rw [F, if_neg (by omega), if_neg (by omega), if_pos ⟨rfl, rfl⟩]) (by rw [F, if_neg (by omega), if_pos ⟨rfl, rfl⟩]; exact hwt) (by rw [F, if_pos ⟨rfl, rfl⟩])
      refine q_callV 10 dX11_filterOfShelf_44 mk_X11_104 rfl hC.1.1.1.1 (cc_keepFilter l G Z41 x nf ns af as σ hC (zN Z) 6 _ 1 rfl (List.Mem.tail _ (List.Mem.tail _ (List.Mem.tail _ (List.Mem.head _)))) fk_X11_257_6 hK41 hD41) rfl np_X11_keepFilter (by decide) (by decide) (by decide) (Nat.le_of_ble_eq_true rfl) (kI (fun r44 Z44 h44 => ?_))
      exact q_ireturn dX11_filterOfShelf_47 rfl (by decide) (by decide) (by rw [if_neg hnk]; exact filt_end h hC hkm (fun _ => hnew) h44)
  · first | refine q_astore (ls' := [_, _, _, _, _, _, _]) dX11_filterOfShelf_5 rfl rfl (Nat.le_of_ble_eq_true rfl) (by decide) ?_ | refine q_astoreN (ls' := [_, _, _, _, _, _, _]) dX11_filterOfShelf_5 rfl rfl (Nat.le_of_ble_eq_true rfl) (by decide) ?_
    first | refine q_aload dX11_filterOfShelf_7 rfl ?_ | refine q_aloadN dX11_filterOfShelf_7 rfl ?_
    refine q_ifnonnullN dX11_filterOfShelf_9 ?_
    refine q_bipush (v := (-2)) dX11_filterOfShelf_12 (by decide) ?_
    exact q_ireturn dX11_filterOfShelf_14 rfl (by decide) (by decide) (by rw [if_pos hn]; exact ⟨af, nf, rfl, h, KM.rf x Z⟩)
