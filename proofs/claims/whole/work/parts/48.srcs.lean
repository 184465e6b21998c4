noncomputable def keepS (σ : St) (so s t a nn d pl : Int32) (v F S C : Int64) : Int32 × St := if 20 ≤ σ.1 16 0 ∨ ¬ d ≤ 6 then (-3, σ) else (σ.1 16 0, addS σ (σ.1 16 0).toNatClampNeg so s t a nn d pl v F S C)
theorem src_end {Z Z2 Z1 : Zt} {x nf ns a : Nat} {σ : St} {af as : Nat → Nat} {r so s t fa nn d pl : Int32} {v F S C : Int64} (h : CR Z x σ af as nf ns) (hC : CR Z2 x σ af as nf ns) (hkm : KM x Z Z2) (ha : zN Z ≤ a) (hnew : d ≤ 6 → sO0 Z2 x (addS σ ns so s t fa nn d pl v F S C) (fun s => if s = ns then a else as s) ns ∧ sO1 Z2 x (addS σ ns so s t fa nn d pl v F S C) (fun s => if s = ns then a else as s) ns ∧ sO2 Z2 x (addS σ ns so s t fa nn d pl v F S C) (fun s => if s = ns then a else as s) ns ∧ sO3 Z2 (addS σ ns so s t fa nn d pl v F S C) af (fun s => if s = ns then a else as s) nf ns)
    (hk : ((20 ≤ nI ns ∨ ¬ d ≤ 6) → r = -3 ∧ Z1 = Z2) ∧ (¬ (20 ≤ nI ns ∨ ¬ d ≤ 6) → r = nI ns ∧ Z1 = sF (sR Z2 (x + 4) ns (some a)) 5 x (.int (nI (ns + 1))))) : ∃ as1 ns1, r = (keepS σ so s t fa nn d pl v F S C).1 ∧ CR Z1 x (keepS σ so s t fa nn d pl v F S C).2 af as1 nf ns1 ∧ KM x Z Z1 := by
  have t3 := h.2.2.2.2.1.2.2.1
  have t4 := h.2.2.2.2.1.2.2.2.1
  unfold keepS
  rw [t3, nI_clamp (by omega)]
  by_cases hf : 20 ≤ nI ns ∨ ¬ d ≤ 6
  · rw [if_pos hf]
    obtain ⟨e1, e2⟩ := hk.1 hf
    rw [e2]
    exact ⟨as, ns, e1, hC, hkm⟩
  · rw [if_neg hf]
    obtain ⟨e1, e2⟩ := hk.2 hf
    have hlt : ns < 20 := Classical.byContradiction fun z => hf (Or.inl (show nI 20 ≤ nI ns from nI_le (by omega) (by omega)))
    obtain ⟨u1, u2⟩ := CR_addS so s t fa nn d pl v F S C hC hlt (fun s hs => by have := h.asN hs; omega) e2 (hnew (Classical.byContradiction fun z => hf (Or.inr z)))
    exact ⟨_, _, e1, u1, hkm.tr u2⟩
theorem shelf_newS {Z : Zt} {x nf ns a j : Nat} {σ : St} {af as' : Nat → Nat} {s t nn : Int32} {v F S C : Int64} (ha : as' ns = a) (hx : x + 61 ≤ a) (hj : j < 6) (hK : zK Z a = 8) (h0 : zF Z 0 a = .int 9) (h1 : zF Z 1 a = .int 1) (h2 : zF Z 2 a = .null) (h3 : zF Z 3 a = .ref (x + 12 + 2 * j)) (h4 : zF Z 4 a = .null) :
    sO0 Z x (addS σ ns 9 s t (nI j) nn 1 0 v F S C) as' ns ∧ sO1 Z x (addS σ ns 9 s t (nI j) nn 1 0 v F S C) as' ns ∧ sO2 Z x (addS σ ns 9 s t (nI j) nn 1 0 v F S C) as' ns ∧ sO3 Z (addS σ ns 9 s t (nI j) nn 1 0 v F S C) af as' nf ns := by
  subst ha
  refine ⟨⟨hx, hK, by rw [addS_17]; exact h0, ⟨1, by omega, by omega, by rw [addS_23]; rfl, h1⟩, Or.inl (by rw [addS_24])⟩, fun z => ?_, fun _ => ⟨h2, Or.inr (Or.inl (by rw [addS_17])), fun z => ?_, fun _ => ⟨h4, j, hj, by rw [addS_20], h3⟩⟩, fun _ z => ?_⟩
  · rw [addS_24] at z; exact absurd z (by decide)
  · rw [addS_17] at z; exact absurd z (by decide)
  · rw [addS_17] at z; exact absurd z (by decide)
set_option maxHeartbeats 600000 in
set_option maxRecDepth 100000 in
theorem cc_sourceOfShelf (l : Launch) (G : Gt) (Z : Zt) (x nf ns : Nat) (af as : Nat → Nat) (σ : St) (h : CR Z x σ af as nf ns) (a s t nn : Int32) (v F S C : Int64) : Ct l G YX11_sourceOfShelf (5, 2, 13) Z [.ref x, .int a] (ΦI (fun r Z1 => ∃ as1 ns1, r = (if a < 0 ∨ ¬ a < 6 then (-2, σ) else keepS σ 9 s t a nn 1 0 v F S C).1 ∧ CR Z1 x (if a < 0 ∨ ¬ a < 6 then (-2, σ) else keepS σ 9 s t a nn 1 0 v F S C).2 af as1 nf ns1 ∧ KM x Z Z1)) := by
  refine ct_of [some (.ref x), some (.int a), none] (by decide +kernel) (Nat.le_of_ble_eq_true rfl) rfl (fun M => ?_)
  have hx := h.1.1.1
  have hT := h.2.2.2.2.1
  have hs20 := hT.2.2.2.1
  have hN := h.2.2.2.2.2.2
  first | refine q_aload_n dX11_sourceOfShelf_0 rfl ?_ | refine q_aload_nN dX11_sourceOfShelf_0 rfl ?_
  refine q_iload_n dX11_sourceOfShelf_1 rfl ?_
  refine q_callV 10 dX11_sourceOfShelf_2 mk_X11_55 rfl hx.1 (cc_shelfAt l G Z x nf ns af as σ h a) rfl np_X11_shelfAt (by decide) (by decide) (by decide) (Nat.le_of_ble_eq_true rfl) (kA (fun r2 Z2 h2 => ?_))
  obtain ⟨e2, h2⟩ := h2
  rw [e2]
  rcases h2 with ⟨j, hj, rfl, rfl⟩ | ⟨hn, rfl⟩
  · have hnk : ¬ (nI j < 0 ∨ ¬ nI j < 6) := fun z => z.elim (ix_in (m := 6) (by decide) hj).1 (fun y => y (ix_in (m := 6) (by decide) hj).2)
    first | refine q_astore_n (ls' := [_, _, _]) dX11_sourceOfShelf_5 rfl rfl (Nat.le_of_ble_eq_true rfl) (by decide) ?_ | refine q_astore_nN (ls' := [_, _, _]) dX11_sourceOfShelf_5 rfl rfl (Nat.le_of_ble_eq_true rfl) (by decide) ?_
    first | refine q_aload_n dX11_sourceOfShelf_6 rfl ?_ | refine q_aload_nN dX11_sourceOfShelf_6 rfl ?_
    refine q_ifnonnull 13 dX11_sourceOfShelf_7 (by decide) ?_
    first | refine q_aload_n dX11_sourceOfShelf_13 rfl ?_ | refine q_aload_nN dX11_sourceOfShelf_13 rfl ?_
    refine q_new dX11_sourceOfShelf_14 nk_X11_27 rfl (by decide) (by decide) ?_
    refine q_dup dX11_sourceOfShelf_17 rfl ?_
    refine q_bipush (v := 9) dX11_sourceOfShelf_18 (by decide) ?_
    refine q_aconst_null dX11_sourceOfShelf_20 ?_
    refine q_aconst_null dX11_sourceOfShelf_21 ?_
    refine q_aconst_null dX11_sourceOfShelf_22 ?_
    first | refine q_aload_n dX11_sourceOfShelf_23 rfl ?_ | refine q_aload_nN dX11_sourceOfShelf_23 rfl ?_
    refine q_iconst (v := 0) dX11_sourceOfShelf_24 (by decide) ?_
    refine q_lconst (v := 0) dX11_sourceOfShelf_25 (by decide) ?_
    refine q_callI dX11_sourceOfShelf_26 mk_X11_138 rfl (c_init_row l G _ (zN Z) (x + 12 + 2 * j) 9 0 _ 0 zK_nO' _ (c_dep_nn l G _) (c_pl_n l G _ 9 0) (fun r Z1 hh => by rw [hh.2, zK_sF, zK_sF]; exact zK_nO')) rfl np_X8_init_ (by decide) (by decide) (by decide) (Nat.le_of_ble_eq_true rfl) (kV (fun Z26 h26 => ?_))
    obtain ⟨rq, Zp, ⟨hrq, hZp⟩, h26⟩ := h26
    have FF : ∀ k b, zF Z26 k b = _ := fun k b => by rw [h26, zF_sSr, hZp, zF_sF, zF_sF]
    have hK26 : zK Z26 (zN Z) = 8 := by rw [h26, zK_sSr, hZp, zK_sF, zK_sF]; exact zK_nO'
    have hD26 : zF Z26 1 (zN Z) = .int 1 := by rw [FF, if_neg (by omega), if_neg (by omega), if_neg (by omega), if_neg (by omega), if_neg (by omega), if_neg (by omega), if_neg (by omega), if_pos ⟨rfl, rfl⟩]; rfl
    have hFr : Fr (zN Z) Z Z26 := by
      rw [h26, hZp]
      exact (((Fr_nO (Nat.le_refl _)).tr (Fr_sF (Nat.le_refl _))).tr (Fr_sF (Nat.le_refl _))).tr (Fr_sSr (Nat.le_refl _))
    have hC := h.fr hFr
    have hkm := hFr.km hN
    have hnew := shelf_newS (Z := Z26) (x := x) (nf := nf) (ns := ns) (a := zN Z) (j := j) (σ := σ) (af := af) (as' := fun s => if s = ns then zN Z else as s) (s := s) (t := t) (nn := nn) (v := v) (F := F) (S := S) (C := C) (if_pos rfl) hN hj hK26
      (by rw [FF, if_neg (by omega), if_neg (by omega), if_neg (by omega), if_neg (by omega), if_neg (by omega), if_neg (by omega), if_neg (by omega), if_neg (by omega), if_pos ⟨rfl, rfl⟩]) hD26
      (by rw [FF, if_neg (by omega), if_neg (by omega), if_neg (by omega), if_neg (by omega), if_neg (by omega), if_neg (by omega), if_pos ⟨rfl, rfl⟩, hrq]; rfl)
      (by rw [FF, if_neg (by omega), if_neg (by omega), if_neg (by omega), if_neg (by omega), if_neg (by omega), if_pos ⟨rfl, rfl⟩])
      (by rw [FF, if_neg (by omega), if_neg (by omega), if_neg (by omega), if_neg (by omega), if_pos ⟨rfl, rfl⟩])
    refine q_callV 10 dX11_sourceOfShelf_29 mk_X11_130 rfl hC.1.1.1.1 (cc_keepSource l G Z26 x nf ns af as σ hC (zN Z) 1 hK26 hD26) rfl np_X11_keepSource (by decide) (by decide) (by decide) (Nat.le_of_ble_eq_true rfl) (kI (fun r29 Z29 h29 => ?_))
    exact q_ireturn dX11_sourceOfShelf_32 rfl (by decide) (by decide) (by rw [if_neg hnk]; exact src_end h hC hkm (Nat.le_refl _) (fun _ => hnew) h29)
  · first | refine q_astore_n (ls' := [_, _, _]) dX11_sourceOfShelf_5 rfl rfl (Nat.le_of_ble_eq_true rfl) (by decide) ?_ | refine q_astore_nN (ls' := [_, _, _]) dX11_sourceOfShelf_5 rfl rfl (Nat.le_of_ble_eq_true rfl) (by decide) ?_
    first | refine q_aload_n dX11_sourceOfShelf_6 rfl ?_ | refine q_aload_nN dX11_sourceOfShelf_6 rfl ?_
    refine q_ifnonnullN dX11_sourceOfShelf_7 ?_
    refine q_bipush (v := (-2)) dX11_sourceOfShelf_10 (by decide) ?_
    exact q_ireturn dX11_sourceOfShelf_12 rfl (by decide) (by decide) (by rw [if_pos hn]; exact ⟨as, ns, rfl, h, KM.rf x Z⟩)
