noncomputable def listS (σ : St) : Int32 × St := if 20 ≤ σ.1 16 0 then (-3, σ) else (σ.1 16 0, addS σ (σ.1 16 0).toNatClampNeg 1 (σ.1 18 (σ.1 16 0).toNatClampNeg) (σ.1 19 (σ.1 16 0).toNatClampNeg) (σ.1 20 (σ.1 16 0).toNatClampNeg) (σ.1 21 (σ.1 16 0).toNatClampNeg) 1 0 (σ.2 22 (σ.1 16 0).toNatClampNeg) (σ.2 25 (σ.1 16 0).toNatClampNeg) (σ.2 26 (σ.1 16 0).toNatClampNeg) 0)
theorem list_new {Z : Zt} {x nf ns a : Nat} {σ : St} {af as' : Nat → Nat} {s t fa nn : Int32} {v F S : Int64} (ha : as' ns = a) (hx : x + 63 ≤ a) (hK : zK Z a = 8) (h0 : zF Z 0 a = .int 1) (h1 : zF Z 1 a = .int 1) (h2 : zF Z 2 a = .null) (h3 : zF Z 3 a = .ref (a - 2)) (h4 : zF Z 4 a = .null) (k1 : zK Z (a - 2) = 6) (k2 : zF Z 0 (a - 2) = .ref (a - 1)) (k3 : zF Z 1 (a - 2) = .int 1) (k4 : zF Z 2 (a - 2) = .int 0) (k5 : zK Z (a - 1) = 21) (k6 : zL Z (a - 1) = 12) :
    sO0 Z x (addS σ ns 1 s t fa nn 1 0 v F S 0) as' ns ∧ sO1 Z x (addS σ ns 1 s t fa nn 1 0 v F S 0) as' ns ∧ sO2 Z x (addS σ ns 1 s t fa nn 1 0 v F S 0) as' ns ∧ sO3 Z (addS σ ns 1 s t fa nn 1 0 v F S 0) af as' nf ns := by
  subst ha
  refine ⟨⟨by omega, hK, by rw [addS_17]; exact h0, ⟨1, by omega, by omega, by rw [addS_23]; rfl, h1⟩, Or.inl (by rw [addS_24])⟩, fun z => ?_, fun _ => ⟨h2, Or.inl (by rw [addS_17]), fun _ => ⟨h4, hx, h3, k1, k2, k3, k5, k6, 0, by omega, k4, by rw [addS_27]; rfl, fun i hi => by omega⟩, fun z => ?_⟩, fun _ z => ?_⟩
  · rw [addS_24] at z; exact absurd z (by decide)
  · rw [addS_17] at z; exact absurd z (by decide)
  · rw [addS_17] at z; exact absurd z (by decide)
theorem list_end {Z Z2 Z1 : Zt} {x nf ns a : Nat} {σ : St} {af as : Nat → Nat} {r : Int32} (h : CR Z x σ af as nf ns) (hC : CR Z2 x σ af as nf ns) (hkm : KM x Z Z2) (ha : zN Z ≤ a) (hnew : ∀ (s t fa nn : Int32) (v F S : Int64), sO0 Z2 x (addS σ ns 1 s t fa nn 1 0 v F S 0) (fun s => if s = ns then a else as s) ns ∧ sO1 Z2 x (addS σ ns 1 s t fa nn 1 0 v F S 0) (fun s => if s = ns then a else as s) ns ∧ sO2 Z2 x (addS σ ns 1 s t fa nn 1 0 v F S 0) (fun s => if s = ns then a else as s) ns ∧ sO3 Z2 (addS σ ns 1 s t fa nn 1 0 v F S 0) af (fun s => if s = ns then a else as s) nf ns)
    (hk : ((20 ≤ nI ns ∨ ¬ (1 : Int32) ≤ 6) → r = -3 ∧ Z1 = Z2) ∧ (¬ (20 ≤ nI ns ∨ ¬ (1 : Int32) ≤ 6) → r = nI ns ∧ Z1 = sF (sR Z2 (x + 4) ns (some a)) 5 x (.int (nI (ns + 1))))) : ∃ as1 ns1, r = (listS σ).1 ∧ CR Z1 x (listS σ).2 af as1 nf ns1 ∧ KM x Z Z1 := by
  have t3 := h.2.2.2.2.1.2.2.1
  have t4 := h.2.2.2.2.1.2.2.2.1
  unfold listS
  rw [t3, nI_clamp (by omega)]
  by_cases hf : 20 ≤ nI ns
  · rw [if_pos hf]
    obtain ⟨e1, e2⟩ := hk.1 (Or.inl hf)
    rw [e2]
    exact ⟨as, ns, e1, hC, hkm⟩
  · rw [if_neg hf]
    obtain ⟨e1, e2⟩ := hk.2 (fun z => z.elim hf (fun y => y (by decide)))
    have hlt : ns < 20 := Classical.byContradiction fun z => hf (show nI 20 ≤ nI ns from nI_le (by omega) (by omega))
    obtain ⟨u1, u2⟩ := CR_addS 1 _ _ _ _ 1 0 _ _ _ 0 hC hlt (fun s hs => by have := h.asN hs; omega) e2 (hnew _ _ _ _ _ _ _)
    exact ⟨_, _, e1, u1, hkm.tr u2⟩
theorem Fr_tJ {n : Nat} {Z : Zt} {a : Nat} {g : Nat → Int64} (h : n ≤ a) : Fr n Z (tJ Z a g) := ⟨Nat.le_refl _, fun _ _ => rfl, fun b hb => ⟨rfl, rfl, rfl, by rw [zJ_tJ, if_neg (by omega)], rfl, fun _ => rfl⟩⟩
set_option maxHeartbeats 600000 in
set_option maxRecDepth 100000 in
theorem cc_list (l : Launch) (G : Gt) (Z : Zt) (x nf ns : Nat) (af as : Nat → Nat) (σ : St) (h : CR Z x σ af as nf ns) : Ct l G YX11_list (5, 4, 29) Z [.ref x] (ΦI (fun r Z1 => ∃ as1 ns1, r = (listS σ).1 ∧ CR Z1 x (listS σ).2 af as1 nf ns1 ∧ KM x Z Z1)) := by
  refine ct_of [some (.ref x), none] (by decide +kernel) (Nat.le_of_ble_eq_true rfl) rfl (fun M => ?_)
  have hx := h.1.1.1
  have hT := h.2.2.2.2.1
  have hs20 := hT.2.2.2.1
  have hN := h.2.2.2.2.2.2
  refine q_new dX11_list_0 nk_X11_9 rfl (by decide) (by decide) ?_
  refine q_dup dX11_list_3 rfl ?_
  refine q_callIN dX11_list_4 mn_X11_51 rfl (c_X6_init l G _ (zN Z) zK_nO' (by rw [zN_nO]; omega)) rfl np_X6_init (by decide) (by decide) (by decide) (Nat.le_of_ble_eq_true rfl) (kV (fun Z4 h4 => ?_))
  have K4 : ∀ b, zK Z4 b = zK (nA (nO Z 6 (fun k => defaultValue (tyTab 5 k))) 21 12) b := fun b => by rw [h4, zK_sF, zK_sF]
  have s1 : zK Z4 (zN Z) = 6 := by rw [K4, zK_nA (by rw [zN_nO]; omega), zK_nO']
  have s2 : zK Z4 (zN Z + 1) = 21 := by rw [K4]; exact zK_nA'
  have s3 : zL Z4 (zN Z + 1) = 12 := by rw [h4, zL_sF, zL_sF]; exact zL_nA'
  have s4 : zF Z4 0 (zN Z) = .ref (zN Z + 1) := by rw [h4, zF_sF, if_neg (by omega), zF_sF, if_pos ⟨rfl, rfl⟩, zN_nO]
  have s5 : zN Z4 = zN Z + 2 := by rw [h4, zN_sF, zN_sF, zN_nA, zN_nO]
  have hFr4 : Fr (zN Z) Z Z4 := by
    rw [h4]
    exact (((Fr_nO (Nat.le_refl _)).tr (Fr_nA (by rw [zN_nO]; omega))).tr (Fr_sF (Nat.le_refl _))).tr (Fr_sF (Nat.le_refl _))
  first | refine q_astore_n (ls' := [_, _]) dX11_list_7 rfl rfl (Nat.le_of_ble_eq_true rfl) (by decide) ?_ | refine q_astore_nN (ls' := [_, _]) dX11_list_7 rfl rfl (Nat.le_of_ble_eq_true rfl) (by decide) ?_
  first | refine q_aload_n dX11_list_8 rfl ?_ | refine q_aload_nN dX11_list_8 rfl ?_
  refine q_iconst (v := 1) dX11_list_9 (by decide) ?_
  refine q_iconst (v := 0) dX11_list_10 (by decide) ?_
  refine q_callV 5 dX11_list_11 mk_X11_59 rfl s1 (c_X6_hold l G Z4 (zN Z) (zN Z + 1) 1 0 s1 s4 s2 s3) rfl np_X6_hold (by decide) (by decide) (by decide) (Nat.le_of_ble_eq_true rfl) (kV (fun Z11 h11 => ?_))
  obtain ⟨g, h11, hg⟩ := h11
  have u1 : zK Z11 = zK Z4 := by rw [h11, zK_tJ, zK_sF, zK_sF, zK_sF]
  have u2 : zL Z11 = zL Z4 := by rw [h11, zL_tJ, zL_sF, zL_sF, zL_sF]
  have u3 : zN Z11 = zN Z + 2 := by rw [h11, zN_tJ, zN_sF, zN_sF, zN_sF, s5]
  have u4 : zF Z11 0 (zN Z) = .ref (zN Z + 1) := by rw [h11, zF_tJ, zF_sF, if_neg (by omega), zF_sF, if_neg (by omega), zF_sF, if_neg (by omega)]; exact s4
  have u5 : zF Z11 1 (zN Z) = .int 1 := by rw [h11, zF_tJ, zF_sF, if_neg (by omega), zF_sF, if_neg (by omega), zF_sF, if_pos ⟨rfl, rfl⟩]
  have u6 : zF Z11 2 (zN Z) = .int 0 := by rw [h11, zF_tJ, zF_sF, if_neg (by omega), zF_sF, if_pos ⟨rfl, rfl⟩, if_pos (Or.inl rfl)]
  have hFr11 : Fr (zN Z) Z Z11 := by
    refine hFr4.tr ?_
    rw [h11]
    exact (((Fr_sF (Nat.le_refl _)).tr (Fr_sF (Nat.le_refl _))).tr (Fr_sF (Nat.le_refl _))).tr (Fr_tJ (by omega))
  first | refine q_aload_n dX11_list_14 rfl ?_ | refine q_aload_nN dX11_list_14 rfl ?_
  refine q_new dX11_list_15 nk_X11_27 rfl (by decide) (by decide) ?_
  refine q_dup dX11_list_18 rfl ?_
  refine q_iconst (v := 1) dX11_list_19 (by decide) ?_
  refine q_aconst_null dX11_list_20 ?_
  refine q_aconst_null dX11_list_21 ?_
  refine q_aconst_null dX11_list_22 ?_
  first | refine q_aload_n dX11_list_23 rfl ?_ | refine q_aload_nN dX11_list_23 rfl ?_
  refine q_iconst (v := 0) dX11_list_24 (by decide) ?_
  refine q_lconst (v := 0) dX11_list_25 (by decide) ?_
  refine q_callI dX11_list_26 mk_X11_138 rfl (c_init_row l G _ (zN Z11) (zN Z) 1 0 _ 0 zK_nO' _ (c_dep_nn l G _) (c_pl_n l G _ 1 0) (fun r Z1 hh => by rw [hh.2, zK_sF, zK_sF]; exact zK_nO')) rfl np_X8_init_ (by decide) (by decide) (by decide) (Nat.le_of_ble_eq_true rfl) (kV (fun Z26 h26 => ?_))
  obtain ⟨rq, Zp, ⟨hrq, hZp⟩, h26⟩ := h26
  have F : ∀ k b, zF Z26 k b = _ := fun k b => by rw [h26, zF_sSr, hZp, zF_sF, zF_sF]
  have eK : ∀ b, zK Z26 b = zK (nO Z11 8 (fun k => defaultValue (tyTab 7 k))) b := fun b => by rw [h26, zK_sSr, hZp, zK_sF, zK_sF]
  have hK26 : zK Z26 (zN Z11) = 8 := by rw [eK, zK_nO']
  have n7 : ∀ {k b : Nat} {X : Value}, b ≠ zN Z11 → zF Z11 k b = X → zF Z26 k b = X := fun hb hX => by rw [F, if_neg (fun z => hb z.2), if_neg (fun z => hb z.2), if_neg (fun z => hb z.2), if_neg (fun z => hb z.2), if_neg (fun z => hb z.2), if_neg (fun z => hb z.2), if_neg (fun z => hb z.2), if_neg (fun z => hb z.2), if_neg (fun z => hb z.2), zF_nO hb]; exact hX
  have hD26 : zF Z26 1 (zN Z11) = .int 1 := by rw [F, if_neg (by omega), if_neg (by omega), if_neg (by omega), if_neg (by omega), if_neg (by omega), if_neg (by omega), if_neg (by omega), if_pos ⟨rfl, rfl⟩]; rfl
  have hFr : Fr (zN Z) Z Z26 := by
    refine hFr11.tr ?_
    rw [h26, hZp]
    exact (((Fr_nO (by omega)).tr (Fr_sF (by omega))).tr (Fr_sF (by omega))).tr (Fr_sSr (by omega))
  have hC := h.fr hFr
  have hkm := hFr.km hN
  have hL26 : zL Z26 = zL Z11 := by rw [h26]; unfold sSr; rw [zL_sF, zL_sF, zL_sF, zL_sF, zL_sF, zL_sF, zL_sF, hZp, zL_sF, zL_sF, zL_nO]
  have hnew := fun s t fa nn v F0 S0 => list_new (Z := Z26) (x := x) (nf := nf) (ns := ns) (a := zN Z11) (σ := σ) (af := af) (as' := fun s => if s = ns then zN Z11 else as s) (s := s) (t := t) (fa := fa) (nn := nn) (v := v) (F := F0) (S := S0) (if_pos rfl) (by omega) hK26
    (by rw [F, if_neg (by omega), if_neg (by omega), if_neg (by omega), if_neg (by omega), if_neg (by omega), if_neg (by omega), if_neg (by omega), if_neg (by omega), if_pos ⟨rfl, rfl⟩]) hD26
    (by rw [F, if_neg (by omega), if_neg (by omega), if_neg (by omega), if_neg (by omega), if_neg (by omega), if_neg (by omega), if_pos ⟨rfl, rfl⟩, hrq]; rfl)
    (by rw [F, if_neg (by omega), if_neg (by omega), if_neg (by omega), if_neg (by omega), if_neg (by omega), if_pos ⟨rfl, rfl⟩, u3, Nat.add_sub_cancel])
    (by rw [F, if_neg (by omega), if_neg (by omega), if_neg (by omega), if_neg (by omega), if_pos ⟨rfl, rfl⟩])
    (by rw [u3, Nat.add_sub_cancel, eK, zK_nO (by omega), u1]; exact s1)
    (by rw [u3, Nat.add_sub_cancel]; exact n7 (by omega) u4)
    (by rw [u3, Nat.add_sub_cancel]; exact n7 (by omega) u5)
    (by rw [u3, Nat.add_sub_cancel]; exact n7 (by omega) u6)
    (by rw [u3, show zN Z + 2 - 1 = zN Z + 1 by omega, eK, zK_nO (by omega), u1]; exact s2)
    (by rw [u3, show zN Z + 2 - 1 = zN Z + 1 by omega, hL26, u2]; exact s3)
  refine q_callV 10 dX11_list_29 mk_X11_130 rfl hC.1.1.1.1 (cc_keepSource l G Z26 x nf ns af as σ hC (zN Z11) 1 hK26 hD26) rfl np_X11_keepSource (by decide) (by decide) (by decide) (Nat.le_of_ble_eq_true rfl) (kI (fun r29 Z29 h29 => ?_))
  exact q_ireturn dX11_list_32 rfl (by decide) (by decide) (list_end h hC hkm (by omega) hnew h29)
