def rgF (x : Nat) (Z Z' : Zt) : Prop := zK Z' = zK Z ∧ zL Z' = zL Z ∧ zR Z' = zR Z ∧ zN Z' = zN Z ∧ zI Z' = zI Z ∧ (∀ b, b ≠ x + 10 → zJ Z' b = zJ Z b) ∧ (∀ k b, ¬ (b = x + 9 ∧ (k = 0 ∨ k = 2)) → zF Z' k b = zF Z k b)
theorem CR_rg {Z Z' : Zt} {x nf ns : Nat} {σ σ' : St} {af as : Nat → Nat} (h : CR Z x σ af as nf ns) (e : rgF x Z Z') (hr : rgO Z' x σ') (s1 : ∀ j, j ≠ 36 → σ'.1 j = σ.1 j) (s2 : ∀ j, j ≠ 37 → j ≠ 38 → j ≠ 39 → j ≠ 40 → σ'.2 j = σ.2 j) : CR Z' x σ' af as nf ns ∧ KM x Z Z' := by
  obtain ⟨h1, h2, h3, h4, ⟨t1, t2, t3, t4, t5, t6, t7⟩, h6, h7⟩ := h
  obtain ⟨e1, e2, e3, e4, e5, e6, e7⟩ := e
  refine ⟨⟨h1.cong ⟨fun a _ _ => ⟨by rw [e1], by rw [e2]⟩, fun k a hf => e7 k a (by unfold fixF at hf; omega), by rw [e3], by rw [e3]⟩ (fun k a i j => e7 k a (by omega)) (fun a i j => e6 a (by omega)) (fun b hb => by rw [e5]) (e7 _ _ (by omega)) (e7 _ _ (by omega)) (fun f hf => ?_) (fun k hk => s1 k (by omega)) (fun k hk => s2 k (by omega) (by omega) (by omega) (by omega)),
    h2.cong (fun a _ _ => ⟨by rw [e1], by rw [e2]⟩) (fun k a ha _ => e7 k a (by omega)) (fun a ha _ => e6 a (by omega)) ⟨fun k hk => s1 k (by omega), fun k hk => s2 k (by omega) (by omega) (by omega) (by omega)⟩,
    h3.cong (e7 _ _ (by omega)) (e6 _ (by omega)) (by rw [e5]) (by rw [e5]) (s1 32 (by decide)) (s1 34 (by decide)) (s1 35 (by decide)) (s2 33 (by decide) (by decide) (by decide) (by decide)), hr,
    ⟨by rw [e7 4 x (by omega)]; exact t1, by rw [e7 5 x (by omega)]; exact t2, by rw [s1 16 (by decide)]; exact t3, t4, fun f hf => by rw [e3]; exact t5 f hf, fun s hs => by rw [e3]; exact t6 s hs, t7⟩, fun a ha => by rw [e1]; exact h6 a (by rw [← e4]; exact ha), by rw [e4]; exact h7⟩,
    by rw [e4]; exact Nat.le_refl _, fun b hb1 hb2 => ⟨by rw [e1], by rw [e2], by rw [e5], e6 b (by omega), by rw [e3], fun k => e7 k b (by omega)⟩⟩
  have ha := (h1.2.2.2.2.2.2 f hf).1.1.1
  exact ⟨by rw [e1], fun k => e7 k _ (by omega)⟩
def plnS (σ : St) (s : Nat) : St := (fun k i => if k = 36 ∧ i = 0 then 1 else σ.1 k i, fun k i => if k = 37 ∧ i = 0 then σ.2 25 s else if k = 38 ∧ i = 0 then σ.2 26 s else if k = 39 ∧ i = 0 then σ.2 27 s else σ.2 k i)
def gthS (σ : St) (L : List Int64) : St := (fun k i => if k = 36 ∧ i = 0 then 0 else σ.1 k i, fun k i => if k = 39 ∧ i = 0 then lN L.length else if k = 40 ∧ i < L.length then L.getD i 0 else σ.2 k i)
theorem pln_1 (σ : St) (s k i : Nat) : (plnS σ s).1 k i = if k = 36 ∧ i = 0 then 1 else σ.1 k i := rfl
theorem pln_2 (σ : St) (s k i : Nat) : (plnS σ s).2 k i = if k = 37 ∧ i = 0 then σ.2 25 s else if k = 38 ∧ i = 0 then σ.2 26 s else if k = 39 ∧ i = 0 then σ.2 27 s else σ.2 k i := rfl
theorem gth_1 (σ : St) (L : List Int64) (k i : Nat) : (gthS σ L).1 k i = if k = 36 ∧ i = 0 then 0 else σ.1 k i := rfl
theorem gth_2 (σ : St) (L : List Int64) (k i : Nat) : (gthS σ L).2 k i = if k = 39 ∧ i = 0 then lN L.length else if k = 40 ∧ i < L.length then L.getD i 0 else σ.2 k i := rfl
theorem CR_pln {Z Z' : Zt} {x nf ns s q : Nat} {σ : St} {af as : Nat → Nat} (h : CR Z x σ af as nf ns) (hq : stO Z x σ q s) (hz : Z' = sF (sF Z 0 (x + 9) (.ref q)) 2 (x + 9) (.int 0)) : CR Z' x (plnS σ s) af as nf ns ∧ KM x Z Z' := by
  have F : ∀ k b, zF Z' k b = if k = 2 ∧ b = x + 9 then .int 0 else if k = 0 ∧ b = x + 9 then .ref q else zF Z k b := fun k b => by rw [hz, zF_sF, zF_sF]
  refine CR_rg h ⟨by rw [hz, zK_sF, zK_sF], by rw [hz, zL_sF, zL_sF], by rw [hz, zR_sF, zR_sF], by rw [hz, zN_sF, zN_sF], by rw [hz, zI_sF, zI_sF], fun b _ => by rw [hz, zJ_sF, zJ_sF], fun k b hb => by rw [F, if_neg (by omega), if_neg (by omega)]⟩ (Or.inr ⟨by rw [pln_1, if_pos ⟨rfl, rfl⟩], q, by rw [F, if_neg (by omega), if_pos ⟨rfl, rfl⟩], ?_⟩) (fun j hj => by funext i; rw [pln_1, if_neg (by omega)]) (fun j h1 h2 h3 h4 => by funext i; rw [pln_2, if_neg (by omega), if_neg (by omega), if_neg (by omega)])
  rw [pln_2, pln_2, pln_2, if_pos ⟨rfl, rfl⟩, if_neg (by omega), if_pos ⟨rfl, rfl⟩, if_neg (by omega), if_neg (by omega), if_pos ⟨rfl, rfl⟩]
  have h9 := hq.1
  exact (stO_G.mp hq).cong (by rw [hz, zK_sF, zK_sF]) (fun k => by rw [F, if_neg (by omega), if_neg (by omega)])
theorem CR_gth {Z Z' : Zt} {x nf ns : Nat} {σ : St} {af as : Nat → Nat} {L : List Int64} (h : CR Z x σ af as nf ns) (hL : L.length ≤ 200) (hz : RG Z Z' (x + 9) (x + 10) L) : CR Z' x (gthS σ L) af as nf ns ∧ KM x Z Z' := by
  obtain ⟨g1, g2, g3, g4, g5, g6, g7, g8, g9, g10⟩ := hz
  refine CR_rg h ⟨g1, g2, g3, g4, g5, g6, g7⟩ (Or.inl ⟨by rw [gth_1, if_pos ⟨rfl, rfl⟩], g8, L.length, hL, by rw [gth_2, if_pos ⟨rfl, rfl⟩], g9, fun i hi => ?_⟩) (fun j hj => by funext i; rw [gth_1, if_neg (by omega)]) (fun j h1 h2 h3 h4 => by funext i; rw [gth_2, if_neg (by omega), if_neg (by omega)])
  rw [gth_2, if_neg (by omega), if_pos ⟨rfl, hi⟩]
  have := At_get g10 hi
  rw [Nat.zero_add] at this
  rw [this]; simp [List.getD_eq_getElem?_getD, List.getElem?_eq_getElem hi]
noncomputable def rngS (σ : St) (s : Nat) : Int32 × St := if σ.1 24 s = 1 then (1, plnS σ s) else match gS 6 s σ with
  | (.inl e, τ) => (e, τ)
  | (.inr L, τ) => (1, gthS τ (ddS [] L))
noncomputable def rangeR (σ : St) (s : Int32) : Int32 × St := if s < 0 ∨ ¬ s < σ.1 16 0 then (-1, σ) else rngS (pI (pI σ 15 0 0) 32 0 0) s.toNatClampNeg
theorem GF_range (x : Nat) (Z : Zt) : GF x Z (sF (sF Z 4 (x + 5) (.int 0)) 3 (x + 5) (.int 0)) := ⟨rfl, rfl, rfl, rfl, fun k a h1 _ => by rw [zF_sF, if_neg (by omega), zF_sF, if_neg (by omega)], fun _ _ _ _ => rfl, fun _ _ _ => rfl⟩
theorem begin_CR {Z Z' : Zt} {x nf ns : Nat} {σ : St} {af as : Nat → Nat} (h : CR Z x σ af as nf ns) (hm : MK Z x) (hz : Z' = sF (sF Z 4 (x + 5) (.int 0)) 3 (x + 5) (.int 0)) : CR Z' x (pI (pI σ 15 0 0) 32 0 0) af as nf ns ∧ KM x Z Z' := by
  have F : ∀ k b, zF Z' k b = if k = 3 ∧ b = x + 5 then .int 0 else if k = 4 ∧ b = x + 5 then .int 0 else zF Z k b := fun k b => by rw [hz, zF_sF, zF_sF]
  have hG : GF x Z Z' := by rw [hz]; exact GF_range x Z
  have S : ∀ k, k ≠ 15 → k ≠ 32 → (pI (pI σ 15 0 0) 32 0 0).1 k = σ.1 k := fun k h1 h2 => by rw [pI_ne h2, pI_ne h1]
  refine CR_GF h hm (FIs_zero h.1 hG (by rw [hz, zI_sF, zI_sF]) (fun a => by rw [F, if_neg (by omega), if_neg (by omega)]) (by rw [F, if_neg (by omega), if_pos ⟨rfl, rfl⟩]) S (by rw [pI_ne (by decide), pI_at]) rfl) ⟨0, by omega, pI_at _ _ _ _, by rw [F, if_pos ⟨rfl, rfl⟩]; rfl, fun i hi => by omega⟩ hG ⟨fun k _ _ _ h4 h5 _ _ => S k h4 h5, fun _ _ => rfl⟩
theorem rngS_p {σ : St} {s : Nat} (h : σ.1 24 s = 1) : rngS σ s = (1, plnS σ s) := by rw [rngS, if_pos h]
theorem rngS_l {σ τ : St} {s : Nat} {e : Int32} (h : ¬ σ.1 24 s = 1) (hg : gS 6 s σ = (.inl e, τ)) : rngS σ s = (e, τ) := by rw [rngS, if_neg h, hg]
theorem rngS_r {σ τ : St} {s : Nat} {L : List Int64} (h : ¬ σ.1 24 s = 1) (hg : gS 6 s σ = (.inr L, τ)) : rngS σ s = (1, gthS τ (ddS [] L)) := by rw [rngS, if_neg h, hg]
set_option maxHeartbeats 600000 in
set_option maxRecDepth 100000 in
theorem cc_range (l : Launch) (G : Gt) (Z : Zt) (x nf ns : Nat) (af as : Nat → Nat) (σ : St) (h : CR Z x σ af as nf ns) (hm : MK Z x) (k : Int32) : Ct l G YX11_range (19, 0, 0) Z [.ref x, .int k] (ΦI (fun r Z1 => r = (rangeR σ k).1 ∧ CR Z1 x (rangeR σ k).2 af as nf ns ∧ KM x Z Z1)) := by
  refine ct_of [some (.ref x), some (.int k), none, none] (by decide +kernel) (Nat.le_of_ble_eq_true rfl) rfl (fun M => ?_)
  have hx := h.1.1.1
  have ht := h.1.1.2.2.1
  have hT := h.2.2.2.2.1
  have hn20 := h.1.2.2.2.2.2.1
  have hs20 := hT.2.2.2.1
  first | refine q_aload_n dX11_range_0 rfl ?_ | refine q_aload_nN dX11_range_0 rfl ?_
  refine q_iload_n dX11_range_1 rfl ?_
  refine q_callV 10 dX11_range_2 mk_X11_141 rfl hx.1 (cc_sourceAt l G Z x nf ns af as σ h k) rfl np_X11_sourceAt (by decide) (by decide) (by decide) (Nat.le_of_ble_eq_true rfl) (kA (fun r2 Z2 h2 => ?_))
  obtain ⟨e2, h2⟩ := h2
  rw [e2]
  rcases h2 with ⟨s, hs, rfl, rfl⟩ | ⟨hn, rfl⟩
  · have hs2 : (nI s).toNatClampNeg = s := nI_clamp (by omega)
    have hnk : ¬ (nI s < 0 ∨ ¬ nI s < σ.1 16 0) := fun z => by rw [hT.2.2.1] at z; exact z.elim (ix_in (m := ns) (by omega) hs).1 (fun y => y (ix_in (m := ns) (by omega) hs).2)
    first | refine q_astore_n (ls' := [_, _, _, _]) dX11_range_5 rfl rfl (Nat.le_of_ble_eq_true rfl) (by decide) ?_ | refine q_astore_nN (ls' := [_, _, _, _]) dX11_range_5 rfl rfl (Nat.le_of_ble_eq_true rfl) (by decide) ?_
    first | refine q_aload_n dX11_range_6 rfl ?_ | refine q_aload_nN dX11_range_6 rfl ?_
    refine q_ifnonnull 12 dX11_range_7 (by decide) ?_
    first | refine q_aload_n dX11_range_12 rfl ?_ | refine q_aload_nN dX11_range_12 rfl ?_
    refine q_getf dX11_range_13 fk_X11_36_10 hx.1 hx.2.2.2.2.2.1 ?_
    refine q_callV 9 dX11_range_16 mk_X11_166 rfl ht.1 (c_X10_beginRange l G Z (x + 5) ht.1) rfl np_X10_beginRange (by decide) (by decide) (by decide) (Nat.le_of_ble_eq_true rfl) (kV (fun Z16 h16 => ?_))
    obtain ⟨hc, hkm⟩ := begin_CR h hm h16
    have hbl : bLe (pI (pI σ 15 0 0) 32 0 0) := ⟨0, 0, pI_at _ _ _ _, by rw [pI_ne (by decide), pI_at]; rfl, by omega, by omega⟩
    have hR : rangeR σ (nI s) = rngS (pI (pI σ 15 0 0) 32 0 0) s := by unfold rangeR; rw [if_neg hnk, hs2]
    generalize pI (pI σ 15 0 0) 32 0 0 = σ0 at *
    obtain ⟨⟨a1, a2, a3, a4, a5⟩, o1, o2, o3⟩ := hc.2.1 s hs
    have hx0 := hc.1.1.1
    have hr0 := hc.1.1.2.2.2.1
    by_cases hp : σ0.1 24 s = 1
    · obtain ⟨-, q, hq, hst⟩ := o1 hp
      first | refine q_aload_n dX11_range_19 rfl ?_ | refine q_aload_nN dX11_range_19 rfl ?_
      refine q_getf dX11_range_20 fk_X11_169_7 a2 hq ?_
      refine q_ifnull dX11_range_23 ?_
      first | refine q_aload_n dX11_range_26 rfl ?_ | refine q_aload_nN dX11_range_26 rfl ?_
      refine q_getf dX11_range_27 fk_X11_43_10 hx0.1 hx0.2.2.2.2.2.2.1 ?_
      first | refine q_aload_n dX11_range_30 rfl ?_ | refine q_aload_nN dX11_range_30 rfl ?_
      refine q_getf dX11_range_31 fk_X11_169_7 a2 hq ?_
      refine q_callV 4 dX11_range_34 mk_X11_173 rfl hr0.1 (c_X5_becomePlain l G Z16 (x + 9) q hr0.1) rfl np_X5_becomePlain (by decide) (by decide) (by decide) (Nat.le_of_ble_eq_true rfl) (kV (fun Z34 h34 => ?_))
      refine q_iconst (v := 1) dX11_range_37 (by decide) ?_
      exact q_ireturn dX11_range_38 rfl (by decide) (by decide) (by rw [hR, rngS_p hp]; obtain ⟨u1, u2⟩ := CR_pln hc hst h34; exact ⟨rfl, u1, hkm.tr u2⟩)
    · have hp0 : σ0.1 24 s = 0 := a5.resolve_right hp
      obtain ⟨n2, -⟩ := o2 hp0
      have hdp : sdp σ0 s ≤ 6 := by
        obtain ⟨d, d1, -, d2, -⟩ := a4
        unfold sdp; rw [d2, nI_clamp (by omega)]; exact d1
      first | refine q_aload_n dX11_range_19 rfl ?_ | refine q_aload_nN dX11_range_19 rfl ?_
      refine q_getf dX11_range_20 fk_X11_169_7 a2 n2 ?_
      refine q_ifnullN 39 dX11_range_23 (by decide) ?_
      first | refine q_aload_n dX11_range_39 rfl ?_ | refine q_aload_nN dX11_range_39 rfl ?_
      first | refine q_aload_n dX11_range_40 rfl ?_ | refine q_aload_nN dX11_range_40 rfl ?_
      refine q_getf dX11_range_41 fk_X11_47_10 hx0.1 hx0.2.2.2.2.2.2.2 ?_
      refine q_iconst (v := 0) dX11_range_44 (by decide) ?_
      first | refine q_aload_n dX11_range_45 rfl ?_ | refine q_aload_nN dX11_range_45 rfl ?_
      refine q_getf dX11_range_46 fk_X11_36_10 hx0.1 hx0.2.2.2.2.2.1 ?_
      refine q_callV 7 dX11_range_49 mk_X11_176 rfl a2 (cg l G x nf ns af as hs20 6 s 0 Z16 σ0 hs hdp (by omega) hc.1 hc.2.1 hc.2.2.1 hbl) rfl np_X8_gather (by decide) (by decide) (by decide) (Nat.le_of_ble_eq_true rfl) (kI (fun r49 Z49 h49 => ?_))
      obtain ⟨⟨g1, g2, g3, g4, g5, g6⟩, g7⟩ := h49
      have hkp := kp8_gS 6 s σ0
      have hm16 : MK Z16 x := fun b i j => by rw [(hkm.2 b i j).1]; exact hm b i j
      obtain ⟨hc2, hkm2⟩ := CR_GF hc hm16 g1 g2 g4 hkp
      rcases hg : gS 6 s σ0 with ⟨e | L, τ⟩
      · rw [hg] at hc2 g6
        dsimp only at hc2 g6
        refine q_istore_n (ls' := [_, _, _, _]) dX11_range_52 rfl rfl (Nat.le_of_ble_eq_true rfl) (by decide) ?_
        refine q_iload_n dX11_range_53 rfl ?_
        refine q_if_ge 59 dX11_range_54 (by decide) (fun c54 => absurd c54 (by rw [g6.1]; exact g6.2)) (fun c54 => ?_)
        refine q_iload_n dX11_range_57 rfl ?_
        exact q_ireturn dX11_range_58 rfl (by decide) (by decide) (by rw [hR, rngS_l hp hg]; exact ⟨g6.1, hc2, hkm.tr hkm2⟩)
      · rw [hg] at hc2 g6 g7
        dsimp only at hc2 g6 g7
        obtain ⟨g8, g9⟩ := g6
        have g10 := g7 L rfl
        subst g8
        have hx2 := hc2.1.1.1
        have hr2 := hc2.1.1.2.2.2.1
        refine q_istore_n (ls' := [_, _, _, _]) dX11_range_52 rfl rfl (Nat.le_of_ble_eq_true rfl) (by decide) ?_
        refine q_iload_n dX11_range_53 rfl ?_
        refine q_if_ge 59 dX11_range_54 (by decide) (fun c54 => ?_) (fun c54 => absurd c54 (not_not_intro (nI_pos' (by omega))))
        first | refine q_aload_n dX11_range_59 rfl ?_ | refine q_aload_nN dX11_range_59 rfl ?_
        refine q_getf dX11_range_60 fk_X11_43_10 hx2.1 hx2.2.2.2.2.2.2.1 ?_
        first | refine q_aload_n dX11_range_63 rfl ?_ | refine q_aload_nN dX11_range_63 rfl ?_
        refine q_getf dX11_range_64 fk_X11_47_10 hx2.1 hx2.2.2.2.2.2.2.2 ?_
        refine q_iload_n dX11_range_67 rfl ?_
        refine q_callV 4 dX11_range_68 mk_X11_180 rfl hr2.1 (c_X5_becomeGathered l G Z49 (x + 9) (x + 11) (x + 10) L hr2.1 hr2.2.1 hr2.2.2.1 hr2.2.2.2.1 hr2.2.2.2.2.1 hr2.2.2.2.2.2 (by omega) g10 g9) rfl np_X5_becomeGathered (by decide) (by decide) (by decide) (Nat.le_of_ble_eq_true rfl) (kV (fun Z68 h68 => ?_))
        refine q_iconst (v := 1) dX11_range_71 (by decide) ?_
        exact q_ireturn dX11_range_72 rfl (by decide) (by decide) (by rw [hR, rngS_r hp hg]; obtain ⟨u1, u2⟩ := CR_gth hc2 (Nat.le_trans (ddS_len L []) (by simpa using g10)) h68; exact ⟨rfl, u1, (hkm.tr hkm2).tr u2⟩)
  · first | refine q_astore_n (ls' := [_, _, _, _]) dX11_range_5 rfl rfl (Nat.le_of_ble_eq_true rfl) (by decide) ?_ | refine q_astore_nN (ls' := [_, _, _, _]) dX11_range_5 rfl rfl (Nat.le_of_ble_eq_true rfl) (by decide) ?_
    first | refine q_aload_n dX11_range_6 rfl ?_ | refine q_aload_nN dX11_range_6 rfl ?_
    refine q_ifnonnullN dX11_range_7 ?_
    refine q_iconst (v := (-1)) dX11_range_10 (by decide) ?_
    exact q_ireturn dX11_range_11 rfl (by decide) (by decide) (by unfold rangeR; rw [if_pos (by rw [hT.2.2.1]; exact hn)]; exact ⟨rfl, h, KM.rf x Z⟩)
