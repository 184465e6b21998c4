def MK (Z : Zt) (x : Nat) : Prop := ∀ b, x + 30 ≤ b → b < x + 61 → zK Z b ≠ 3
theorem CR_GF {Z Z' : Zt} {x nf ns : Nat} {σ σ' : St} {af as : Nat → Nat} (h : CR Z x σ af as nf ns) (hm : MK Z x) (hF : FIs Z' x σ' af nf) (hb : brO Z' x σ') (g : GF x Z Z') (hk : kp8 σ σ') : CR Z' x σ' af as nf ns ∧ KM x Z Z' := by
  obtain ⟨h1, h2, h3, h4, ⟨t1, t2, t3, t4, t5, t6, t7⟩, h6, h7⟩ := h
  obtain ⟨e1, e2, e3, e4, e5, e6, e7⟩ := id g
  have K1 : ∀ k, k ≠ 5 → k ≠ 12 → k ≠ 14 → k ≠ 15 → k ≠ 32 → k ≠ 34 → k ≠ 35 → σ'.1 k = σ.1 k := hk.1
  have hxK := h1.1.1.1
  have hrK := h1.1.2.2.2.1.1
  refine ⟨⟨hF, SIs_GF h2 g hk, hb, h4.cong (e5 _ _ (by omega) (by omega)) (e5 _ _ (by omega) (by omega)) (e7 _ (by omega) (by omega)) (fun q hq hq9 => ⟨by rw [e1], fun k => e5 k q (by omega) (by omega)⟩) (K1 36 (by decide) (by decide) (by decide) (by decide) (by decide) (by decide) (by decide)) (hk.2 37 (by decide)) (hk.2 38 (by decide)) (hk.2 39 (by decide)) (hk.2 40 (by decide)),
    ⟨by rw [e5 4 x (by omega) (by omega)]; exact t1, by rw [e5 5 x (by omega) (by omega)]; exact t2, by rw [K1 16 (by decide) (by decide) (by decide) (by decide) (by decide) (by decide) (by decide)]; exact t3, t4, fun f hf => by rw [e3]; exact t5 f hf, fun s hs => by rw [e3]; exact t6 s hs, t7⟩, fun a ha => by rw [e1]; exact h6 a (by rw [← e4]; exact ha), by rw [e4]; exact h7⟩,
    by rw [e4]; exact Nat.le_refl _, fun b h1 h2 => ⟨by rw [e1], by rw [e2], e6 b (fun c hc => by omega) (by omega) (by omega), e7 b (by omega) (by omega), by rw [e3], fun k => e5 k b (by omega) (fun z => hm b h1 h2 z.2)⟩⟩
theorem FIs_zero {Z Z' : Zt} {x nf : Nat} {σ σ' : St} {af : Nat → Nat} (h : FIs Z x σ af nf) (g : GF x Z Z') (hI : zI Z' = zI Z) (h5 : ∀ a, zF Z' 5 a = zF Z 5 a) (h4 : zF Z' 4 (x + 5) = .int 0) (s1 : ∀ k, k ≠ 15 → k ≠ 32 → σ'.1 k = σ.1 k) (s15 : σ'.1 15 0 = 0) (s2 : σ'.2 = σ.2) : FIs Z' x σ' af nf := by
  obtain ⟨a1, a2, a3, a4, a5, a6, a7⟩ := h
  obtain ⟨e1, e2, e3, e4, e5, e6, e7⟩ := id g
  refine ⟨a1.ss g.ss, fun k hk => ?_, fun k i hk hi => ?_, ?_, ?_, a6, fun f hff => ?_⟩
  · obtain ⟨b1, b2, ⟨pt, b3, b4⟩, b5, b6⟩ := a2 k hk
    rw [e5 1 _ (by omega) (by omega), e5 2 _ (by omega) (by omega), e5 3 _ (by omega) (by omega), e7 _ (by omega) (by omega), s1 1 (by decide) (by decide), s1 2 (by decide) (by decide), s2]
    exact ⟨b1, b2, ⟨pt, b3, b4⟩, b5, b6⟩
  · rw [hI, s1 5 (by decide) (by decide)]; exact a3 k i hk hi
  · unfold tyO
    obtain ⟨-, ⟨ar, r1, -⟩, -⟩ := a4
    rw [h4, h5, s15]
    exact ⟨rfl, ⟨ar, r1, fun z => absurd z (by decide)⟩, 0, by omega, rfl⟩
  · rw [s1 6 (by decide) (by decide)]; exact a5
  · obtain ⟨g1, g2⟩ := a7 f hff
    have hx := g1.1.1
    exact ⟨g1.cong (by rw [e1]) (fun k hk => e5 k _ (by omega) (by omega)) (s1 7 (by decide) (by decide)) (s1 8 (by decide) (by decide)) (s1 9 (by decide) (by decide)) (s1 11 (by decide) (by decide)) (by rw [s2]), g2.cong (h5 _) (s1 7 (by decide) (by decide)) (s1 12 (by decide) (by decide))⟩
set_option maxHeartbeats 600000 in
set_option maxRecDepth 100000 in
theorem cc_filterAt (l : Launch) (G : Gt) (Z : Zt) (x nf ns : Nat) (af as : Nat → Nat) (σ : St) (h : CR Z x σ af as nf ns) (k : Int32) : Ct l G YX11_filterAt (0, 0, 0) Z [.ref x, .int k] (ΦA (fun r Z1 => Z1 = Z ∧ ((∃ j, j < nf ∧ k = nI j ∧ r = some (af j)) ∨ ((k < 0 ∨ ¬ k < nI nf) ∧ r = none)))) := by
  refine ct_of [some (.ref x), some (.int k)] (by decide +kernel) (Nat.le_of_ble_eq_true rfl) rfl (fun M => ?_)
  have hx := h.1.1.1
  have ha := h.1.1.2.1
  have hT := h.2.2.2.2.1
  have hn20 := h.1.2.2.2.2.2.1
  have hs20 := hT.2.2.2.1
  refine q_iload_n dX11_filterAt_0 rfl ?_
  refine q_if_lt 12 dX11_filterAt_1 (by decide) (fun c1 => ?_) (fun c1 => ?_)
  · refine q_aconst_null dX11_filterAt_12 ?_
    refine q_goto 22 dX11_filterAt_13 (by decide) ?_
    exact q_areturnN dX11_filterAt_22 rfl (Or.inl ⟨_, rfl⟩) (by decide) (by decide) ⟨rfl, Or.inr ⟨Or.inl c1, rfl⟩⟩
  · refine q_iload_n dX11_filterAt_4 rfl ?_
    first | refine q_aload_n dX11_filterAt_5 rfl ?_ | refine q_aload_nN dX11_filterAt_5 rfl ?_
    refine q_getf dX11_filterAt_6 fk_X11_97_10 hx.1 hT.1 ?_
    refine q_icmp_lt 16 dX11_filterAt_9 (by decide) (fun c9 => ?_) (fun c9 => ?_)
    · obtain ⟨j, hj, rfl⟩ := ix_of (m := nf) (by omega) c1 c9
      have hv : va_rf (zR Z (x + 3) (nI j).toNatClampNeg) = .ref (af j) := by rw [nI_clamp (by omega), hT.2.2.2.2.1 j hj]; rfl
      first | refine q_aload_n dX11_filterAt_16 rfl ?_ | refine q_aload_nN dX11_filterAt_16 rfl ?_
      refine q_getf dX11_filterAt_17 fk_X11_23_10 hx.1 hx.2.2.2.1 ?_
      refine q_iload_n dX11_filterAt_20 rfl ?_
      refine q_aald 1 dX11_filterAt_21 (by decide) ha.2.2.2.2.1 (by rw [ha.2.2.2.2.2.1]; exact vp_in_nI (by omega) (by decide)) hv ?_
      exact q_areturn dX11_filterAt_22 rfl (Or.inl ⟨_, rfl⟩) (by decide) (by decide) ⟨rfl, Or.inl ⟨j, hj, rfl, rfl⟩⟩
    · refine q_aconst_null dX11_filterAt_12 ?_
      refine q_goto 22 dX11_filterAt_13 (by decide) ?_
      exact q_areturnN dX11_filterAt_22 rfl (Or.inl ⟨_, rfl⟩) (by decide) (by decide) ⟨rfl, Or.inr ⟨Or.inr c9, rfl⟩⟩
set_option maxHeartbeats 600000 in
set_option maxRecDepth 100000 in
theorem cc_sourceAt (l : Launch) (G : Gt) (Z : Zt) (x nf ns : Nat) (af as : Nat → Nat) (σ : St) (h : CR Z x σ af as nf ns) (k : Int32) : Ct l G YX11_sourceAt (0, 0, 0) Z [.ref x, .int k] (ΦA (fun r Z1 => Z1 = Z ∧ ((∃ j, j < ns ∧ k = nI j ∧ r = some (as j)) ∨ ((k < 0 ∨ ¬ k < nI ns) ∧ r = none)))) := by
  refine ct_of [some (.ref x), some (.int k)] (by decide +kernel) (Nat.le_of_ble_eq_true rfl) rfl (fun M => ?_)
  have hx := h.1.1.1
  have ha := h.1.1.2.1
  have hT := h.2.2.2.2.1
  have hn20 := h.1.2.2.2.2.2.1
  have hs20 := hT.2.2.2.1
  refine q_iload_n dX11_sourceAt_0 rfl ?_
  refine q_if_lt 12 dX11_sourceAt_1 (by decide) (fun c1 => ?_) (fun c1 => ?_)
  · refine q_aconst_null dX11_sourceAt_12 ?_
    refine q_goto 22 dX11_sourceAt_13 (by decide) ?_
    exact q_areturnN dX11_sourceAt_22 rfl (Or.inl ⟨_, rfl⟩) (by decide) (by decide) ⟨rfl, Or.inr ⟨Or.inl c1, rfl⟩⟩
  · refine q_iload_n dX11_sourceAt_4 rfl ?_
    first | refine q_aload_n dX11_sourceAt_5 rfl ?_ | refine q_aload_nN dX11_sourceAt_5 rfl ?_
    refine q_getf dX11_sourceAt_6 fk_X11_228_10 hx.1 hT.2.1 ?_
    refine q_icmp_lt 16 dX11_sourceAt_9 (by decide) (fun c9 => ?_) (fun c9 => ?_)
    · obtain ⟨j, hj, rfl⟩ := ix_of (m := ns) (by omega) c1 c9
      have hv : va_rf (zR Z (x + 4) (nI j).toNatClampNeg) = .ref (as j) := by rw [nI_clamp (by omega), hT.2.2.2.2.2.1 j hj]; rfl
      first | refine q_aload_n dX11_sourceAt_16 rfl ?_ | refine q_aload_nN dX11_sourceAt_16 rfl ?_
      refine q_getf dX11_sourceAt_17 fk_X11_29_10 hx.1 hx.2.2.2.2.1 ?_
      refine q_iload_n dX11_sourceAt_20 rfl ?_
      refine q_aald 3 dX11_sourceAt_21 (by decide) ha.2.2.2.2.2.2.1 (by rw [ha.2.2.2.2.2.2.2]; exact vp_in_nI (by omega) (by decide)) hv ?_
      exact q_areturn dX11_sourceAt_22 rfl (Or.inl ⟨_, rfl⟩) (by decide) (by decide) ⟨rfl, Or.inl ⟨j, hj, rfl, rfl⟩⟩
    · refine q_aconst_null dX11_sourceAt_12 ?_
      refine q_goto 22 dX11_sourceAt_13 (by decide) ?_
      exact q_areturnN dX11_sourceAt_22 rfl (Or.inl ⟨_, rfl⟩) (by decide) (by decide) ⟨rfl, Or.inr ⟨Or.inr c9, rfl⟩⟩
def askedR (σ : St) (f : Int32) : Int32 := if f < 0 ∨ ¬ f < σ.1 6 0 then -1 else σ.1 12 f.toNatClampNeg
set_option maxHeartbeats 600000 in
set_option maxRecDepth 100000 in
theorem cc_asked (l : Launch) (G : Gt) (Z : Zt) (x nf ns : Nat) (af as : Nat → Nat) (σ : St) (h : CR Z x σ af as nf ns) (k : Int32) : Ct l G YX11_asked (1, 0, 0) Z [.ref x, .int k] (ΦI (fun r Z1 => Z1 = Z ∧ r = askedR σ k)) := by
  refine ct_of [some (.ref x), some (.int k), none] (by decide +kernel) (Nat.le_of_ble_eq_true rfl) rfl (fun M => ?_)
  have hx := h.1.1.1
  have ha := h.1.1.2.1
  have hT := h.2.2.2.2.1
  have hn20 := h.1.2.2.2.2.2.1
  have hs20 := hT.2.2.2.1
  first | refine q_aload_n dX11_asked_0 rfl ?_ | refine q_aload_nN dX11_asked_0 rfl ?_
  refine q_iload_n dX11_asked_1 rfl ?_
  refine q_callV 10 dX11_asked_2 mk_X11_108 rfl hx.1 (cc_filterAt l G Z x nf ns af as σ h k) rfl np_X11_filterAt (by decide) (by decide) (by decide) (Nat.le_of_ble_eq_true rfl) (kA (fun r2 Z2 h2 => ?_))
  obtain ⟨e2, h2⟩ := h2
  rw [e2]
  rcases h2 with ⟨f, hf, rfl, rfl⟩ | ⟨hn, rfl⟩
  · obtain ⟨g1, g2⟩ := h.1.2.2.2.2.2.2 f hf
    have hf2 : (nI f).toNatClampNeg = f := nI_clamp (by omega)
    have hnk : ¬ (nI f < 0 ∨ ¬ nI f < σ.1 6 0) := fun z => by rw [h.1.2.2.2.2.1] at z; exact z.elim (ix_in (m := nf) (by omega) hf).1 (fun y => y (ix_in (m := nf) (by omega) hf).2)
    first | refine q_astore_n (ls' := [_, _, _]) dX11_asked_5 rfl rfl (Nat.le_of_ble_eq_true rfl) (by decide) ?_ | refine q_astore_nN (ls' := [_, _, _]) dX11_asked_5 rfl rfl (Nat.le_of_ble_eq_true rfl) (by decide) ?_
    first | refine q_aload_n dX11_asked_6 rfl ?_ | refine q_aload_nN dX11_asked_6 rfl ?_
    refine q_ifnonnull 14 dX11_asked_7 (by decide) ?_
    first | refine q_aload_n dX11_asked_14 rfl ?_ | refine q_aload_nN dX11_asked_14 rfl ?_
    by_cases hm : 7 ≤ σ.1 7 f ∧ σ.1 7 f ≤ 11
    · obtain ⟨hkd, n2, -⟩ := g1.2.2.2.1 hm
      obtain ⟨ta, n5, n6⟩ := g2.1 hm
      refine q_callU xT 2 RX3 dX11_asked_15 ut_X11_X3 ut_sm (by decide) ut_dc ut_sel_X3 ut_im3 rfl hkd (c_X3_timesAsked l G Z (af f) (σ.1 7 f) ta hkd n2 n5) rfl np_X3_timesAsked (by decide) (by decide) (by decide) (Nat.le_of_ble_eq_true rfl) (kI (fun r15 Z15 h15 => ?_))
      obtain ⟨e15, h15⟩ := h15
      rw [e15]
      have hv12 : (if σ.1 7 f = 11 then ta else 0) = σ.1 12 f := by
        by_cases c : σ.1 7 f = 11
        · rw [if_pos c]; exact n6 c
        · rw [if_neg c]; exact (g2.2 c).symm
      exact q_ireturn dX11_asked_18 rfl (by decide) (by decide) ⟨rfl, by unfold askedR; rw [if_neg hnk, hf2, h15]; exact hv12⟩
    · have hk4 : zK Z (af f) = 2 ∨ zK Z (af f) = 4 ∨ zK Z (af f) = 7 := by
        by_cases c1 : σ.1 7 f = 3 ∨ σ.1 7 f = 12
        · exact Or.inr (Or.inr (g1.2.1 c1).1)
        · by_cases c2 : σ.1 7 f = 5
          · exact Or.inl (g1.2.2.1 c2).1
          · exact Or.inr (Or.inl (g1.2.2.2.2 c1 c2 hm).1)
      rcases hk4 with hkd | hkd | hkd
      · refine q_callU xT 1 RX1 dX11_asked_15 ut_X11_X2 ut_sm (by decide) ut_dc ut_sel_X1 ut_im rfl hkd (c_X2_timesAsked l G Z (af f)) rfl np_X2_timesAsked (by decide) (by decide) (by decide) (Nat.le_of_ble_eq_true rfl) (kI (fun r15 Z15 h15 => ?_))
        obtain ⟨e15, h15⟩ := h15
        rw [e15]
        exact q_ireturn dX11_asked_18 rfl (by decide) (by decide) ⟨rfl, by unfold askedR; rw [if_neg hnk, hf2, h15, g2.2 (fun c => hm (by rw [c]; decide))]⟩
      · refine q_callU xT 3 RX4 dX11_asked_15 ut_X11_X2 ut_sm (by decide) ut_dc ut_sel_X4 ut_im rfl hkd (c_X2_timesAsked l G Z (af f)) rfl np_X2_timesAsked (by decide) (by decide) (by decide) (Nat.le_of_ble_eq_true rfl) (kI (fun r15 Z15 h15 => ?_))
        obtain ⟨e15, h15⟩ := h15
        rw [e15]
        exact q_ireturn dX11_asked_18 rfl (by decide) (by decide) ⟨rfl, by unfold askedR; rw [if_neg hnk, hf2, h15, g2.2 (fun c => hm (by rw [c]; decide))]⟩
      · refine q_callU xT 6 RX7 dX11_asked_15 ut_X11_X2 ut_sm (by decide) ut_dc ut_sel_X7 ut_im rfl hkd (c_X2_timesAsked l G Z (af f)) rfl np_X2_timesAsked (by decide) (by decide) (by decide) (Nat.le_of_ble_eq_true rfl) (kI (fun r15 Z15 h15 => ?_))
        obtain ⟨e15, h15⟩ := h15
        rw [e15]
        exact q_ireturn dX11_asked_18 rfl (by decide) (by decide) ⟨rfl, by unfold askedR; rw [if_neg hnk, hf2, h15, g2.2 (fun c => hm (by rw [c]; decide))]⟩
  · first | refine q_astore_n (ls' := [_, _, _]) dX11_asked_5 rfl rfl (Nat.le_of_ble_eq_true rfl) (by decide) ?_ | refine q_astore_nN (ls' := [_, _, _]) dX11_asked_5 rfl rfl (Nat.le_of_ble_eq_true rfl) (by decide) ?_
    first | refine q_aload_n dX11_asked_6 rfl ?_ | refine q_aload_nN dX11_asked_6 rfl ?_
    refine q_ifnonnullN dX11_asked_7 ?_
    refine q_iconst (v := (-1)) dX11_asked_10 (by decide) ?_
    refine q_goto 18 dX11_asked_11 (by decide) ?_
    exact q_ireturn dX11_asked_18 rfl (by decide) (by decide) ⟨rfl, by unfold askedR; rw [if_pos (by rw [h.1.2.2.2.2.1]; exact hn)]⟩
noncomputable def askR (σ : St) (f : Int32) (c : Int64) : Int32 × St := if f < 0 ∨ ¬ f < σ.1 6 0 then (-1, σ) else jS 6 f.toNatClampNeg c (pI σ 15 0 0)
theorem GF_ask (x : Nat) (Z : Zt) : GF x Z (sF Z 4 (x + 5) (.int 0)) := ⟨rfl, rfl, rfl, rfl, fun k a h1 _ => by rw [zF_sF, if_neg (by omega)], fun _ _ _ _ => rfl, fun _ _ _ => rfl⟩
theorem ask_CR {Z Z1 Z2 : Zt} {x nf ns f : Nat} {σ : St} {af as : Nat → Nat} {c : Int64} {r : Int32} (h : CR Z x σ af as nf ns) (hm : MK Z x) (hz : Z1 = sF Z 4 (x + 5) (.int 0)) (hj : r = (jS 6 f c (pI σ 15 0 0)).1 ∧ FIs Z2 x (jS 6 f c (pI σ 15 0 0)).2 af nf ∧ JF x Z1 Z2) : r = (jS 6 f c (pI σ 15 0 0)).1 ∧ CR Z2 x (jS 6 f c (pI σ 15 0 0)).2 af as nf ns ∧ KM x Z Z2 := by
  obtain ⟨h1, h2, h3⟩ := hj
  subst hz
  have hk := kp4_jS 6 f c (pI σ 15 0 0)
  have hk8 : kp8 σ (jS 6 f c (pI σ 15 0 0)).2 := kp8.tr ⟨fun k _ _ _ h4 _ _ _ => pI_ne h4, fun k _ => rfl⟩ hk.k8
  have hb : brO (sF Z 4 (x + 5) (.int 0)) x (pI σ 15 0 0) := h.2.2.1.cong (by rw [zF_sF, if_neg (by omega)]) rfl rfl rfl (pI_ne (by decide)) (pI_ne (by decide)) (pI_ne (by decide)) rfl
  exact ⟨h1, CR_GF h hm h2 (brO_JF hb h3 hk) ((GF_ask x Z).tr h3.gf) hk8⟩
set_option maxHeartbeats 600000 in
set_option maxRecDepth 100000 in
theorem cc_ask (l : Launch) (G : Gt) (Z : Zt) (x nf ns : Nat) (af as : Nat → Nat) (σ : St) (h : CR Z x σ af as nf ns) (hm : MK Z x) (k : Int32) (c : Int64) : Ct l G YX11_ask (10, 0, 0) Z [.ref x, .int k, .long c] (ΦI (fun r Z1 => r = (askR σ k c).1 ∧ CR Z1 x (askR σ k c).2 af as nf ns ∧ KM x Z Z1)) := by
  refine ct_of [some (.ref x), some (.int k), some (.long c), none, none] (by decide +kernel) (Nat.le_of_ble_eq_true rfl) rfl (fun M => ?_)
  have hx := h.1.1.1
  have ha := h.1.1.2.1
  have hT := h.2.2.2.2.1
  have hn20 := h.1.2.2.2.2.2.1
  have hs20 := hT.2.2.2.1
  first | refine q_aload_n dX11_ask_0 rfl ?_ | refine q_aload_nN dX11_ask_0 rfl ?_
  refine q_iload_n dX11_ask_1 rfl ?_
  refine q_callV 10 dX11_ask_2 mk_X11_108 rfl hx.1 (cc_filterAt l G Z x nf ns af as σ h k) rfl np_X11_filterAt (by decide) (by decide) (by decide) (Nat.le_of_ble_eq_true rfl) (kA (fun r2 Z2 h2 => ?_))
  obtain ⟨e2, h2⟩ := h2
  rw [e2]
  rcases h2 with ⟨f, hf, rfl, rfl⟩ | ⟨hn, rfl⟩
  · have ht := h.1.1.2.2.1
    have hf2 : (nI f).toNatClampNeg = f := nI_clamp (by omega)
    have hnk : ¬ (nI f < 0 ∨ ¬ nI f < σ.1 6 0) := fun z => by rw [h.1.2.2.2.2.1] at z; exact z.elim (ix_in (m := nf) (by omega) hf).1 (fun y => y (ix_in (m := nf) (by omega) hf).2)
    first | refine q_astore (ls' := [_, _, _, _, _]) dX11_ask_5 rfl rfl (Nat.le_of_ble_eq_true rfl) (by decide) ?_ | refine q_astoreN (ls' := [_, _, _, _, _]) dX11_ask_5 rfl rfl (Nat.le_of_ble_eq_true rfl) (by decide) ?_
    first | refine q_aload dX11_ask_7 rfl ?_ | refine q_aloadN dX11_ask_7 rfl ?_
    refine q_ifnonnull 14 dX11_ask_9 (by decide) ?_
    first | refine q_aload_n dX11_ask_14 rfl ?_ | refine q_aload_nN dX11_ask_14 rfl ?_
    refine q_getf dX11_ask_15 fk_X11_36_10 hx.1 hx.2.2.2.2.2.1 ?_
    refine q_callV 9 dX11_ask_18 mk_X11_112 rfl ht.1 (c_X10_beginAsk l G Z (x + 5) ht.1) rfl np_X10_beginAsk (by decide) (by decide) (by decide) (Nat.le_of_ble_eq_true rfl) (kV (fun Z18 h18 => ?_))
    have hG := GF_ask x Z
    have hF0 : FIs Z18 x (pI σ 15 0 0) af nf := by
      rw [h18]
      exact FIs_zero h.1 hG (zI_sF _ _ _ _) (fun a => by rw [zF_sF, if_neg (by omega)]) (by rw [zF_sF, if_pos ⟨rfl, rfl⟩]) (fun k hk _ => pI_ne hk) (pI_at _ _ _ _) rfl
    have hdp : dpt (pI σ 15 0 0) f ≤ 6 := by
      obtain ⟨⟨-, -, d, d1, -, d2, -⟩, -⟩ := (hF0.2.2.2.2.2.2 f hf).1
      unfold dpt; rw [d2, nI_clamp (by omega)]; exact d1
    have hx0 := hF0.1.1
    first | refine q_aload dX11_ask_21 rfl ?_ | refine q_aloadN dX11_ask_21 rfl ?_
    refine q_lload_n dX11_ask_23 rfl ?_
    first | refine q_aload_n dX11_ask_24 rfl ?_ | refine q_aload_nN dX11_ask_24 rfl ?_
    refine q_getf dX11_ask_25 fk_X11_36_10 hx0.1 hx0.2.2.2.2.2.1 ?_
    refine q_callJ dX11_ask_28 uj_X11_X1 uj_X11_X3 uj_X11_X4 uj_X11_X7 (cj l G x nf af 6 f c Z18 (pI σ 15 0 0) hf hdp hF0) rfl rfl (by decide) (by decide) (by decide) (Nat.le_of_ble_eq_true rfl) (kI (fun r28 Z28 h28 => ?_))
    exact q_ireturn dX11_ask_31 rfl (by decide) (by decide) (by unfold askR; rw [if_neg hnk, hf2]; exact ask_CR h hm h18 h28)
  · first | refine q_astore (ls' := [_, _, _, _, _]) dX11_ask_5 rfl rfl (Nat.le_of_ble_eq_true rfl) (by decide) ?_ | refine q_astoreN (ls' := [_, _, _, _, _]) dX11_ask_5 rfl rfl (Nat.le_of_ble_eq_true rfl) (by decide) ?_
    first | refine q_aload dX11_ask_7 rfl ?_ | refine q_aloadN dX11_ask_7 rfl ?_
    refine q_ifnonnullN dX11_ask_9 ?_
    refine q_iconst (v := (-1)) dX11_ask_12 (by decide) ?_
    exact q_ireturn dX11_ask_13 rfl (by decide) (by decide) (by unfold askR; rw [if_pos (by rw [h.1.2.2.2.2.1]; exact hn)]; exact ⟨rfl, h, KM.rf x Z⟩)
