theorem ix_of {k : Int32} {m : Nat} (hm : m < 2 ^ 31) (h0 : ¬ k < 0) (h1 : k < nI m) : ∃ j, j < m ∧ k = nI j := by
  have a0 : ¬ k.toInt < (0 : Int32).toInt := fun z => h0 (Int32.lt_iff_toInt_lt.mpr z)
  have a1 := Int32.lt_iff_toInt_lt.mp h1
  have a2 : (0 : Int32).toInt = 0 := by decide
  have a3 : (nI m).toInt = m := toInt_of rfl hm
  have a4 : k.toNatClampNeg = k.toInt.toNat := rfl
  have a5 : (nI k.toNatClampNeg).toInt = k.toNatClampNeg := toInt_of rfl (by omega)
  exact ⟨k.toNatClampNeg, by omega, Int32.toInt_inj.mp (by omega)⟩
theorem ix_in {j m : Nat} (hm : m < 2 ^ 31) (hj : j < m) : ¬ nI j < 0 ∧ nI j < nI m := ⟨nI_pos (by omega), nI_lt (by omega) (by omega)⟩
def shF (x k : Nat) (Z Z' : Zt) : Prop := zK Z' = zK Z ∧ zL Z' = zL Z ∧ zI Z' = zI Z ∧ zR Z' = zR Z ∧ zN Z' = zN Z ∧ (∀ b, b ≠ x + 13 + 2 * k → zJ Z' b = zJ Z b) ∧ (∀ j b, ¬ (b = x + 12 + 2 * k ∧ 1 ≤ j) → zF Z' j b = zF Z j b)
theorem CR_shelf {Z Z' : Zt} {x nf ns k : Nat} {σ σ' : St} {af as : Nat → Nat} (h : CR Z x σ af as nf ns) (hk : k < 6) (e : shF x k Z Z') (hsh : shO Z' x σ') (s1 : ∀ j, j ≠ 1 → j ≠ 2 → σ'.1 j = σ.1 j) (s2 : ∀ j, j ≠ 3 → j ≠ 4 → σ'.2 j = σ.2 j) : CR Z' x σ' af as nf ns ∧ KM x Z Z' := by
  obtain ⟨⟨f1, f2, f3, f4, f5, f6, f7⟩, h2, h3, h4, ⟨t1, t2, t3, t4, t5, t6, t7⟩, h6, h7⟩ := h
  obtain ⟨e1, e2, e3, e4, e5, e6, e7⟩ := e
  have S1 : ∀ j, j ≠ 1 → j ≠ 2 → σ'.1 j = σ.1 j := s1
  refine ⟨⟨⟨f1.ss ⟨fun a _ _ => ⟨by rw [e1], by rw [e2]⟩, fun j b hf => e7 j b (by unfold fixF at hf; omega), by rw [e4], by rw [e4]⟩, hsh, fun b i hb hi => by rw [e3, s1 5 (by decide) (by decide)]; exact f3 b i hb hi, ?_, by rw [s1 6 (by decide) (by decide)]; exact f5, f6, fun f hf => ?_⟩,
    h2.cong (fun a _ _ => ⟨by rw [e1], by rw [e2]⟩) (fun j a ha _ => e7 j a (by omega)) (fun a ha _ => e6 a (by omega)) ⟨fun j hj => s1 j (by omega) (by omega), fun j hj => s2 j (by omega) (by omega)⟩,
    h3.cong (e7 _ _ (by omega)) (e6 _ (by omega)) (by rw [e3]) (by rw [e3]) (s1 32 (by decide) (by decide)) (s1 34 (by decide) (by decide)) (s1 35 (by decide) (by decide)) (s2 33 (by decide) (by decide)),
    h4.cong (e7 _ _ (by omega)) (e7 _ _ (by omega)) (e6 _ (by omega)) (fun q hq _ => ⟨by rw [e1], fun j => e7 j q (by omega)⟩) (s1 36 (by decide) (by decide)) (s2 37 (by decide) (by decide)) (s2 38 (by decide) (by decide)) (s2 39 (by decide) (by decide)) (s2 40 (by decide) (by decide)),
    ⟨by rw [e7 4 x (by omega)]; exact t1, by rw [e7 5 x (by omega)]; exact t2, by rw [s1 16 (by decide) (by decide)]; exact t3, t4, fun f hf => by rw [e4]; exact t5 f hf, fun s hs => by rw [e4]; exact t6 s hs, t7⟩, fun a ha => by rw [e1]; exact h6 a (by rw [← e5]; exact ha), by rw [e5]; exact h7⟩,
    by rw [e5]; exact Nat.le_refl _, fun b hb1 hb2 => ⟨by rw [e1], by rw [e2], by rw [e3], e6 b (by omega), by rw [e4], fun j => e7 j b (by omega)⟩⟩
  · unfold tyO
    rw [e7 4 (x + 5) (by omega), e7 5 (x + 5) (by omega), s1 15 (by decide) (by decide), s1 14 (by decide) (by decide)]; exact f4
  · obtain ⟨g1, g2⟩ := f7 f hf
    have ha := g1.1.1
    exact ⟨g1.cong (by rw [e1]) (fun j _ => e7 j _ (by omega)) (s1 7 (by decide) (by decide)) (s1 8 (by decide) (by decide)) (s1 9 (by decide) (by decide)) (s1 11 (by decide) (by decide)) (s2 10 (by decide) (by decide)), g2.cong (e7 5 _ (by omega)) (s1 7 (by decide) (by decide)) (s1 12 (by decide) (by decide))⟩
set_option maxHeartbeats 600000 in
set_option maxRecDepth 100000 in
theorem c_X6_hold (l : Launch) (G : Gt) (Z : Zt) (a it : Nat) (kd n : Int32) (hK : zK Z a = 6) (h0 : zF Z 0 a = .ref it) (hKi : zK Z it = 21) (hLi : zL Z it = 12) : Ct l G YX6_hold (1, 0, 0) Z [.ref a, .int kd, .int n] (ΦV (fun Z1 => ∃ g, Z1 = tJ (sF (sF (sF Z 1 a (.int kd)) 2 a (.int (if kd = 1 ∨ kd = 2 then n else 0))) 3 a (.int (if kd = 3 then n else 0))) it g ∧ ∀ i, i < 12 → g i = 0)) := by
  refine ct_of [some (.ref a), some (.int kd), some (.int n)] (by decide +kernel) (Nat.le_of_ble_eq_true rfl) rfl (fun M => ?_)
  first | refine q_aload_n dX6_hold_0 rfl ?_ | refine q_aload_nN dX6_hold_0 rfl ?_
  refine q_iload_n dX6_hold_1 rfl ?_
  refine q_putf dX6_hold_2 fk_X6_15_5 rfl hK rfl rfl ?_
  first | refine q_aload_n dX6_hold_5 rfl ?_ | refine q_aload_nN dX6_hold_5 rfl ?_
  refine q_iload_n dX6_hold_6 rfl ?_
  refine q_iconst (v := 1) dX6_hold_7 (by decide) ?_
  refine q_icmp_eq 16 dX6_hold_8 (by decide) (fun c8 => ?_) (fun c8 => ?_)
  · subst c8
    refine q_iload_n dX6_hold_16 rfl ?_
    refine q_goto 21 dX6_hold_17 (by decide) ?_
    refine q_putf dX6_hold_21 fk_X6_19_5 rfl (by rw [zK_sF]; exact hK) rfl rfl ?_
    first | refine q_aload_n dX6_hold_24 rfl ?_ | refine q_aload_nN dX6_hold_24 rfl ?_
    refine q_iload_n dX6_hold_25 rfl ?_
    refine q_iconst (v := 3) dX6_hold_26 (by decide) ?_
    refine q_icmp_ne 34 dX6_hold_27 (by decide) (fun c27 => ?_) (fun c27 => absurd c27 (by decide))
    refine q_iconst (v := 0) dX6_hold_34 (by decide) ?_
    refine q_putf dX6_hold_35 fk_X6_22_5 rfl (by rw [zK_sF, zK_sF]; exact hK) rfl rfl ?_
    first | refine q_aload_n dX6_hold_38 rfl ?_ | refine q_aload_nN dX6_hold_38 rfl ?_
    refine q_getf dX6_hold_39 fk_X6_9_5 (by rw [zK_sF, zK_sF, zK_sF]; exact hK) (by first | assumption | (simp only [zF_sF, zF_sI, zF_sJ, zF_sR, true_and, and_true, false_and, and_false, if_true, if_false, eq_self, reduceIte, Nat.reduceEqDiff, OfNat.ofNat_ne_zero, OfNat.zero_ne_ofNat, OfNat.ofNat_ne_one, OfNat.one_ne_ofNat, reduceCtorEq]; first | rfl | assumption)) ?_
    refine q_lconst (v := 0) dX6_hold_42 (by decide) ?_
    refine q_callS dX6_hold_43 mk_X6_25 (c_J7_fill l G _ it 0 (by rw [zK_sF, zK_sF, zK_sF]; exact hKi) (by rw [zL_sF, zL_sF, zL_sF, hLi]; decide)) rfl np_J7_fill_d0a16 (by decide) (by decide) (by decide) (Nat.le_of_ble_eq_true rfl) (kV (fun Z43 h43 => ?_))
    exact q_return dX6_hold_46 rfl (by decide) (by decide) (by obtain ⟨g, hz, hg⟩ := h43; refine ⟨g, ?_, fun i hi => hg i (by rw [zL_sF, zL_sF, zL_sF, hLi]; exact hi)⟩; rw [hz]; first | rw [if_pos (Or.inl rfl), if_neg (by decide)] | rw [if_pos (Or.inr rfl), if_neg (by decide)] | rw [if_neg (by decide), if_pos rfl] | rw [if_neg (fun z => z.elim c8 c13), if_neg c27] | exact absurd c27 (by decide))
  · refine q_iload_n dX6_hold_11 rfl ?_
    refine q_iconst (v := 2) dX6_hold_12 (by decide) ?_
    refine q_icmp_ne 20 dX6_hold_13 (by decide) (fun c13 => ?_) (fun c13 => ?_)
    · refine q_iconst (v := 0) dX6_hold_20 (by decide) ?_
      refine q_putf dX6_hold_21 fk_X6_19_5 rfl (by rw [zK_sF]; exact hK) rfl rfl ?_
      first | refine q_aload_n dX6_hold_24 rfl ?_ | refine q_aload_nN dX6_hold_24 rfl ?_
      refine q_iload_n dX6_hold_25 rfl ?_
      refine q_iconst (v := 3) dX6_hold_26 (by decide) ?_
      refine q_icmp_ne 34 dX6_hold_27 (by decide) (fun c27 => ?_) (fun c27 => ?_)
      · refine q_iconst (v := 0) dX6_hold_34 (by decide) ?_
        refine q_putf dX6_hold_35 fk_X6_22_5 rfl (by rw [zK_sF, zK_sF]; exact hK) rfl rfl ?_
        first | refine q_aload_n dX6_hold_38 rfl ?_ | refine q_aload_nN dX6_hold_38 rfl ?_
        refine q_getf dX6_hold_39 fk_X6_9_5 (by rw [zK_sF, zK_sF, zK_sF]; exact hK) (by first | assumption | (simp only [zF_sF, zF_sI, zF_sJ, zF_sR, true_and, and_true, false_and, and_false, if_true, if_false, eq_self, reduceIte, Nat.reduceEqDiff, OfNat.ofNat_ne_zero, OfNat.zero_ne_ofNat, OfNat.ofNat_ne_one, OfNat.one_ne_ofNat, reduceCtorEq]; first | rfl | assumption)) ?_
        refine q_lconst (v := 0) dX6_hold_42 (by decide) ?_
        refine q_callS dX6_hold_43 mk_X6_25 (c_J7_fill l G _ it 0 (by rw [zK_sF, zK_sF, zK_sF]; exact hKi) (by rw [zL_sF, zL_sF, zL_sF, hLi]; decide)) rfl np_J7_fill_d0a16 (by decide) (by decide) (by decide) (Nat.le_of_ble_eq_true rfl) (kV (fun Z43 h43 => ?_))
        exact q_return dX6_hold_46 rfl (by decide) (by decide) (by obtain ⟨g, hz, hg⟩ := h43; refine ⟨g, ?_, fun i hi => hg i (by rw [zL_sF, zL_sF, zL_sF, hLi]; exact hi)⟩; rw [hz]; first | rw [if_pos (Or.inl rfl), if_neg (by decide)] | rw [if_pos (Or.inr rfl), if_neg (by decide)] | rw [if_neg (by decide), if_pos rfl] | rw [if_neg (fun z => z.elim c8 c13), if_neg c27] | exact absurd c27 (by decide))
      · subst c27
        refine q_iload_n dX6_hold_30 rfl ?_
        refine q_goto 35 dX6_hold_31 (by decide) ?_
        refine q_putf dX6_hold_35 fk_X6_22_5 rfl (by rw [zK_sF, zK_sF]; exact hK) rfl rfl ?_
        first | refine q_aload_n dX6_hold_38 rfl ?_ | refine q_aload_nN dX6_hold_38 rfl ?_
        refine q_getf dX6_hold_39 fk_X6_9_5 (by rw [zK_sF, zK_sF, zK_sF]; exact hK) (by first | assumption | (simp only [zF_sF, zF_sI, zF_sJ, zF_sR, true_and, and_true, false_and, and_false, if_true, if_false, eq_self, reduceIte, Nat.reduceEqDiff, OfNat.ofNat_ne_zero, OfNat.zero_ne_ofNat, OfNat.ofNat_ne_one, OfNat.one_ne_ofNat, reduceCtorEq]; first | rfl | assumption)) ?_
        refine q_lconst (v := 0) dX6_hold_42 (by decide) ?_
        refine q_callS dX6_hold_43 mk_X6_25 (c_J7_fill l G _ it 0 (by rw [zK_sF, zK_sF, zK_sF]; exact hKi) (by rw [zL_sF, zL_sF, zL_sF, hLi]; decide)) rfl np_J7_fill_d0a16 (by decide) (by decide) (by decide) (Nat.le_of_ble_eq_true rfl) (kV (fun Z43 h43 => ?_))
        exact q_return dX6_hold_46 rfl (by decide) (by decide) (by obtain ⟨g, hz, hg⟩ := h43; refine ⟨g, ?_, fun i hi => hg i (by rw [zL_sF, zL_sF, zL_sF, hLi]; exact hi)⟩; rw [hz]; first | rw [if_pos (Or.inl rfl), if_neg (by decide)] | rw [if_pos (Or.inr rfl), if_neg (by decide)] | rw [if_neg (by decide), if_pos rfl] | rw [if_neg (fun z => z.elim c8 c13), if_neg c27] | exact absurd c27 (by decide))
    · subst c13
      refine q_iload_n dX6_hold_16 rfl ?_
      refine q_goto 21 dX6_hold_17 (by decide) ?_
      refine q_putf dX6_hold_21 fk_X6_19_5 rfl (by rw [zK_sF]; exact hK) rfl rfl ?_
      first | refine q_aload_n dX6_hold_24 rfl ?_ | refine q_aload_nN dX6_hold_24 rfl ?_
      refine q_iload_n dX6_hold_25 rfl ?_
      refine q_iconst (v := 3) dX6_hold_26 (by decide) ?_
      refine q_icmp_ne 34 dX6_hold_27 (by decide) (fun c27 => ?_) (fun c27 => absurd c27 (by decide))
      refine q_iconst (v := 0) dX6_hold_34 (by decide) ?_
      refine q_putf dX6_hold_35 fk_X6_22_5 rfl (by rw [zK_sF, zK_sF]; exact hK) rfl rfl ?_
      first | refine q_aload_n dX6_hold_38 rfl ?_ | refine q_aload_nN dX6_hold_38 rfl ?_
      refine q_getf dX6_hold_39 fk_X6_9_5 (by rw [zK_sF, zK_sF, zK_sF]; exact hK) (by first | assumption | (simp only [zF_sF, zF_sI, zF_sJ, zF_sR, true_and, and_true, false_and, and_false, if_true, if_false, eq_self, reduceIte, Nat.reduceEqDiff, OfNat.ofNat_ne_zero, OfNat.zero_ne_ofNat, OfNat.ofNat_ne_one, OfNat.one_ne_ofNat, reduceCtorEq]; first | rfl | assumption)) ?_
      refine q_lconst (v := 0) dX6_hold_42 (by decide) ?_
      refine q_callS dX6_hold_43 mk_X6_25 (c_J7_fill l G _ it 0 (by rw [zK_sF, zK_sF, zK_sF]; exact hKi) (by rw [zL_sF, zL_sF, zL_sF, hLi]; decide)) rfl np_J7_fill_d0a16 (by decide) (by decide) (by decide) (Nat.le_of_ble_eq_true rfl) (kV (fun Z43 h43 => ?_))
      exact q_return dX6_hold_46 rfl (by decide) (by decide) (by obtain ⟨g, hz, hg⟩ := h43; refine ⟨g, ?_, fun i hi => hg i (by rw [zL_sF, zL_sF, zL_sF, hLi]; exact hi)⟩; rw [hz]; first | rw [if_pos (Or.inl rfl), if_neg (by decide)] | rw [if_pos (Or.inr rfl), if_neg (by decide)] | rw [if_neg (by decide), if_pos rfl] | rw [if_neg (fun z => z.elim c8 c13), if_neg c27] | exact absurd c27 (by decide))
set_option maxHeartbeats 600000 in
set_option maxRecDepth 100000 in
theorem cc_shelfAt (l : Launch) (G : Gt) (Z : Zt) (x nf ns : Nat) (af as : Nat → Nat) (σ : St) (h : CR Z x σ af as nf ns) (k : Int32) : Ct l G YX11_shelfAt (0, 0, 0) Z [.ref x, .int k] (ΦA (fun r Z1 => Z1 = Z ∧ ((∃ j, j < 6 ∧ k = nI j ∧ r = some (x + 12 + 2 * j)) ∨ ((k < 0 ∨ ¬ k < 6) ∧ r = none)))) := by
  refine ct_of [some (.ref x), some (.int k)] (by decide +kernel) (Nat.le_of_ble_eq_true rfl) rfl (fun M => ?_)
  have hx := h.1.1.1
  have ha := h.1.1.2.1
  refine q_iload_n dX11_shelfAt_0 rfl ?_
  refine q_if_lt 10 dX11_shelfAt_1 (by decide) (fun c1 => ?_) (fun c1 => ?_)
  · refine q_aconst_null dX11_shelfAt_10 ?_
    refine q_goto 20 dX11_shelfAt_11 (by decide) ?_
    exact q_areturnN dX11_shelfAt_20 rfl (Or.inl ⟨_, rfl⟩) (by decide) (by decide) ⟨rfl, Or.inr ⟨Or.inl c1, rfl⟩⟩
  · refine q_iload_n dX11_shelfAt_4 rfl ?_
    refine q_bipush (v := 6) dX11_shelfAt_5 (by decide) ?_
    refine q_icmp_lt 14 dX11_shelfAt_7 (by decide) (fun c7 => ?_) (fun c7 => ?_)
    · obtain ⟨j, hj, rfl⟩ := ix_of (m := 6) (by decide) c1 c7
      have hv : va_rf (zR Z (x + 1) (nI j).toNatClampNeg) = .ref (x + 12 + 2 * j) := by rw [nI_clamp (by omega), (h.1.1.2.2.2.2.1 j hj).1]; rfl
      first | refine q_aload_n dX11_shelfAt_14 rfl ?_ | refine q_aload_nN dX11_shelfAt_14 rfl ?_
      refine q_getf dX11_shelfAt_15 fk_X11_11_10 hx.1 hx.2.1 ?_
      refine q_iload_n dX11_shelfAt_18 rfl ?_
      refine q_aald 2 dX11_shelfAt_19 (by decide) ha.1 (by rw [ha.2.1]; exact vp_in_nI hj (by decide)) hv ?_
      exact q_areturn dX11_shelfAt_20 rfl (Or.inl ⟨_, rfl⟩) (by decide) (by decide) ⟨rfl, Or.inl ⟨j, hj, rfl, rfl⟩⟩
    · refine q_aconst_null dX11_shelfAt_10 ?_
      refine q_goto 20 dX11_shelfAt_11 (by decide) ?_
      exact q_areturnN dX11_shelfAt_20 rfl (Or.inl ⟨_, rfl⟩) (by decide) (by decide) ⟨rfl, Or.inr ⟨Or.inr c7, rfl⟩⟩
set_option maxHeartbeats 600000 in
set_option maxRecDepth 100000 in
theorem cc_boxAt (l : Launch) (G : Gt) (Z : Zt) (x nf ns : Nat) (af as : Nat → Nat) (σ : St) (h : CR Z x σ af as nf ns) (k : Int32) : Ct l G YX11_boxAt (0, 0, 0) Z [.ref x, .int k] (ΦA (fun r Z1 => Z1 = Z ∧ ((∃ j, j < 3 ∧ k = nI j ∧ r = some (x + 24 + 2 * j)) ∨ ((k < 0 ∨ ¬ k < 3) ∧ r = none)))) := by
  refine ct_of [some (.ref x), some (.int k)] (by decide +kernel) (Nat.le_of_ble_eq_true rfl) rfl (fun M => ?_)
  have hx := h.1.1.1
  have ha := h.1.1.2.1
  refine q_iload_n dX11_boxAt_0 rfl ?_
  refine q_if_lt 9 dX11_boxAt_1 (by decide) (fun c1 => ?_) (fun c1 => ?_)
  · refine q_aconst_null dX11_boxAt_9 ?_
    refine q_goto 19 dX11_boxAt_10 (by decide) ?_
    exact q_areturnN dX11_boxAt_19 rfl (Or.inl ⟨_, rfl⟩) (by decide) (by decide) ⟨rfl, Or.inr ⟨Or.inl c1, rfl⟩⟩
  · refine q_iload_n dX11_boxAt_4 rfl ?_
    refine q_iconst (v := 3) dX11_boxAt_5 (by decide) ?_
    refine q_icmp_lt 13 dX11_boxAt_6 (by decide) (fun c6 => ?_) (fun c6 => ?_)
    · obtain ⟨j, hj, rfl⟩ := ix_of (m := 3) (by decide) c1 c6
      have hv : va_rf (zR Z (x + 2) (nI j).toNatClampNeg) = .ref (x + 24 + 2 * j) := by rw [nI_clamp (by omega), (h.1.1.2.2.2.2.2 j hj).1]; rfl
      first | refine q_aload_n dX11_boxAt_13 rfl ?_ | refine q_aload_nN dX11_boxAt_13 rfl ?_
      refine q_getf dX11_boxAt_14 fk_X11_17_10 hx.1 hx.2.2.1 ?_
      refine q_iload_n dX11_boxAt_17 rfl ?_
      refine q_aald 0 dX11_boxAt_18 (by decide) ha.2.2.1 (by rw [ha.2.2.2.1]; exact vp_in_nI hj (by decide)) hv ?_
      exact q_areturn dX11_boxAt_19 rfl (Or.inl ⟨_, rfl⟩) (by decide) (by decide) ⟨rfl, Or.inl ⟨j, hj, rfl, rfl⟩⟩
    · refine q_aconst_null dX11_boxAt_9 ?_
      refine q_goto 19 dX11_boxAt_10 (by decide) ?_
      exact q_areturnN dX11_boxAt_19 rfl (Or.inl ⟨_, rfl⟩) (by decide) (by decide) ⟨rfl, Or.inr ⟨Or.inr c6, rfl⟩⟩
def boxR (σ : St) (k i : Int32) : Int32 := if (k < 0 ∨ ¬ k < 3) ∨ (i < 0 ∨ ¬ i < 3) then -1 else σ.1 5 (3 * k.toNatClampNeg + i.toNatClampNeg)
set_option maxHeartbeats 600000 in
set_option maxRecDepth 100000 in
theorem cc_box (l : Launch) (G : Gt) (Z : Zt) (x nf ns : Nat) (af as : Nat → Nat) (σ : St) (h : CR Z x σ af as nf ns) (k i : Int32) : Ct l G YX11_box (1, 0, 0) Z [.ref x, .int k, .int i] (ΦI (fun r Z1 => Z1 = Z ∧ r = boxR σ k i)) := by
  refine ct_of [some (.ref x), some (.int k), some (.int i), none] (by decide +kernel) (Nat.le_of_ble_eq_true rfl) rfl (fun M => ?_)
  have hx := h.1.1.1
  have ha := h.1.1.2.1
  first | refine q_aload_n dX11_box_0 rfl ?_ | refine q_aload_nN dX11_box_0 rfl ?_
  refine q_iload_n dX11_box_1 rfl ?_
  refine q_callV 10 dX11_box_2 mk_X11_75 rfl hx.1 (cc_boxAt l G Z x nf ns af as σ h k) rfl np_X11_boxAt (by decide) (by decide) (by decide) (Nat.le_of_ble_eq_true rfl) (kA (fun r2 Z2 h2 => ?_))
  obtain ⟨e2, h2⟩ := h2
  rw [e2]
  rcases h2 with ⟨j, hj, rfl, rfl⟩ | ⟨hn, rfl⟩
  · first | refine q_astore_n (ls' := [_, _, _, _]) dX11_box_5 rfl rfl (Nat.le_of_ble_eq_true rfl) (by decide) ?_ | refine q_astore_nN (ls' := [_, _, _, _]) dX11_box_5 rfl rfl (Nat.le_of_ble_eq_true rfl) (by decide) ?_
    first | refine q_aload_n dX11_box_6 rfl ?_ | refine q_aload_nN dX11_box_6 rfl ?_
    refine q_ifnull dX11_box_7 ?_
    refine q_iload_n dX11_box_10 rfl ?_
    refine q_if_lt 19 dX11_box_11 (by decide) (fun c11 => ?_) (fun c11 => ?_)
    · refine q_iconst (v := (-1)) dX11_box_19 (by decide) ?_
      exact q_ireturn dX11_box_20 rfl (by decide) (by decide) ⟨rfl, by unfold boxR; rw [if_pos (Or.inr (Or.inl c11))]⟩
    · refine q_iload_n dX11_box_14 rfl ?_
      refine q_iconst (v := 3) dX11_box_15 (by decide) ?_
      refine q_icmp_lt 21 dX11_box_16 (by decide) (fun c16 => ?_) (fun c16 => ?_)
      · obtain ⟨i, hi, rfl⟩ := ix_of (m := 3) (by decide) c11 c16
        obtain ⟨-, b1, b2, -, b3, b4⟩ := h.1.1.2.2.2.2.2 j hj
        first | refine q_aload_n dX11_box_21 rfl ?_ | refine q_aload_nN dX11_box_21 rfl ?_
        refine q_getf dX11_box_22 fk_X11_79_0 b1 b2 ?_
        refine q_iload_n dX11_box_25 rfl ?_
        refine q_iald dX11_box_26 b3 (by rw [b4]; exact vp_in_nI hi (by decide)) ?_
        exact q_ireturn dX11_box_27 rfl (by decide) (by decide) ⟨rfl, by unfold boxR; rw [if_neg (fun z => z.elim (fun z => z.elim (ix_in (m := 3) (by decide) hj).1 (fun z => z (ix_in (m := 3) (by decide) hj).2)) (fun z => z.elim c11 (fun z => z c16))), nI_clamp (by omega), nI_clamp (by omega)]; exact h.1.2.2.1 j i hj hi⟩
      · refine q_iconst (v := (-1)) dX11_box_19 (by decide) ?_
        exact q_ireturn dX11_box_20 rfl (by decide) (by decide) ⟨rfl, by unfold boxR; rw [if_pos (Or.inr (Or.inr c16))]⟩
  · first | refine q_astore_n (ls' := [_, _, _, _]) dX11_box_5 rfl rfl (Nat.le_of_ble_eq_true rfl) (by decide) ?_ | refine q_astore_nN (ls' := [_, _, _, _]) dX11_box_5 rfl rfl (Nat.le_of_ble_eq_true rfl) (by decide) ?_
    first | refine q_aload_n dX11_box_6 rfl ?_ | refine q_aload_nN dX11_box_6 rfl ?_
    refine q_ifnullN 19 dX11_box_7 (by decide) ?_
    refine q_iconst (v := (-1)) dX11_box_19 (by decide) ?_
    exact q_ireturn dX11_box_20 rfl (by decide) (by decide) ⟨rfl, by unfold boxR; rw [if_pos (Or.inl hn)]⟩
