set_option maxHeartbeats 600000 in
set_option maxRecDepth 100000 in
theorem cc_keepSource (l : Launch) (G : Gt) (Z : Zt) (x nf ns : Nat) (af as : Nat → Nat) (σ : St) (h : CR Z x σ af as nf ns) (a : Nat) (dv : Int32) (hK : zK Z a = 8) (hd : zF Z 1 a = .int dv) : Ct l G YX11_keepSource (0, 0, 0) Z [.ref x, .ref a] (ΦI (fun r Z1 => ((20 ≤ nI ns ∨ ¬ dv ≤ 6) → r = -3 ∧ Z1 = Z) ∧ (¬ (20 ≤ nI ns ∨ ¬ dv ≤ 6) → r = nI ns ∧ Z1 = sF (sR Z (x + 4) ns (some a)) 5 x (.int (nI (ns + 1)))))) := by
  refine ct_of [some (.ref x), some (.ref a)] (by decide +kernel) (Nat.le_of_ble_eq_true rfl) rfl (fun M => ?_)
  have hx := h.1.1.1
  have ha := h.1.1.2.1
  have hT := h.2.2.2.2.1
  have hn20 := h.1.2.2.2.2.2.1
  have hs20 := hT.2.2.2.1
  first | refine q_aload_n dX11_keepSource_0 rfl ?_ | refine q_aload_nN dX11_keepSource_0 rfl ?_
  refine q_getf dX11_keepSource_1 fk_X11_228_10 hx.1 hT.2.1 ?_
  refine q_bipush (v := 20) dX11_keepSource_4 (by decide) ?_
  refine q_icmp_ge 18 dX11_keepSource_6 (by decide) (fun c6 => ?_) (fun c6 => ?_)
  · refine q_bipush (v := (-3)) dX11_keepSource_18 (by decide) ?_
    exact q_ireturn dX11_keepSource_20 rfl (by decide) (by decide) ⟨fun _ => ⟨rfl, rfl⟩, fun z => absurd (Or.inl c6) z⟩
  · have hlt : ns < 20 := Classical.byContradiction fun z => c6 (show nI 20 ≤ nI ns from nI_le (by omega) (by omega))
    first | refine q_aload_n dX11_keepSource_9 rfl ?_ | refine q_aload_nN dX11_keepSource_9 rfl ?_
    refine q_getf dX11_keepSource_10 fk_X11_260_7 hK hd ?_
    refine q_bipush (v := 6) dX11_keepSource_13 (by decide) ?_
    refine q_icmp_le 21 dX11_keepSource_15 (by decide) (fun c15 => ?_) (fun c15 => ?_)
    · first | refine q_aload_n dX11_keepSource_21 rfl ?_ | refine q_aload_nN dX11_keepSource_21 rfl ?_
      refine q_getf dX11_keepSource_22 fk_X11_29_10 hx.1 hx.2.2.2.2.1 ?_
      first | refine q_aload_n dX11_keepSource_25 rfl ?_ | refine q_aload_nN dX11_keepSource_25 rfl ?_
      refine q_getf dX11_keepSource_26 fk_X11_228_10 hx.1 hT.2.1 ?_
      first | refine q_aload_n dX11_keepSource_29 rfl ?_ | refine q_aload_nN dX11_keepSource_29 rfl ?_
      refine q_aast 3 7 RX8 _ dX11_keepSource_30 (by decide) rfl ha.2.2.2.2.2.2.1 (by rw [ha.2.2.2.2.2.2.2]; exact vp_in_nI (by omega) (by decide)) hK rfl (Or.inl rfl) ?_
      first | refine q_aload_n dX11_keepSource_31 rfl ?_ | refine q_aload_nN dX11_keepSource_31 rfl ?_
      refine q_dup dX11_keepSource_32 rfl ?_
      refine q_getf dX11_keepSource_33 fk_X11_228_10 (by rw [zK_sR]; exact hx.1) hT.2.1 ?_
      refine q_dup_x1 dX11_keepSource_36 rfl rfl ?_
      refine q_iconst (v := 1) dX11_keepSource_37 (by decide) ?_
      refine q_iadd dX11_keepSource_38 ?_
      refine q_putf dX11_keepSource_39 fk_X11_228_10 rfl (by rw [zK_sR]; exact hx.1) rfl rfl ?_
      exact q_ireturn dX11_keepSource_42 rfl (by decide) (by decide) ⟨fun z => absurd z (fun z => z.elim c6 (fun z => z c15)), fun _ => ⟨rfl, by rw [nI_1, nI_clamp (by omega)]⟩⟩
    · refine q_bipush (v := (-3)) dX11_keepSource_18 (by decide) ?_
      exact q_ireturn dX11_keepSource_20 rfl (by decide) (by decide) ⟨fun _ => ⟨rfl, rfl⟩, fun z => absurd (Or.inr c15) z⟩
set_option maxHeartbeats 600000 in
set_option maxRecDepth 100000 in
theorem cc_keepFilter (l : Launch) (G : Gt) (Z : Zt) (x nf ns : Nat) (af as : Nat → Nat) (σ : St) (h : CR Z x σ af as nf ns) (a cf : Nat) (q : vw_C) (dv : Int32) (hq : vwCl[cf]? = some q) (hm : q.1 ∈ [RX1, RX3, RX4, RX7]) (hcf : fOK RX11 257 cf 1) (hK : zK Z a = cf + 1) (hd : zF Z 1 a = .int dv) : Ct l G YX11_keepFilter (0, 0, 0) Z [.ref x, .ref a] (ΦI (fun r Z1 => ((20 ≤ nI nf ∨ ¬ dv ≤ 6) → r = -3 ∧ Z1 = Z) ∧ (¬ (20 ≤ nI nf ∨ ¬ dv ≤ 6) → r = nI nf ∧ Z1 = sF (sR Z (x + 3) nf (some a)) 4 x (.int (nI (nf + 1)))))) := by
  refine ct_of [some (.ref x), some (.ref a)] (by decide +kernel) (Nat.le_of_ble_eq_true rfl) rfl (fun M => ?_)
  have hx := h.1.1.1
  have ha := h.1.1.2.1
  have hT := h.2.2.2.2.1
  have hn20 := h.1.2.2.2.2.2.1
  have hs20 := hT.2.2.2.1
  first | refine q_aload_n dX11_keepFilter_0 rfl ?_ | refine q_aload_nN dX11_keepFilter_0 rfl ?_
  refine q_getf dX11_keepFilter_1 fk_X11_97_10 hx.1 hT.1 ?_
  refine q_bipush (v := 20) dX11_keepFilter_4 (by decide) ?_
  refine q_icmp_ge 18 dX11_keepFilter_6 (by decide) (fun c6 => ?_) (fun c6 => ?_)
  · refine q_bipush (v := (-3)) dX11_keepFilter_18 (by decide) ?_
    exact q_ireturn dX11_keepFilter_20 rfl (by decide) (by decide) ⟨fun _ => ⟨rfl, rfl⟩, fun z => absurd (Or.inl c6) z⟩
  · have hlt : nf < 20 := Classical.byContradiction fun z => c6 (show nI 20 ≤ nI nf from nI_le (by omega) (by omega))
    first | refine q_aload_n dX11_keepFilter_9 rfl ?_ | refine q_aload_nN dX11_keepFilter_9 rfl ?_
    refine q_getf dX11_keepFilter_10 hcf hK hd ?_
    refine q_bipush (v := 6) dX11_keepFilter_13 (by decide) ?_
    refine q_icmp_le 21 dX11_keepFilter_15 (by decide) (fun c15 => ?_) (fun c15 => ?_)
    · first | refine q_aload_n dX11_keepFilter_21 rfl ?_ | refine q_aload_nN dX11_keepFilter_21 rfl ?_
      refine q_getf dX11_keepFilter_22 fk_X11_23_10 hx.1 hx.2.2.2.1 ?_
      first | refine q_aload_n dX11_keepFilter_25 rfl ?_ | refine q_aload_nN dX11_keepFilter_25 rfl ?_
      refine q_getf dX11_keepFilter_26 fk_X11_97_10 hx.1 hT.1 ?_
      first | refine q_aload_n dX11_keepFilter_29 rfl ?_ | refine q_aload_nN dX11_keepFilter_29 rfl ?_
      refine q_aast 1 cf RX2 q dX11_keepFilter_30 (by decide) rfl ha.2.2.2.2.1 (by rw [ha.2.2.2.2.2.1]; exact vp_in_nI (by omega) (by decide)) hK hq (Or.inr ⟨rfl, hm⟩) ?_
      first | refine q_aload_n dX11_keepFilter_31 rfl ?_ | refine q_aload_nN dX11_keepFilter_31 rfl ?_
      refine q_dup dX11_keepFilter_32 rfl ?_
      refine q_getf dX11_keepFilter_33 fk_X11_97_10 (by rw [zK_sR]; exact hx.1) hT.1 ?_
      refine q_dup_x1 dX11_keepFilter_36 rfl rfl ?_
      refine q_iconst (v := 1) dX11_keepFilter_37 (by decide) ?_
      refine q_iadd dX11_keepFilter_38 ?_
      refine q_putf dX11_keepFilter_39 fk_X11_97_10 rfl (by rw [zK_sR]; exact hx.1) rfl rfl ?_
      exact q_ireturn dX11_keepFilter_42 rfl (by decide) (by decide) ⟨fun z => absurd z (fun z => z.elim c6 (fun z => z c15)), fun _ => ⟨rfl, by rw [nI_1, nI_clamp (by omega)]⟩⟩
    · refine q_bipush (v := (-3)) dX11_keepFilter_18 (by decide) ?_
      exact q_ireturn dX11_keepFilter_20 rfl (by decide) (by decide) ⟨fun _ => ⟨rfl, rfl⟩, fun z => absurd (Or.inr c15) z⟩
