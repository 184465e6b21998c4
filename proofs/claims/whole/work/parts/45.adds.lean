def putS (σ : St) (s cn : Nat) (v : Int64) : St := pJ (pJ σ 28 (12 * s + cn) v) 27 s (lN (cn + 1))
theorem put_2 (σ : St) (s cn : Nat) (v : Int64) (k i : Nat) : (putS σ s cn v).2 k i = if k = 27 ∧ i = s then lN (cn + 1) else if k = 28 ∧ i = 12 * s + cn then v else σ.2 k i := rfl
theorem put_1 (σ : St) (s cn : Nat) (v : Int64) : (putS σ s cn v).1 = σ.1 := rfl
theorem put_ne {σ : St} {s cn : Nat} {v : Int64} {k : Nat} (h1 : k ≠ 27) (h2 : k ≠ 28) : (putS σ s cn v).2 k = σ.2 k := by
  funext i
  rw [put_2, if_neg (by omega), if_neg (by omega)]
theorem CR_put {Z Z1 : Zt} {x nf ns s cn : Nat} {σ : St} {af as : Nat → Nat} {v : Int64} (h : CR Z x σ af as nf ns) (hs : s < ns) (h17 : σ.1 17 s = 1) (hcn : cn < 12) (hC : σ.2 27 s = lN cn) (hz : Z1 = sJ (sF Z 2 (as s - 2) (.int (nI (cn + 1)))) (as s - 1) cn v) : CR Z1 x (putS σ s cn v) af as nf ns ∧ KM x Z Z1 := by
  obtain ⟨h1, h2, h3, h4, ⟨t1, t2, t3, t4, t5, t6, t7⟩, h6, h7⟩ := h
  have FF : ∀ k b, zF Z1 k b = if k = 2 ∧ b = as s - 2 then .int (nI (cn + 1)) else zF Z k b := fun k b => by rw [hz, zF_sJ, zF_sF]
  have JJ : ∀ b, zJ Z1 b = if b = as s - 1 then vp_updL (zJ Z (as s - 1)) cn v else zJ Z b := fun b => by rw [hz, zJ_sJ, zJ_sF]
  have eK : zK Z1 = zK Z := by rw [hz, zK_sJ, zK_sF]
  have eL : zL Z1 = zL Z := by rw [hz, zL_sJ, zL_sF]
  have eI : zI Z1 = zI Z := by rw [hz, zI_sJ, zI_sF]
  have eR : zR Z1 = zR Z := by rw [hz, zR_sJ, zR_sF]
  have eN : zN Z1 = zN Z := by rw [hz, zN_sJ, zN_sF]
  obtain ⟨⟨a1, a2, a3, a4, a5⟩, b, c, d⟩ := h2 s hs
  have h24 : σ.1 24 s = 0 := by
    rcases a5 with e | e
    · exact e
    · have := (b e).1; rw [h17] at this; exact absurd this (by decide)
  obtain ⟨c1, c2, c3, c4⟩ := c h24
  obtain ⟨c5, c6, c7, l1, l2, l3, l4, l5, cn', l6, l7, l8, l9⟩ := c3 h17
  have ecn : cn' = cn := by
    have e1 := congrArg uN (l8.symm.trans hC)
    rw [uN_ofNat (by omega), uN_ofNat (by omega)] at e1; exact e1
  subst ecn
  have nK : ∀ k b, zK Z b ≠ 6 → zF Z1 k b = zF Z k b := fun k b hb => by rw [FF, if_neg (fun z => hb (by rw [z.2]; exact l1))]
  have hS : SIs Z1 x (putS σ s cn' v) af as nf ns := by
    intro s' hs'
    obtain ⟨⟨a1', a2', a3', a4', a5'⟩, b', c', d'⟩ := h2 s' hs'
    have n8 : ∀ k, zF Z1 k (as s') = zF Z k (as s') := fun k => nK k _ (by rw [a2']; decide)
    refine ⟨⟨a1', by rw [eK]; exact a2', by rw [n8, put_1]; exact a3', by rw [n8, put_1]; exact a4', by rw [put_1]; exact a5'⟩, fun z => ?_, fun z => ?_, fun z y => ?_⟩
    · rw [put_1] at z
      obtain ⟨e1, q, e2, e3⟩ := b' z
      have hne : s' ≠ s := fun e => by rw [e, h24] at z; exact absurd z (by decide)
      refine ⟨by rw [put_1]; exact e1, q, by rw [n8]; exact e2, ?_⟩
      rw [stO_G] at e3 ⊢
      rw [put_2, if_neg (by omega), if_neg (by omega), put_2, if_neg (by omega), if_neg (by omega), put_2, if_neg (by omega), if_neg (by omega)]
      exact e3.cong (by rw [eK]) (fun k => nK k q (by rw [e3.2.1]; decide))
    · rw [put_1] at z
      obtain ⟨e1, e2, e3, e4⟩ := c' z
      refine ⟨by rw [n8]; exact e1, by rw [put_1]; exact e2, fun w => ?_, fun w => ?_⟩
      · rw [put_1] at w
        obtain ⟨f1, f2, f3, m1, m2, m3, m4, m5, cm, m6, m7, m8, m9⟩ := e3 w
        refine ⟨by rw [n8]; exact f1, f2, by rw [n8]; exact f3, by rw [eK]; exact m1, by rw [FF, if_neg (by omega)]; exact m2, by rw [FF, if_neg (by omega)]; exact m3, by rw [eK]; exact m4, by rw [eL]; exact m5, ?_⟩
        by_cases e : s' = s
        · subst e
          refine ⟨cn' + 1, by omega, by rw [FF, if_pos ⟨rfl, rfl⟩], by rw [put_2, if_pos ⟨rfl, rfl⟩], fun i hi => ?_⟩
          rw [JJ, if_pos rfl, put_2, if_neg (by omega)]
          by_cases ei : i = cn'
          · rw [ei, if_pos ⟨rfl, rfl⟩, pk_uLs]
          · rw [if_neg (by omega), pk_uLn (by omega)]; exact l9 i (by omega)
        · have hne : as s' ≠ as s := fun z => e (t7 s' s hs' hs z)
          refine ⟨cm, m6, by rw [FF, if_neg (by omega)]; exact m7, by rw [put_2, if_neg (by omega), if_neg (by omega)]; exact m8, fun i hi => ?_⟩
          rw [JJ, if_neg (by omega), put_2, if_neg (by omega), if_neg (by omega)]; exact m9 i hi
      · rw [put_1] at w
        obtain ⟨f1, k, f2, f3, f4⟩ := e4 w
        exact ⟨by rw [n8]; exact f1, k, f2, by rw [put_1]; exact f3, by rw [n8]; exact f4⟩
    · rw [put_1] at z y
      have := d' z y
      unfold sO3 at *
      rw [put_1, n8, n8, n8, n8, n8, put_ne (by decide) (by decide)]
      exact this
  have hlo : ∀ k b, b < x + 61 → zF Z1 k b = zF Z k b := fun k b hb => by rw [FF, if_neg (by omega)]
  have hloJ : ∀ b, b < x + 61 → zJ Z1 b = zJ Z b := fun b hb => by rw [JJ, if_neg (by omega)]
  refine ⟨⟨h1.cong ⟨fun b _ _ => ⟨by rw [eK], by rw [eL]⟩, fun k b hf => hlo k b (by unfold fixF at hf; omega), by rw [eR], by rw [eR]⟩ (fun k b i j => hlo k b (by omega)) (fun b i j => hloJ b (by omega)) (fun b _ => by rw [eI]) (hlo _ _ (by omega)) (hlo _ _ (by omega)) (fun f hf => ⟨by rw [eK], fun k => nK k _ (by have := (h1.2.2.2.2.2.2 f hf).1.kd; omega)⟩) (fun k hk => by rw [put_1]) (fun k hk => put_ne (by omega) (by omega)), hS,
    h3.cong (hlo _ _ (by omega)) (hloJ _ (by omega)) (by rw [eI]) (by rw [eI]) (by rw [put_1]) (by rw [put_1]) (by rw [put_1]) (put_ne (by decide) (by decide)),
    h4.cong (hlo _ _ (by omega)) (hlo _ _ (by omega)) (hloJ _ (by omega)) (fun q hq hq9 => ⟨by rw [eK], fun k => nK k q (by rw [hq9]; decide)⟩) (by rw [put_1]) (put_ne (by decide) (by decide)) (put_ne (by decide) (by decide)) (put_ne (by decide) (by decide)) (put_ne (by decide) (by decide)),
    ⟨by rw [hlo 4 x (by omega)]; exact t1, by rw [hlo 5 x (by omega)]; exact t2, by rw [put_1]; exact t3, t4, fun f hf => by rw [eR]; exact t5 f hf, fun s hs => by rw [eR]; exact t6 s hs, t7⟩, fun b hb => by rw [eK]; exact h6 b (by rw [← eN]; exact hb), by rw [eN]; exact h7⟩,
    by rw [eN]; exact Nat.le_refl _, fun b hb1 hb2 => ⟨by rw [eK], by rw [eL], by rw [eI], hloJ b hb2, by rw [eR], fun k => hlo k b hb2⟩⟩
noncomputable def addR (σ : St) (s : Int32) (v : Int64) : Int32 × St := if s < 0 ∨ ¬ s < σ.1 16 0 then (-1, σ) else if σ.1 17 s.toNatClampNeg = 1 then (if σ.2 27 s.toNatClampNeg = 12 then (-3, σ) else (nI (uN (σ.2 27 s.toNatClampNeg) + 1), putS σ s.toNatClampNeg (uN (σ.2 27 s.toNatClampNeg)) v)) else (-1, σ)
set_option maxHeartbeats 600000 in
set_option maxRecDepth 100000 in
theorem cc_add (l : Launch) (G : Gt) (Z : Zt) (x nf ns : Nat) (af as : Nat → Nat) (σ : St) (h : CR Z x σ af as nf ns) (k : Int32) (v : Int64) : Ct l G YX11_add (1, 0, 0) Z [.ref x, .int k, .long v] (ΦI (fun r Z1 => r = (addR σ k v).1 ∧ CR Z1 x (addR σ k v).2 af as nf ns ∧ KM x Z Z1)) := by
  refine ct_of [some (.ref x), some (.int k), some (.long v), none, none] (by decide +kernel) (Nat.le_of_ble_eq_true rfl) rfl (fun M => ?_)
  have hx := h.1.1.1
  have hT := h.2.2.2.2.1
  have hs20 := hT.2.2.2.1
  first | refine q_aload_n dX11_add_0 rfl ?_ | refine q_aload_nN dX11_add_0 rfl ?_
  refine q_iload_n dX11_add_1 rfl ?_
  refine q_callV 10 dX11_add_2 mk_X11_141 rfl hx.1 (cc_sourceAt l G Z x nf ns af as σ h k) rfl np_X11_sourceAt (by decide) (by decide) (by decide) (Nat.le_of_ble_eq_true rfl) (kA (fun r2 Z2 h2 => ?_))
  obtain ⟨e2, h2⟩ := h2
  rw [e2]
  rcases h2 with ⟨s, hs, rfl, rfl⟩ | ⟨hn, rfl⟩
  · have hs2 : (nI s).toNatClampNeg = s := nI_clamp (by omega)
    have hnk : ¬ (nI s < 0 ∨ ¬ nI s < σ.1 16 0) := fun z => by rw [hT.2.2.1] at z; exact z.elim (ix_in (m := ns) (by omega) hs).1 (fun y => y (ix_in (m := ns) (by omega) hs).2)
    obtain ⟨⟨a1, a2, a3, a4, a5⟩, o1, o2, o3⟩ := h.2.1 s hs
    first | refine q_astore (ls' := [_, _, _, _, _]) dX11_add_5 rfl rfl (Nat.le_of_ble_eq_true rfl) (by decide) ?_ | refine q_astoreN (ls' := [_, _, _, _, _]) dX11_add_5 rfl rfl (Nat.le_of_ble_eq_true rfl) (by decide) ?_
    first | refine q_aload dX11_add_7 rfl ?_ | refine q_aloadN dX11_add_7 rfl ?_
    refine q_ifnull dX11_add_9 ?_
    first | refine q_aload dX11_add_12 rfl ?_ | refine q_aloadN dX11_add_12 rfl ?_
    refine q_getf dX11_add_14 fk_X11_145_7 a2 a3 ?_
    refine q_iconst (v := 1) dX11_add_17 (by decide) ?_
    refine q_icmp_ne 29 dX11_add_18 (by decide) (fun c18 => ?_) (fun c18 => ?_)
    · refine q_iconst (v := (-1)) dX11_add_29 (by decide) ?_
      exact q_ireturn dX11_add_30 rfl (by decide) (by decide) (by unfold addR; rw [if_neg hnk, hs2, if_neg c18]; exact ⟨rfl, h, KM.rf x Z⟩)
    · have h17 : σ.1 17 s = 1 := c18
      have h24 : σ.1 24 s = 0 := by
        rcases a5 with e | e
        · exact e
        · have := (o1 e).1; rw [h17] at this; exact absurd this (by decide)
      obtain ⟨f1, f2, f3, l1, l2, l3, l4, l5, cn, l6, l7, l8, l9⟩ := (o2 h24).2.2.1 h17
      first | refine q_aload dX11_add_21 rfl ?_ | refine q_aloadN dX11_add_21 rfl ?_
      refine q_getf dX11_add_23 fk_X11_148_7 a2 f3 ?_
      refine q_ifnonnull 31 dX11_add_26 (by decide) ?_
      first | refine q_aload dX11_add_31 rfl ?_ | refine q_aloadN dX11_add_31 rfl ?_
      refine q_getf dX11_add_33 fk_X11_148_7 a2 f3 ?_
      refine q_lload_n dX11_add_36 rfl ?_
      refine q_callV 5 dX11_add_37 mk_X11_152 rfl l1 (c_X6_append l G Z (as s - 2) (as s - 1) (nI cn) v l1 l2 l7 l4 l5) rfl np_X6_append (by decide) (by decide) (by decide) (Nat.le_of_ble_eq_true rfl) (kI (fun r37 Z37 h37 => ?_))
      have hc12 : (nI cn < 0 ∨ ¬ nI cn < 12) ↔ cn = 12 := ⟨fun z => Classical.byContradiction fun y => z.elim (ix_in (m := 12) (by decide) (by omega)).1 (fun w => w (ix_in (m := 12) (by decide) (by omega)).2), fun z => Or.inr (by rw [z]; decide)⟩
      refine q_if_eq 54 dX11_add_40 (by decide) (fun c40 => ?_) (fun c40 => ?_)
      · have hf : cn = 12 := Classical.byContradiction fun z => absurd ((h37.2 (fun y => z (hc12.mp y))).1.symm.trans c40) (by decide)
        obtain ⟨-, e37⟩ := h37.1 (hc12.mpr hf)
        rw [e37]
        refine q_bipush (v := (-3)) dX11_add_54 (by decide) ?_
        exact q_ireturn dX11_add_56 rfl (by decide) (by decide) (by unfold addR; rw [if_neg hnk, hs2, if_pos h17, if_pos (by rw [l8, hf]; rfl)]; exact ⟨rfl, h, KM.rf x Z⟩)
      · have hf : ¬ cn = 12 := fun z => c40 (h37.1 (hc12.mpr z)).1
        obtain ⟨-, e37⟩ := h37.2 (fun y => hf (hc12.mp y))
        rw [nI_clamp (show cn < 2 ^ 31 by omega), nI_1 cn] at e37
        have a2' : zK Z37 (as s) = 8 := by rw [e37, zK_sJ, zK_sF]; exact a2
        have f3' : zF Z37 3 (as s) = .ref (as s - 2) := by rw [e37, zF_sJ, zF_sF, if_neg (by omega)]; exact f3
        have l1' : zK Z37 (as s - 2) = 6 := by rw [e37, zK_sJ, zK_sF]; exact l1
        have l7' : zF Z37 2 (as s - 2) = .int (nI (cn + 1)) := by rw [e37, zF_sJ, zF_sF, if_pos ⟨rfl, rfl⟩]
        first | refine q_aload dX11_add_43 rfl ?_ | refine q_aloadN dX11_add_43 rfl ?_
        refine q_getf dX11_add_45 fk_X11_148_7 a2' f3' ?_
        refine q_getf dX11_add_48 fk_X11_155_5 l1' l7' ?_
        refine q_goto 56 dX11_add_51 (by decide) ?_
        exact q_ireturn dX11_add_56 rfl (by decide) (by decide) (by unfold addR; rw [if_neg hnk, hs2, if_pos h17, if_neg (fun z => hf (by have e1 := congrArg uN (l8.symm.trans z); rw [uN_ofNat (by omega)] at e1; exact e1)), l8, uN_ofNat (by omega)]; exact ⟨rfl, CR_put h hs h17 (by omega) l8 e37⟩)
  · first | refine q_astore (ls' := [_, _, _, _, _]) dX11_add_5 rfl rfl (Nat.le_of_ble_eq_true rfl) (by decide) ?_ | refine q_astoreN (ls' := [_, _, _, _, _]) dX11_add_5 rfl rfl (Nat.le_of_ble_eq_true rfl) (by decide) ?_
    first | refine q_aload dX11_add_7 rfl ?_ | refine q_aloadN dX11_add_7 rfl ?_
    refine q_ifnullN 29 dX11_add_9 (by decide) ?_
    refine q_iconst (v := (-1)) dX11_add_29 (by decide) ?_
    exact q_ireturn dX11_add_30 rfl (by decide) (by decide) (by unfold addR; rw [if_pos (by rw [hT.2.2.1]; exact hn)]; exact ⟨rfl, h, KM.rf x Z⟩)
