def holdS (σ : St) (k : Nat) (kd n : Int32) : St := (fun k' i' => if k' = 1 ∧ i' = k then kd else if k' = 2 ∧ i' = k then (if kd = 1 ∨ kd = 2 then n else 0) else σ.1 k' i', fun k' i' => if k' = 3 ∧ i' = k then n.toInt64 else if k' = 4 ∧ 12 * k ≤ i' ∧ i' < 12 * k + 12 then 0 else σ.2 k' i')
theorem hold_1 (σ : St) (k : Nat) (kd n : Int32) (k' i' : Nat) : (holdS σ k kd n).1 k' i' = if k' = 1 ∧ i' = k then kd else if k' = 2 ∧ i' = k then (if kd = 1 ∨ kd = 2 then n else 0) else σ.1 k' i' := rfl
theorem hold_2 (σ : St) (k : Nat) (kd n : Int32) (k' i' : Nat) : (holdS σ k kd n).2 k' i' = if k' = 3 ∧ i' = k then n.toInt64 else if k' = 4 ∧ 12 * k ≤ i' ∧ i' < 12 * k + 12 then 0 else σ.2 k' i' := rfl
def shelfS (σ : St) (k kd n : Int32) : Int32 × St := if k < 0 ∨ ¬ k < 6 then (-1, σ) else if kd < 0 ∨ ¬ kd ≤ 3 then (-2, σ) else if (kd = 1 ∨ kd = 2) ∧ (n < 0 ∨ ¬ n ≤ 12) then (-2, σ) else (1, holdS σ k.toNatClampNeg kd n)
theorem hold_CR {Z Z1 : Zt} {x nf ns k : Nat} {σ : St} {af as : Nat → Nat} {kd n : Int32} {g : Nat → Int64} (h : CR Z x σ af as nf ns) (hk : k < 6) (hg : ∀ i, i < 12 → g i = 0) (hn : (kd = 1 ∨ kd = 2) → ∃ cn, cn ≤ 12 ∧ n = nI cn)
    (hz : Z1 = tJ (sF (sF (sF Z 1 (x + 12 + 2 * k) (.int kd)) 2 (x + 12 + 2 * k) (.int (if kd = 1 ∨ kd = 2 then n else 0))) 3 (x + 12 + 2 * k) (.int (if kd = 3 then n else 0))) (x + 13 + 2 * k) g) : CR Z1 x (holdS σ k kd n) af as nf ns ∧ KM x Z Z1 := by
  have F : ∀ j b, zF Z1 j b = if j = 3 ∧ b = x + 12 + 2 * k then .int (if kd = 3 then n else 0) else if j = 2 ∧ b = x + 12 + 2 * k then .int (if kd = 1 ∨ kd = 2 then n else 0) else if j = 1 ∧ b = x + 12 + 2 * k then .int kd else zF Z j b := fun j b => by rw [hz, zF_tJ, zF_sF, zF_sF, zF_sF]
  have J : ∀ b, zJ Z1 b = if b = x + 13 + 2 * k then g else zJ Z b := fun b => by rw [hz, zJ_tJ, zJ_sF, zJ_sF, zJ_sF]
  refine CR_shelf h hk ⟨by rw [hz, zK_tJ, zK_sF, zK_sF, zK_sF], by rw [hz, zL_tJ, zL_sF, zL_sF, zL_sF], by rw [hz, zI_tJ, zI_sF, zI_sF, zI_sF], by rw [hz, zR_tJ, zR_sF, zR_sF, zR_sF], by rw [hz, zN_tJ, zN_sF, zN_sF, zN_sF], fun b hb => by rw [J, if_neg hb], fun j b hb => by rw [F, if_neg (by omega), if_neg (by omega), if_neg (by omega)]⟩ ?_ (fun j h1 h2 => by funext i; rw [hold_1, if_neg (by omega), if_neg (by omega)]) (fun j h1 h2 => by funext i; rw [hold_2, if_neg (by omega), if_neg (by omega)])
  intro k' hk'
  by_cases e : k' = k
  · subst e
    refine ⟨by rw [F, if_neg (by omega), if_neg (by omega), if_pos ⟨rfl, rfl⟩, hold_1, if_pos ⟨rfl, rfl⟩], by rw [F, if_neg (by omega), if_pos ⟨rfl, rfl⟩, hold_1, if_neg (show ¬ (2 = 1 ∧ k' = k') by omega), if_pos (show 2 = 2 ∧ k' = k' from ⟨rfl, rfl⟩)], ⟨_, by rw [F, if_pos ⟨rfl, rfl⟩], fun z => ?_⟩, fun i hi => ?_, ?_⟩
    · rw [hold_1, if_pos ⟨rfl, rfl⟩] at z
      rw [hold_2, if_pos ⟨rfl, rfl⟩, if_pos z]
    · rw [J, if_pos rfl, hold_2, if_neg (by omega), if_pos (by omega)]; exact hg i hi
    · rw [hold_1, if_neg (by omega), if_pos ⟨rfl, rfl⟩]
      by_cases c : kd = 1 ∨ kd = 2
      · rw [if_pos c]; exact hn c
      · rw [if_neg c]; exact ⟨0, by omega, rfl⟩
  · obtain ⟨b1, b2, ⟨pt, b3, b4⟩, b5, b6⟩ := h.1.2.1 k' hk'
    refine ⟨?_, ?_, ⟨pt, ?_, ?_⟩, fun i hi => ?_, ?_⟩
    · rw [F, if_neg (by omega), if_neg (by omega), if_neg (by omega), hold_1, if_neg (by omega), if_neg (by omega)]; exact b1
    · rw [F, if_neg (by omega), if_neg (by omega), if_neg (by omega), hold_1, if_neg (by omega), if_neg (by omega)]; exact b2
    · rw [F, if_neg (by omega), if_neg (by omega), if_neg (by omega)]; exact b3
    · rw [hold_1, if_neg (by omega), if_neg (by omega), hold_2, if_neg (by omega), if_neg (by omega)]; exact b4
    · rw [J, if_neg (by omega), hold_2, if_neg (by omega), if_neg (by omega)]; exact b5 i hi
    · rw [hold_1, if_neg (by omega), if_neg (by omega)]; exact b6
theorem le12 {n : Int32} (h0 : ¬ n < 0) (h1 : n ≤ 12) : ∃ cn, cn ≤ 12 ∧ n = nI cn := by
  obtain ⟨j, hj, e⟩ := ix_of (m := 13) (by decide) h0 (Int32.lt_of_le_of_lt h1 (by decide))
  exact ⟨j, by omega, e⟩
set_option maxHeartbeats 600000 in
set_option maxRecDepth 100000 in
theorem cc_shelf (l : Launch) (G : Gt) (Z : Zt) (x nf ns : Nat) (af as : Nat → Nat) (σ : St) (h : CR Z x σ af as nf ns) (k kd n : Int32) : Ct l G YX11_shelf (2, 0, 0) Z [.ref x, .int k, .int kd, .int n] (ΦI (fun r Z1 => r = (shelfS σ k kd n).1 ∧ CR Z1 x (shelfS σ k kd n).2 af as nf ns ∧ KM x Z Z1)) := by
  refine ct_of [some (.ref x), some (.int k), some (.int kd), some (.int n), none, none] (by decide +kernel) (Nat.le_of_ble_eq_true rfl) rfl (fun M => ?_)
  have hx := h.1.1.1
  first | refine q_aload_n dX11_shelf_0 rfl ?_ | refine q_aload_nN dX11_shelf_0 rfl ?_
  refine q_iload_n dX11_shelf_1 rfl ?_
  refine q_callV 10 dX11_shelf_2 mk_X11_55 rfl hx.1 (cc_shelfAt l G Z x nf ns af as σ h k) rfl np_X11_shelfAt (by decide) (by decide) (by decide) (Nat.le_of_ble_eq_true rfl) (kA (fun r2 Z2 h2 => ?_))
  obtain ⟨e2, h2⟩ := h2
  rw [e2]
  rcases h2 with ⟨j, hj, rfl, rfl⟩ | ⟨hn, rfl⟩
  · obtain ⟨-, s1, s2, s3, s4⟩ := h.1.1.2.2.2.2.1 j hj
    have hnk : ¬ (nI j < 0 ∨ ¬ nI j < 6) := fun z => z.elim (ix_in (m := 6) (by decide) hj).1 (fun y => y (ix_in (m := 6) (by decide) hj).2)
    first | refine q_astore (ls' := [_, _, _, _, _, _]) dX11_shelf_5 rfl rfl (Nat.le_of_ble_eq_true rfl) (by decide) ?_ | refine q_astoreN (ls' := [_, _, _, _, _, _]) dX11_shelf_5 rfl rfl (Nat.le_of_ble_eq_true rfl) (by decide) ?_
    first | refine q_aload dX11_shelf_7 rfl ?_ | refine q_aloadN dX11_shelf_7 rfl ?_
    refine q_ifnonnull 14 dX11_shelf_9 (by decide) ?_
    refine q_iload_n dX11_shelf_14 rfl ?_
    refine q_if_lt 23 dX11_shelf_15 (by decide) (fun c15 => ?_) (fun c15 => ?_)
    · refine q_bipush (v := (-2)) dX11_shelf_23 (by decide) ?_
      exact q_ireturn dX11_shelf_25 rfl (by decide) (by decide) (by unfold shelfS; rw [if_neg hnk, if_pos (Or.inl c15)]; exact ⟨rfl, h, KM.rf x Z⟩)
    · refine q_iload_n dX11_shelf_18 rfl ?_
      refine q_iconst (v := 3) dX11_shelf_19 (by decide) ?_
      refine q_icmp_le 26 dX11_shelf_20 (by decide) (fun c20 => ?_) (fun c20 => ?_)
      · have hkd : ¬ (kd < 0 ∨ ¬ kd ≤ 3) := fun z => z.elim c15 (fun y => y c20)
        refine q_iload_n dX11_shelf_26 rfl ?_
        refine q_iconst (v := 1) dX11_shelf_27 (by decide) ?_
        refine q_icmp_eq 36 dX11_shelf_28 (by decide) (fun c28 => ?_) (fun c28 => ?_)
        · refine q_iconst (v := 1) dX11_shelf_36 (by decide) ?_
          refine q_goto 41 dX11_shelf_37 (by decide) ?_
          refine q_istore (ls' := [_, _, _, _, _, _]) dX11_shelf_41 rfl rfl (Nat.le_of_ble_eq_true rfl) (by decide) ?_
          refine q_iload dX11_shelf_43 rfl ?_
          refine q_if_eq 61 dX11_shelf_45 (by decide) (fun c45 => absurd c45 (by decide)) (fun c45 => ?_)
          refine q_iload_n dX11_shelf_48 rfl ?_
          refine q_if_lt 58 dX11_shelf_49 (by decide) (fun c49 => ?_) (fun c49 => ?_)
          · refine q_bipush (v := (-2)) dX11_shelf_58 (by decide) ?_
            exact q_ireturn dX11_shelf_60 rfl (by decide) (by decide) (by unfold shelfS; rw [if_neg hnk, if_neg hkd, if_pos ⟨Or.inl c28, Or.inl c49⟩]; exact ⟨rfl, h, KM.rf x Z⟩)
          · refine q_iload_n dX11_shelf_52 rfl ?_
            refine q_bipush (v := 12) dX11_shelf_53 (by decide) ?_
            refine q_icmp_le 61 dX11_shelf_55 (by decide) (fun c55 => ?_) (fun c55 => ?_)
            · first | refine q_aload dX11_shelf_61 rfl ?_ | refine q_aloadN dX11_shelf_61 rfl ?_
              refine q_iload_n dX11_shelf_63 rfl ?_
              refine q_iload_n dX11_shelf_64 rfl ?_
              refine q_callV 5 dX11_shelf_65 mk_X11_59 rfl s1 (c_X6_hold l G Z (x + 12 + 2 * j) (x + 13 + 2 * j) kd n s1 s2 s3 s4) rfl np_X6_hold (by decide) (by decide) (by decide) (Nat.le_of_ble_eq_true rfl) (kV (fun Z65 h65 => ?_))
              have hh : ¬ ((kd = 1 ∨ kd = 2) ∧ (n < 0 ∨ ¬ n ≤ 12)) := fun z => z.2.elim c49 (fun y => y c55)
              have hw : (kd = 1 ∨ kd = 2) → ∃ cn, cn ≤ 12 ∧ n = nI cn := fun _ => le12 c49 c55
              refine q_iconst (v := 1) dX11_shelf_68 (by decide) ?_
              exact q_ireturn dX11_shelf_69 rfl (by decide) (by decide) (by unfold shelfS; rw [if_neg hnk, if_neg hkd, if_neg hh, nI_clamp (by omega)]; obtain ⟨g, hz, hg⟩ := h65; exact ⟨rfl, hold_CR h hj hg hw hz⟩)
            · refine q_bipush (v := (-2)) dX11_shelf_58 (by decide) ?_
              exact q_ireturn dX11_shelf_60 rfl (by decide) (by decide) (by unfold shelfS; rw [if_neg hnk, if_neg hkd, if_pos ⟨Or.inl c28, Or.inr c55⟩]; exact ⟨rfl, h, KM.rf x Z⟩)
        · refine q_iload_n dX11_shelf_31 rfl ?_
          refine q_iconst (v := 2) dX11_shelf_32 (by decide) ?_
          refine q_icmp_ne 40 dX11_shelf_33 (by decide) (fun c33 => ?_) (fun c33 => ?_)
          · refine q_iconst (v := 0) dX11_shelf_40 (by decide) ?_
            refine q_istore (ls' := [_, _, _, _, _, _]) dX11_shelf_41 rfl rfl (Nat.le_of_ble_eq_true rfl) (by decide) ?_
            refine q_iload dX11_shelf_43 rfl ?_
            refine q_if_eq 61 dX11_shelf_45 (by decide) (fun c45 => ?_) (fun c45 => absurd c45 (by decide))
            first | refine q_aload dX11_shelf_61 rfl ?_ | refine q_aloadN dX11_shelf_61 rfl ?_
            refine q_iload_n dX11_shelf_63 rfl ?_
            refine q_iload_n dX11_shelf_64 rfl ?_
            refine q_callV 5 dX11_shelf_65 mk_X11_59 rfl s1 (c_X6_hold l G Z (x + 12 + 2 * j) (x + 13 + 2 * j) kd n s1 s2 s3 s4) rfl np_X6_hold (by decide) (by decide) (by decide) (Nat.le_of_ble_eq_true rfl) (kV (fun Z65 h65 => ?_))
            have hh : ¬ ((kd = 1 ∨ kd = 2) ∧ (n < 0 ∨ ¬ n ≤ 12)) := fun z => z.1.elim c28 c33
            have hw : (kd = 1 ∨ kd = 2) → ∃ cn, cn ≤ 12 ∧ n = nI cn := fun z => absurd z (fun y => y.elim c28 c33)
            refine q_iconst (v := 1) dX11_shelf_68 (by decide) ?_
            exact q_ireturn dX11_shelf_69 rfl (by decide) (by decide) (by unfold shelfS; rw [if_neg hnk, if_neg hkd, if_neg hh, nI_clamp (by omega)]; obtain ⟨g, hz, hg⟩ := h65; exact ⟨rfl, hold_CR h hj hg hw hz⟩)
          · refine q_iconst (v := 1) dX11_shelf_36 (by decide) ?_
            refine q_goto 41 dX11_shelf_37 (by decide) ?_
            refine q_istore (ls' := [_, _, _, _, _, _]) dX11_shelf_41 rfl rfl (Nat.le_of_ble_eq_true rfl) (by decide) ?_
            refine q_iload dX11_shelf_43 rfl ?_
            refine q_if_eq 61 dX11_shelf_45 (by decide) (fun c45 => absurd c45 (by decide)) (fun c45 => ?_)
            refine q_iload_n dX11_shelf_48 rfl ?_
            refine q_if_lt 58 dX11_shelf_49 (by decide) (fun c49 => ?_) (fun c49 => ?_)
            · refine q_bipush (v := (-2)) dX11_shelf_58 (by decide) ?_
              exact q_ireturn dX11_shelf_60 rfl (by decide) (by decide) (by unfold shelfS; rw [if_neg hnk, if_neg hkd, if_pos ⟨Or.inr c33, Or.inl c49⟩]; exact ⟨rfl, h, KM.rf x Z⟩)
            · refine q_iload_n dX11_shelf_52 rfl ?_
              refine q_bipush (v := 12) dX11_shelf_53 (by decide) ?_
              refine q_icmp_le 61 dX11_shelf_55 (by decide) (fun c55 => ?_) (fun c55 => ?_)
              · first | refine q_aload dX11_shelf_61 rfl ?_ | refine q_aloadN dX11_shelf_61 rfl ?_
                refine q_iload_n dX11_shelf_63 rfl ?_
                refine q_iload_n dX11_shelf_64 rfl ?_
                refine q_callV 5 dX11_shelf_65 mk_X11_59 rfl s1 (c_X6_hold l G Z (x + 12 + 2 * j) (x + 13 + 2 * j) kd n s1 s2 s3 s4) rfl np_X6_hold (by decide) (by decide) (by decide) (Nat.le_of_ble_eq_true rfl) (kV (fun Z65 h65 => ?_))
                have hh : ¬ ((kd = 1 ∨ kd = 2) ∧ (n < 0 ∨ ¬ n ≤ 12)) := fun z => z.2.elim c49 (fun y => y c55)
                have hw : (kd = 1 ∨ kd = 2) → ∃ cn, cn ≤ 12 ∧ n = nI cn := fun _ => le12 c49 c55
                refine q_iconst (v := 1) dX11_shelf_68 (by decide) ?_
                exact q_ireturn dX11_shelf_69 rfl (by decide) (by decide) (by unfold shelfS; rw [if_neg hnk, if_neg hkd, if_neg hh, nI_clamp (by omega)]; obtain ⟨g, hz, hg⟩ := h65; exact ⟨rfl, hold_CR h hj hg hw hz⟩)
              · refine q_bipush (v := (-2)) dX11_shelf_58 (by decide) ?_
                exact q_ireturn dX11_shelf_60 rfl (by decide) (by decide) (by unfold shelfS; rw [if_neg hnk, if_neg hkd, if_pos ⟨Or.inr c33, Or.inr c55⟩]; exact ⟨rfl, h, KM.rf x Z⟩)
      · refine q_bipush (v := (-2)) dX11_shelf_23 (by decide) ?_
        exact q_ireturn dX11_shelf_25 rfl (by decide) (by decide) (by unfold shelfS; rw [if_neg hnk, if_pos (Or.inr c20)]; exact ⟨rfl, h, KM.rf x Z⟩)
  · first | refine q_astore (ls' := [_, _, _, _, _, _]) dX11_shelf_5 rfl rfl (Nat.le_of_ble_eq_true rfl) (by decide) ?_ | refine q_astoreN (ls' := [_, _, _, _, _, _]) dX11_shelf_5 rfl rfl (Nat.le_of_ble_eq_true rfl) (by decide) ?_
    first | refine q_aload dX11_shelf_7 rfl ?_ | refine q_aloadN dX11_shelf_7 rfl ?_
    refine q_ifnonnullN dX11_shelf_9 ?_
    refine q_iconst (v := (-1)) dX11_shelf_12 (by decide) ?_
    exact q_ireturn dX11_shelf_13 rfl (by decide) (by decide) (by unfold shelfS; rw [if_pos hn]; exact ⟨rfl, h, KM.rf x Z⟩)
def itemS (σ : St) (k i : Int32) (v : Int64) : Int32 × St := if k < 0 ∨ ¬ k < 6 then (-1, σ) else if σ.1 1 k.toNatClampNeg = 0 then (-11, σ) else if σ.1 1 k.toNatClampNeg = 3 then (-15, σ) else if ¬ i < 0 ∧ ¬ σ.1 2 k.toNatClampNeg ≤ i then (1, pJ σ 4 (12 * k.toNatClampNeg + i.toNatClampNeg) (if σ.1 1 k.toNatClampNeg = 2 then v.toInt32.toInt64 else v)) else (-12, σ)
theorem l_lt (i j : Int32) : i.toInt64 < j.toInt64 ↔ i < j := by rw [Int64.lt_iff_toInt_lt, Int32.lt_iff_toInt_lt, Int32.toInt_toInt64, Int32.toInt_toInt64]
theorem l_le (i j : Int32) : i.toInt64 ≤ j.toInt64 ↔ i ≤ j := by rw [Int64.le_iff_toInt_le, Int32.le_iff_toInt_le, Int32.toInt_toInt64, Int32.toInt_toInt64]
theorem hasI {i : Int32} {cn : Nat} (hc : cn ≤ 12) : (¬ i.toInt64 < 0 ∧ ¬ (nI cn).toInt64 ≤ i.toInt64 ∧ ¬ 12 ≤ i.toInt64) ↔ (¬ i < 0 ∧ ¬ nI cn ≤ i) := by
  rw [show (0 : Int64) = (0 : Int32).toInt64 from rfl, show (12 : Int64) = (12 : Int32).toInt64 from rfl, l_lt, l_le, l_le]
  exact ⟨fun z => ⟨z.1, z.2.1⟩, fun z => ⟨z.1, z.2, fun y => z.2 (Int32.le_trans (nI_le (show cn ≤ 12 by omega) (by omega)) y)⟩⟩
theorem item_CR {Z : Zt} {x nf ns k i : Nat} {σ : St} {af as : Nat → Nat} {v : Int64} (h : CR Z x σ af as nf ns) (hk : k < 6) (hi : i < 12) : CR (sJ Z (x + 13 + 2 * k) i v) x (pJ σ 4 (12 * k + i) v) af as nf ns ∧ KM x Z (sJ Z (x + 13 + 2 * k) i v) := by
  refine CR_shelf h hk ⟨rfl, rfl, rfl, rfl, rfl, fun b hb => by rw [zJ_sJ, if_neg hb], fun j b hb => rfl⟩ ?_ (fun j _ _ => rfl) (fun j h1 h2 => pJ_ne h2)
  intro k' hk'
  obtain ⟨b1, b2, ⟨pt, b3, b4⟩, b5, b6⟩ := h.1.2.1 k' hk'
  refine ⟨b1, b2, ⟨pt, b3, fun z => by rw [pJ_ne (by decide)]; exact b4 z⟩, fun j hj => ?_, b6⟩
  rw [zJ_sJ, pJ_2]
  by_cases e : k' = k
  · subst e
    rw [if_pos rfl]
    by_cases e2 : j = i
    · subst e2; rw [if_pos ⟨rfl, rfl⟩, pk_uLs]
    · rw [if_neg (by omega), pk_uLn (by omega)]; exact b5 j hj
  · rw [if_neg (by omega), if_neg (by omega)]; exact b5 j hj
set_option maxHeartbeats 600000 in
set_option maxRecDepth 100000 in
theorem cc_item (l : Launch) (G : Gt) (Z : Zt) (x nf ns : Nat) (af as : Nat → Nat) (σ : St) (h : CR Z x σ af as nf ns) (k i : Int32) (v : Int64) : Ct l G YX11_item (2, 0, 0) Z [.ref x, .int k, .int i, .long v] (ΦI (fun r Z1 => r = (itemS σ k i v).1 ∧ CR Z1 x (itemS σ k i v).2 af as nf ns ∧ KM x Z Z1)) := by
  refine ct_of [some (.ref x), some (.int k), some (.int i), some (.long v), none, none, none] (by decide +kernel) (Nat.le_of_ble_eq_true rfl) rfl (fun M => ?_)
  have hx := h.1.1.1
  first | refine q_aload_n dX11_item_0 rfl ?_ | refine q_aload_nN dX11_item_0 rfl ?_
  refine q_iload_n dX11_item_1 rfl ?_
  refine q_callV 10 dX11_item_2 mk_X11_55 rfl hx.1 (cc_shelfAt l G Z x nf ns af as σ h k) rfl np_X11_shelfAt (by decide) (by decide) (by decide) (Nat.le_of_ble_eq_true rfl) (kA (fun r2 Z2 h2 => ?_))
  obtain ⟨e2, h2⟩ := h2
  rw [e2]
  rcases h2 with ⟨j, hj, rfl, rfl⟩ | ⟨hn, rfl⟩
  · obtain ⟨-, s1, s2, s3, s4⟩ := h.1.1.2.2.2.2.1 j hj
    obtain ⟨t1, t2, -, -, cn, hcn, t3⟩ := h.1.2.1 j hj
    have hnk : ¬ (nI j < 0 ∨ ¬ nI j < 6) := fun z => z.elim (ix_in (m := 6) (by decide) hj).1 (fun y => y (ix_in (m := 6) (by decide) hj).2)
    have hj2 : (nI j).toNatClampNeg = j := nI_clamp (by omega)
    first | refine q_astore (ls' := [_, _, _, _, _, _, _]) dX11_item_5 rfl rfl (Nat.le_of_ble_eq_true rfl) (by decide) ?_ | refine q_astoreN (ls' := [_, _, _, _, _, _, _]) dX11_item_5 rfl rfl (Nat.le_of_ble_eq_true rfl) (by decide) ?_
    first | refine q_aload dX11_item_7 rfl ?_ | refine q_aloadN dX11_item_7 rfl ?_
    refine q_ifnonnull 14 dX11_item_9 (by decide) ?_
    first | refine q_aload dX11_item_14 rfl ?_ | refine q_aloadN dX11_item_14 rfl ?_
    refine q_callV 5 dX11_item_16 mk_X11_63 rfl s1 (c_X6_rowFailure l G Z (x + 12 + 2 * j) (σ.1 1 j) s1 t1) rfl np_X6_rowFailure (by decide) (by decide) (by decide) (Nat.le_of_ble_eq_true rfl) (kI (fun r16 Z16 h16 => ?_))
    obtain ⟨e16, h16⟩ := h16
    rw [e16]
    by_cases k0 : σ.1 1 j = 0
    · rw [if_pos k0] at h16
      subst h16
      refine q_istore (ls' := [_, _, _, _, _, _, _]) dX11_item_19 rfl rfl (Nat.le_of_ble_eq_true rfl) (by decide) ?_
      refine q_iload dX11_item_21 rfl ?_
      refine q_if_ne 39 dX11_item_23 (by decide) (fun c23 => ?_) (fun c23 => absurd c23 (by decide))
      refine q_iload dX11_item_39 rfl ?_
      refine q_if_eq 50 dX11_item_41 (by decide) (fun c41 => absurd c41 (by decide)) (fun c41 => ?_)
      refine q_bipush (v := (-10)) dX11_item_44 (by decide) ?_
      refine q_iload dX11_item_46 rfl ?_
      refine q_isub dX11_item_48 ?_
      exact q_ireturn dX11_item_49 rfl (by decide) (by decide) (by unfold itemS; rw [if_neg hnk, hj2, if_pos k0]; exact ⟨rfl, h, KM.rf x Z⟩)
    · by_cases k3 : σ.1 1 j = 3
      · rw [if_neg k0, if_pos k3] at h16
        subst h16
        refine q_istore (ls' := [_, _, _, _, _, _, _]) dX11_item_19 rfl rfl (Nat.le_of_ble_eq_true rfl) (by decide) ?_
        refine q_iload dX11_item_21 rfl ?_
        refine q_if_ne 39 dX11_item_23 (by decide) (fun c23 => ?_) (fun c23 => absurd c23 (by decide))
        refine q_iload dX11_item_39 rfl ?_
        refine q_if_eq 50 dX11_item_41 (by decide) (fun c41 => absurd c41 (by decide)) (fun c41 => ?_)
        refine q_bipush (v := (-10)) dX11_item_44 (by decide) ?_
        refine q_iload dX11_item_46 rfl ?_
        refine q_isub dX11_item_48 ?_
        exact q_ireturn dX11_item_49 rfl (by decide) (by decide) (by unfold itemS; rw [if_neg hnk, hj2, if_neg k0, if_pos k3]; exact ⟨rfl, h, KM.rf x Z⟩)
      · rw [if_neg k0, if_neg k3] at h16
        subst h16
        rw [t3] at t2
        refine q_istore (ls' := [_, _, _, _, _, _, _]) dX11_item_19 rfl rfl (Nat.le_of_ble_eq_true rfl) (by decide) ?_
        refine q_iload dX11_item_21 rfl ?_
        refine q_if_ne 39 dX11_item_23 (by decide) (fun c23 => absurd c23 (by decide)) (fun c23 => ?_)
        first | refine q_aload dX11_item_26 rfl ?_ | refine q_aloadN dX11_item_26 rfl ?_
        refine q_iload_n dX11_item_28 rfl ?_
        refine q_i2l dX11_item_29 ?_
        refine q_callV 5 dX11_item_30 mk_X11_67 rfl s1 (c_X6_hasItem l G Z (x + 12 + 2 * j) (nI cn) i.toInt64 s1 t2) rfl np_X6_hasItem (by decide) (by decide) (by decide) (Nat.le_of_ble_eq_true rfl) (kI (fun r30 Z30 h30 => ?_))
        obtain ⟨e30, h30⟩ := h30
        rw [e30]
        refine q_if_ne 39 dX11_item_33 (by decide) (fun c33 => ?_) (fun c33 => ?_)
        · have hP := rb_t h30 c33
          have hQ := (hasI hcn).mp hP
          obtain ⟨i, hi, rfl⟩ := ix_of (by omega) hQ.1 (Int32.not_le.mp hQ.2)
          refine q_iload dX11_item_39 rfl ?_
          refine q_if_eq 50 dX11_item_41 (by decide) (fun c41 => ?_) (fun c41 => absurd c41 (by decide))
          first | refine q_aload dX11_item_50 rfl ?_ | refine q_aloadN dX11_item_50 rfl ?_
          refine q_iload_n dX11_item_52 rfl ?_
          refine q_lload_n dX11_item_53 rfl ?_
          refine q_callV 5 dX11_item_54 mk_X11_71 rfl s1 (c_X6_setItem l G Z (x + 12 + 2 * j) (x + 13 + 2 * j) (σ.1 1 j) (nI cn) (nI i) v s1 s2 t1 t2 s3 s4 (vp_in_nI (by omega) (by decide)) hP) rfl np_X6_setItem (by decide) (by decide) (by decide) (Nat.le_of_ble_eq_true rfl) (kV (fun Z54 h54 => ?_))
          refine q_iconst (v := 1) dX11_item_57 (by decide) ?_
          exact q_ireturn dX11_item_58 rfl (by decide) (by decide) (by unfold itemS; rw [if_neg hnk, hj2, if_neg k0, if_neg k3, t3, if_pos hQ, h54, nI_clamp (by omega)]; exact ⟨rfl, item_CR h hj (by omega)⟩)
        · have hQ : ¬ (¬ i < 0 ∧ ¬ nI cn ≤ i) := fun z => rb_f h30 c33 ((hasI hcn).mpr z)
          refine q_iconst (v := 2) dX11_item_36 (by decide) ?_
          refine q_istore (ls' := [_, _, _, _, _, _, _]) dX11_item_37 rfl rfl (Nat.le_of_ble_eq_true rfl) (by decide) ?_
          refine q_iload dX11_item_39 rfl ?_
          refine q_if_eq 50 dX11_item_41 (by decide) (fun c41 => absurd c41 (by decide)) (fun c41 => ?_)
          refine q_bipush (v := (-10)) dX11_item_44 (by decide) ?_
          refine q_iload dX11_item_46 rfl ?_
          refine q_isub dX11_item_48 ?_
          exact q_ireturn dX11_item_49 rfl (by decide) (by decide) (by unfold itemS; rw [if_neg hnk, hj2, if_neg k0, if_neg k3, t3, if_neg hQ]; exact ⟨rfl, h, KM.rf x Z⟩)
  · first | refine q_astore (ls' := [_, _, _, _, _, _, _]) dX11_item_5 rfl rfl (Nat.le_of_ble_eq_true rfl) (by decide) ?_ | refine q_astoreN (ls' := [_, _, _, _, _, _, _]) dX11_item_5 rfl rfl (Nat.le_of_ble_eq_true rfl) (by decide) ?_
    first | refine q_aload dX11_item_7 rfl ?_ | refine q_aloadN dX11_item_7 rfl ?_
    refine q_ifnonnullN dX11_item_9 ?_
    refine q_iconst (v := (-1)) dX11_item_12 (by decide) ?_
    exact q_ireturn dX11_item_13 rfl (by decide) (by decide) (by unfold itemS; rw [if_pos hn]; exact ⟨rfl, h, KM.rf x Z⟩)
