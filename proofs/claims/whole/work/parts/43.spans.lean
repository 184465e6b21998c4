theorem addS_17 (σ : St) (n : Nat) (so s t a nn d pl : Int32) (v F S C : Int64) : (addS σ n so s t a nn d pl v F S C).1 17 n = so := by rw [addS_1, if_neg (by omega), if_pos rfl, if_pos rfl]
theorem addS_18 (σ : St) (n : Nat) (so s t a nn d pl : Int32) (v F S C : Int64) : (addS σ n so s t a nn d pl v F S C).1 18 n = s := by rw [addS_1, if_neg (by omega), if_pos rfl, if_neg (by decide), if_pos rfl]
theorem addS_19 (σ : St) (n : Nat) (so s t a nn d pl : Int32) (v F S C : Int64) : (addS σ n so s t a nn d pl v F S C).1 19 n = t := by rw [addS_1, if_neg (by omega), if_pos rfl, if_neg (by decide), if_neg (by decide), if_pos rfl]
theorem addS_20 (σ : St) (n : Nat) (so s t a nn d pl : Int32) (v F S C : Int64) : (addS σ n so s t a nn d pl v F S C).1 20 n = a := by rw [addS_1, if_neg (by omega), if_pos rfl, if_neg (by decide), if_neg (by decide), if_neg (by decide), if_pos rfl]
theorem addS_21 (σ : St) (n : Nat) (so s t a nn d pl : Int32) (v F S C : Int64) : (addS σ n so s t a nn d pl v F S C).1 21 n = nn := by rw [addS_1, if_neg (by omega), if_pos rfl, if_neg (by decide), if_neg (by decide), if_neg (by decide), if_neg (by decide), if_pos rfl]
theorem addS_23 (σ : St) (n : Nat) (so s t a nn d pl : Int32) (v F S C : Int64) : (addS σ n so s t a nn d pl v F S C).1 23 n = d := by rw [addS_1, if_neg (by omega), if_pos rfl, if_neg (by decide), if_neg (by decide), if_neg (by decide), if_neg (by decide), if_neg (by decide), if_pos rfl]
theorem addS_24 (σ : St) (n : Nat) (so s t a nn d pl : Int32) (v F S C : Int64) : (addS σ n so s t a nn d pl v F S C).1 24 n = pl := by rw [addS_1, if_neg (by omega), if_pos rfl, if_neg (by decide), if_neg (by decide), if_neg (by decide), if_neg (by decide), if_neg (by decide), if_neg (by decide), if_pos rfl]
theorem addS_22 (σ : St) (n : Nat) (so s t a nn d pl : Int32) (v F S C : Int64) : (addS σ n so s t a nn d pl v F S C).2 22 n = v := by rw [addS_2, if_pos rfl, if_pos rfl]
theorem addS_25 (σ : St) (n : Nat) (so s t a nn d pl : Int32) (v F S C : Int64) : (addS σ n so s t a nn d pl v F S C).2 25 n = F := by rw [addS_2, if_pos rfl, if_neg (by decide), if_pos rfl]
theorem addS_26 (σ : St) (n : Nat) (so s t a nn d pl : Int32) (v F S C : Int64) : (addS σ n so s t a nn d pl v F S C).2 26 n = S := by rw [addS_2, if_pos rfl, if_neg (by decide), if_neg (by decide), if_pos rfl]
theorem addS_27 (σ : St) (n : Nat) (so s t a nn d pl : Int32) (v F S C : Int64) : (addS σ n so s t a nn d pl v F S C).2 27 n = C := by rw [addS_2, if_pos rfl, if_neg (by decide), if_neg (by decide), if_neg (by decide), if_pos rfl]
theorem zF_sSr (Z : Zt) (a : Nat) (v2 v3 v4 v5 v6 v7 v8 : Value) (k b : Nat) : zF (sSr Z a v2 v3 v4 v5 v6 v7 v8) k b = if k = 8 ∧ b = a then v8 else if k = 7 ∧ b = a then v7 else if k = 6 ∧ b = a then v6 else if k = 5 ∧ b = a then v5 else if k = 4 ∧ b = a then v4 else if k = 3 ∧ b = a then v3 else if k = 2 ∧ b = a then v2 else zF Z k b := by
  unfold sSr
  rw [zF_sF, zF_sF, zF_sF, zF_sF, zF_sF, zF_sF, zF_sF]
theorem zF_sSt (Z : Zt) (a : Nat) (f s : Int64) (d : Int32) (c : Int64) (k b : Nat) : zF (sSt Z a f s d c) k b = if k = 3 ∧ b = a then .long c else if k = 2 ∧ b = a then .int d else if k = 1 ∧ b = a then .long s else if k = 0 ∧ b = a then .long f else zF Z k b := by
  unfold sSt
  rw [zF_sF, zF_sF, zF_sF, zF_sF]
theorem zK_sSr (Z : Zt) (a : Nat) (v2 v3 v4 v5 v6 v7 v8 : Value) : zK (sSr Z a v2 v3 v4 v5 v6 v7 v8) = zK Z := by unfold sSr; rw [zK_sF, zK_sF, zK_sF, zK_sF, zK_sF, zK_sF, zK_sF]
theorem zK_sSt (Z : Zt) (a : Nat) (f s : Int64) (d : Int32) (c : Int64) : zK (sSt Z a f s d c) = zK Z := by unfold sSt; rw [zK_sF, zK_sF, zK_sF, zK_sF]
theorem Fr_sSr {n : Nat} {Z : Zt} {a : Nat} {v2 v3 v4 v5 v6 v7 v8 : Value} (h : n ≤ a) : Fr n Z (sSr Z a v2 v3 v4 v5 v6 v7 v8) := by
  unfold sSr
  exact (((((((Fr_sF h).tr (Fr_sF h)).tr (Fr_sF h)).tr (Fr_sF h)).tr (Fr_sF h)).tr (Fr_sF h)).tr (Fr_sF h))
theorem Fr_sSt {n : Nat} {Z : Zt} {a : Nat} {f s : Int64} {d : Int32} {c : Int64} (h : n ≤ a) : Fr n Z (sSt Z a f s d c) := by
  unfold sSt
  exact ((((Fr_sF h).tr (Fr_sF h)).tr (Fr_sF h)).tr (Fr_sF h))
theorem CR.asN {Z : Zt} {x nf ns : Nat} {σ : St} {af as : Nat → Nat} (h : CR Z x σ af as nf ns) {s : Nat} (hs : s < ns) : as s < zN Z := h.2.2.2.2.2.1.lt (by rw [(h.2.1 s hs).1.2.1]; decide)
theorem CR.afN {Z : Zt} {x nf ns : Nat} {σ : St} {af as : Nat → Nat} (h : CR Z x σ af as nf ns) {f : Nat} (hf : f < nf) : af f < zN Z := h.2.2.2.2.2.1.lt (by have := (h.1.2.2.2.2.2.2 f hf).1.kd; omega)
theorem plain_new {Z : Zt} {x nf ns a q d0 : Nat} {σ : St} {af as' : Nat → Nat} {so s t fa nn : Int32} {v F S C : Int64} (ha : as' ns = a) (hx : x + 61 ≤ a) (hK : zK Z a = 8) (hso : so = 0 ∨ so = 5 ∨ so = 8) (h0 : zF Z 0 a = .int so) (hd1 : 1 ≤ d0) (hd6 : d0 ≤ 6) (h1 : zF Z 1 a = .int (nI d0)) (h2 : zF Z 2 a = .ref q) (hst : stG Z x q F S C) :
    sO0 Z x (addS σ ns so s t fa nn (nI d0) 1 v F S C) as' ns ∧ sO1 Z x (addS σ ns so s t fa nn (nI d0) 1 v F S C) as' ns ∧ sO2 Z x (addS σ ns so s t fa nn (nI d0) 1 v F S C) as' ns ∧ sO3 Z (addS σ ns so s t fa nn (nI d0) 1 v F S C) af as' nf ns := by
  subst ha
  refine ⟨⟨hx, hK, by rw [addS_17]; exact h0, ⟨d0, hd6, hd1, by rw [addS_23], h1⟩, Or.inr (by rw [addS_24])⟩, fun _ => ⟨by rw [addS_17]; exact hso, q, h2, ?_⟩, fun z => ?_, fun z => ?_⟩
  · rw [stO_G, addS_25, addS_26, addS_27]; exact hst
  · rw [addS_24] at z; exact absurd z (by decide)
  · rw [addS_24] at z; exact absurd z (by decide)
noncomputable def spanS (σ : St) (lo hi st : Int64) : Int32 × St := if st < 1 then (-2, σ) else if lo ≤ hi ∧ (uQ (hi - lo) st < 0 ∨ uQ (hi - lo) st = 9223372036854775807) then (-3, σ) else if 20 ≤ σ.1 16 0 then (-3, σ) else (σ.1 16 0, addS σ (σ.1 16 0).toNatClampNeg 0 (σ.1 18 (σ.1 16 0).toNatClampNeg) (σ.1 19 (σ.1 16 0).toNatClampNeg) (σ.1 20 (σ.1 16 0).toNatClampNeg) (σ.1 21 (σ.1 16 0).toNatClampNeg) 1 1 (σ.2 22 (σ.1 16 0).toNatClampNeg) lo st (if lo ≤ hi then uQ (hi - lo) st + 1 else 0))
theorem span_wf {lo hi st : Int64} (hs : ¬ st < 1) (hf : ¬ (lo ≤ hi ∧ (uQ (hi - lo) st < 0 ∨ uQ (hi - lo) st = 9223372036854775807))) : ¬ (if lo ≤ hi then uQ (hi - lo) st + 1 else 0) < 0 ∧ wfSt lo st 0 (if lo ≤ hi then uQ (hi - lo) st + 1 else 0) := by
  by_cases hl : lo ≤ hi
  · rw [if_pos hl]
    have q0 : ¬ uQ (hi - lo) st < 0 := fun z => hf ⟨hl, Or.inl z⟩
    have q1 : uQ (hi - lo) st ≠ 9223372036854775807 := fun z => hf ⟨hl, Or.inr z⟩
    obtain ⟨a1, a2⟩ := uN_pos q0
    have a3 : uN (uQ (hi - lo) st) ≠ 9223372036854775807 := fun z => q1 (uN_inj (by rw [z]; rfl))
    have e : uN (uQ (hi - lo) st + 1) = uN (uQ (hi - lo) st) + 1 := by
      rw [uN_add, show uN 1 = 1 from rfl]; omega
    have s0 : ¬ st < 0 := fun z => hs (Int64.lt_of_lt_of_le z (by decide))
    obtain ⟨b1, b2⟩ := uN_pos s0
    have s1 : ¬ st.toInt < (1 : Int64).toInt := fun z => hs (Int64.lt_iff_toInt_lt.mpr z)
    have i1 : (1 : Int64).toInt = 1 := by decide
    refine ⟨fun z => ?_, fun _ => ⟨by omega, fun _ => ?_, fun z => absurd z (by decide)⟩⟩
    · rw [uN_neg_iff, e] at z; omega
    · rw [e, Nat.add_sub_cancel, uN_uQ]
      have d1 : uN (hi - lo) / uN st * uN st ≤ uN (hi - lo) := Nat.div_mul_le_self _ _
      have d2 : (uN (hi - lo) : Int) = hi.toInt - lo.toInt := by
        have := (gpf_abs lo hi).2 hl
        unfold gpf at this
        by_cases hlt : lo < hi
        · rw [if_pos hlt] at this; exact this
        · have e2 : lo = hi := Int64.le_antisymm hl (Int64.not_lt.mp hlt)
          rw [e2, Int64.sub_self]
          have : uN 0 = 0 := rfl
          omega
      have d3 : hi.toInt < 9223372036854775808 := by
        have := uN_int hi
        have := uN_lt hi
        split at * <;> omega
      generalize uN (hi - lo) / uN st * uN st = t at *
      omega
  · rw [if_neg hl]
    exact ⟨by decide, fun z => absurd z (by decide)⟩
theorem span_end {Z Z77 Z1 : Zt} {x nf ns : Nat} {σ : St} {af as : Nat → Nat} {lo hi st : Int64} {r : Int32} (h : CR Z x σ af as nf ns) (hs : ¬ st < 1) (hfl : ¬ (lo ≤ hi ∧ (uQ (hi - lo) st < 0 ∨ uQ (hi - lo) st = 9223372036854775807))) {c : Int64} (hcc : (if lo ≤ hi then uQ (hi - lo) st + 1 else 0) = c) (hC : CR Z77 x σ af as nf ns) (hkm : KM x Z Z77) (hnew : ∀ (s t fa nn : Int32) (v : Int64), sO0 Z77 x (addS σ ns 0 s t fa nn (nI 1) 1 v lo st c) (fun s => if s = ns then zN Z else as s) ns ∧ sO1 Z77 x (addS σ ns 0 s t fa nn (nI 1) 1 v lo st c) (fun s => if s = ns then zN Z else as s) ns ∧ sO2 Z77 x (addS σ ns 0 s t fa nn (nI 1) 1 v lo st c) (fun s => if s = ns then zN Z else as s) ns ∧ sO3 Z77 (addS σ ns 0 s t fa nn (nI 1) 1 v lo st c) af (fun s => if s = ns then zN Z else as s) nf ns)
    (hk : ((20 ≤ nI ns ∨ ¬ (1 : Int32) ≤ 6) → r = -3 ∧ Z1 = Z77) ∧ (¬ (20 ≤ nI ns ∨ ¬ (1 : Int32) ≤ 6) → r = nI ns ∧ Z1 = sF (sR Z77 (x + 4) ns (some (zN Z))) 5 x (.int (nI (ns + 1))))) : ∃ as1 ns1, r = (spanS σ lo hi st).1 ∧ CR Z1 x (spanS σ lo hi st).2 af as1 nf ns1 ∧ KM x Z Z1 := by
  have t3 := h.2.2.2.2.1.2.2.1
  have t4 := h.2.2.2.2.1.2.2.2.1
  unfold spanS
  rw [if_neg hs, if_neg hfl, t3, nI_clamp (by omega), hcc]
  by_cases hf : 20 ≤ nI ns
  · rw [if_pos hf]
    obtain ⟨e1, e2⟩ := hk.1 (Or.inl hf)
    rw [e2]
    exact ⟨as, ns, e1, hC, hkm⟩
  · rw [if_neg hf]
    obtain ⟨e1, e2⟩ := hk.2 (fun z => z.elim hf (fun y => y (by decide)))
    have hlt : ns < 20 := Classical.byContradiction fun z => hf (show nI 20 ≤ nI ns from nI_le (by omega) (by omega))
    obtain ⟨u1, u2⟩ := CR_addS 0 _ _ _ _ 1 1 _ lo st c hC hlt (fun s hs => Nat.ne_of_lt (h.asN hs)) e2 (hnew _ _ _ _ _)
    exact ⟨_, _, e1, u1, hkm.tr u2⟩
theorem span_one (q : Int64) : q + 1 < 1 ↔ (q < 0 ∨ q = 9223372036854775807) := by
  have e : uN (q + 1) = (uN q + 1) % 18446744073709551616 := by rw [uN_add]; rfl
  have hl := uN_lt q
  have i1 : (1 : Int64).toInt = 1 := by decide
  have hm : q = 9223372036854775807 ↔ uN q = 9223372036854775807 := ⟨fun z => by rw [z]; rfl, fun z => uN_inj (by rw [z]; rfl)⟩
  rw [uN_neg_iff, Int64.lt_iff_toInt_lt, uN_int, e, i1, hm]
  split <;> omega
set_option maxHeartbeats 600000 in
set_option maxRecDepth 100000 in
theorem span_tail0 (l : Launch) (G : Gt) (M : Mt) (Z : Zt) (x nf ns : Nat) (af as : Nat → Nat) (σ : St) (h : CR Z x σ af as nf ns) (lo hi st : Int64) (hs : ¬ st < 1) (hfl : ¬ (lo ≤ hi ∧ (uQ (hi - lo) st < 0 ∨ uQ (hi - lo) st = 9223372036854775807))) (hcc : (if lo ≤ hi then uQ (hi - lo) st + 1 else 0) = (0 : Int64)) (hc0 : ¬ (0 : Int64) < 0) (hwf : wfSt lo st 0 (0 : Int64)) : Jd l G YX11_span (2, 2, 13) M Z 0 0 (Qm G (2, 2, 13) M (ΦI (fun r Z1 => ∃ as1 ns1, r = (spanS σ lo hi st).1 ∧ CR Z1 x (spanS σ lo hi st).2 af as1 nf ns1 ∧ KM x Z Z1))) 16 [some (.ref x), some (.long lo), none, some (.long hi), none, some (.long st), none, none, none] [] := by
  have hx := h.1.1.1
  have hT := h.2.2.2.2.1
  have hs20 := hT.2.2.2.1
  have hN := h.2.2.2.2.2.2
  first | refine q_aload_n dX11_span_16 rfl ?_ | refine q_aload_nN dX11_span_16 rfl ?_
  refine q_new dX11_span_17 nk_X11_27 rfl (by decide) (by decide) ?_
  refine q_dup dX11_span_20 rfl ?_
  refine q_new dX11_span_21 nk_X11_122 rfl (by decide) (by decide) ?_
  refine q_dup dX11_span_24 rfl ?_
  refine q_lload_n dX11_span_25 rfl ?_
  refine q_lload dX11_span_26 rfl ?_
  refine q_iconst (v := 0) dX11_span_28 (by decide) ?_
  refine q_lconst (v := 0) dX11_span_29 (by decide) ?_
  refine q_callI dX11_span_30 mk_X11_124 rfl (c_X9_init l G _ (zN Z + 1) lo st (0 : Int64) 0 zK_nO' (Or.inl rfl)) rfl np_X9_init (by decide) (by decide) (by decide) (Nat.le_of_ble_eq_true rfl) (kV (fun Z74 h74 => ?_))
  have hK74 : zK Z74 (zN Z) = 8 := by rw [h74, zK_sSt, zK_nO (by rw [zN_nO]; omega), zK_nO']
  refine q_callI dX11_span_33 mk_X11_127 rfl (c_X8_init l G Z74 (zN Z) (zN Z + 1) hK74) rfl np_X8_init (by decide) (by decide) (by decide) (Nat.le_of_ble_eq_true rfl) (kV (fun Z77 h77 => ?_))
  have F : ∀ k b, zF Z77 k b = _ := fun k b => by rw [h77, zF_sSr, zF_sF, zF_sF, h74, zF_sSt]
  have hK77 : zK Z77 (zN Z) = 8 := by rw [h77, zK_sSr, zK_sF, zK_sF]; exact hK74
  have hKq : zK Z77 (zN Z + 1) = 9 := by rw [h77, zK_sSr, zK_sF, zK_sF, h74, zK_sSt]; exact zK_nO'
  have hD77 : zF Z77 1 (zN Z) = .int 1 := by rw [F, if_neg (by omega), if_neg (by omega), if_neg (by omega), if_neg (by omega), if_neg (by omega), if_neg (by omega), if_neg (by omega), if_pos ⟨rfl, rfl⟩]
  have hFr : Fr (zN Z) Z Z77 := by
    rw [h77, h74]
    exact (((((Fr_nO (Nat.le_refl _)).tr (Fr_nO (by rw [zN_nO]; omega))).tr (Fr_sSt (by omega))).tr (Fr_sF (Nat.le_refl _))).tr (Fr_sF (Nat.le_refl _))).tr (Fr_sSr (Nat.le_refl _))
  have hC := h.fr hFr
  have hkm := hFr.km hN
  have hst : stG Z77 x (zN Z + 1) lo st (0 : Int64) := ⟨by omega, hKq, lo, st, (0 : Int64), 0, by rw [F, if_neg (by omega), if_neg (by omega), if_neg (by omega), if_neg (by omega), if_neg (by omega), if_neg (by omega), if_neg (by omega), if_neg (by omega), if_neg (by omega), if_neg (by omega), if_neg (by omega), if_neg (by omega), if_pos ⟨rfl, rfl⟩], by rw [F, if_neg (by omega), if_neg (by omega), if_neg (by omega), if_neg (by omega), if_neg (by omega), if_neg (by omega), if_neg (by omega), if_neg (by omega), if_neg (by omega), if_neg (by omega), if_neg (by omega), if_pos ⟨rfl, rfl⟩], by rw [F, if_neg (by omega), if_neg (by omega), if_neg (by omega), if_neg (by omega), if_neg (by omega), if_neg (by omega), if_neg (by omega), if_neg (by omega), if_neg (by omega), if_neg (by omega), if_pos ⟨rfl, rfl⟩], by rw [F, if_neg (by omega), if_neg (by omega), if_neg (by omega), if_neg (by omega), if_neg (by omega), if_neg (by omega), if_neg (by omega), if_neg (by omega), if_neg (by omega), if_pos ⟨rfl, rfl⟩], Or.inl rfl, rfl, hc0, fun _ => ⟨rfl, by rw [if_pos rfl]⟩, hwf⟩
  have hnew := fun s t fa nn v => plain_new (Z := Z77) (x := x) (nf := nf) (ns := ns) (a := zN Z) (q := zN Z + 1) (d0 := 1) (σ := σ) (af := af) (as' := fun s => if s = ns then zN Z else as s) (so := 0) (s := s) (t := t) (fa := fa) (nn := nn) (v := v) (F := lo) (S := st) (C := (0 : Int64)) (if_pos rfl) hN hK77 (Or.inl rfl) (by rw [F, if_neg (by omega), if_neg (by omega), if_neg (by omega), if_neg (by omega), if_neg (by omega), if_neg (by omega), if_neg (by omega), if_neg (by omega), if_pos ⟨rfl, rfl⟩]) (by omega) (by omega) hD77 (by rw [F, if_neg (by omega), if_neg (by omega), if_neg (by omega), if_neg (by omega), if_neg (by omega), if_neg (by omega), if_pos ⟨rfl, rfl⟩]) hst
  refine q_callV 10 dX11_span_36 mk_X11_130 rfl hC.1.1.1.1 (cc_keepSource l G Z77 x nf ns af as σ hC (zN Z) 1 hK77 hD77) rfl np_X11_keepSource (by decide) (by decide) (by decide) (Nat.le_of_ble_eq_true rfl) (kI (fun r80 Z80 h80 => ?_))
  exact q_ireturn dX11_span_39 rfl (by decide) (by decide) (span_end h hs hfl hcc hC hkm hnew h80)
set_option maxHeartbeats 600000 in
set_option maxRecDepth 100000 in
theorem span_tail (l : Launch) (G : Gt) (M : Mt) (Z : Zt) (x nf ns : Nat) (af as : Nat → Nat) (σ : St) (h : CR Z x σ af as nf ns) (lo hi st sp : Int64) (hs : ¬ st < 1) (hfl : ¬ (lo ≤ hi ∧ (uQ (hi - lo) st < 0 ∨ uQ (hi - lo) st = 9223372036854775807))) (hcc : (if lo ≤ hi then uQ (hi - lo) st + 1 else 0) = sp) (hc0 : ¬ sp < 0) (hwf : wfSt lo st 0 sp) : Jd l G YX11_span (2, 2, 13) M Z 0 0 (Qm G (2, 2, 13) M (ΦI (fun r Z1 => ∃ as1 ns1, r = (spanS σ lo hi st).1 ∧ CR Z1 x (spanS σ lo hi st).2 af as1 nf ns1 ∧ KM x Z Z1))) 62 [some (.ref x), some (.long lo), none, some (.long hi), none, some (.long st), none, some (.long sp), none] [] := by
  have hx := h.1.1.1
  have hT := h.2.2.2.2.1
  have hs20 := hT.2.2.2.1
  have hN := h.2.2.2.2.2.2
  first | refine q_aload_n dX11_span_62 rfl ?_ | refine q_aload_nN dX11_span_62 rfl ?_
  refine q_new dX11_span_63 nk_X11_27 rfl (by decide) (by decide) ?_
  refine q_dup dX11_span_66 rfl ?_
  refine q_new dX11_span_67 nk_X11_122 rfl (by decide) (by decide) ?_
  refine q_dup dX11_span_70 rfl ?_
  refine q_lload_n dX11_span_71 rfl ?_
  refine q_lload dX11_span_72 rfl ?_
  refine q_iconst (v := 0) dX11_span_74 (by decide) ?_
  refine q_lload dX11_span_75 rfl ?_
  refine q_callI dX11_span_77 mk_X11_124 rfl (c_X9_init l G _ (zN Z + 1) lo st sp 0 zK_nO' (Or.inl rfl)) rfl np_X9_init (by decide) (by decide) (by decide) (Nat.le_of_ble_eq_true rfl) (kV (fun Z74 h74 => ?_))
  have hK74 : zK Z74 (zN Z) = 8 := by rw [h74, zK_sSt, zK_nO (by rw [zN_nO]; omega), zK_nO']
  refine q_callI dX11_span_80 mk_X11_127 rfl (c_X8_init l G Z74 (zN Z) (zN Z + 1) hK74) rfl np_X8_init (by decide) (by decide) (by decide) (Nat.le_of_ble_eq_true rfl) (kV (fun Z77 h77 => ?_))
  have F : ∀ k b, zF Z77 k b = _ := fun k b => by rw [h77, zF_sSr, zF_sF, zF_sF, h74, zF_sSt]
  have hK77 : zK Z77 (zN Z) = 8 := by rw [h77, zK_sSr, zK_sF, zK_sF]; exact hK74
  have hKq : zK Z77 (zN Z + 1) = 9 := by rw [h77, zK_sSr, zK_sF, zK_sF, h74, zK_sSt]; exact zK_nO'
  have hD77 : zF Z77 1 (zN Z) = .int 1 := by rw [F, if_neg (by omega), if_neg (by omega), if_neg (by omega), if_neg (by omega), if_neg (by omega), if_neg (by omega), if_neg (by omega), if_pos ⟨rfl, rfl⟩]
  have hFr : Fr (zN Z) Z Z77 := by
    rw [h77, h74]
    exact (((((Fr_nO (Nat.le_refl _)).tr (Fr_nO (by rw [zN_nO]; omega))).tr (Fr_sSt (by omega))).tr (Fr_sF (Nat.le_refl _))).tr (Fr_sF (Nat.le_refl _))).tr (Fr_sSr (Nat.le_refl _))
  have hC := h.fr hFr
  have hkm := hFr.km hN
  have hst : stG Z77 x (zN Z + 1) lo st sp := ⟨by omega, hKq, lo, st, sp, 0, by rw [F, if_neg (by omega), if_neg (by omega), if_neg (by omega), if_neg (by omega), if_neg (by omega), if_neg (by omega), if_neg (by omega), if_neg (by omega), if_neg (by omega), if_neg (by omega), if_neg (by omega), if_neg (by omega), if_pos ⟨rfl, rfl⟩], by rw [F, if_neg (by omega), if_neg (by omega), if_neg (by omega), if_neg (by omega), if_neg (by omega), if_neg (by omega), if_neg (by omega), if_neg (by omega), if_neg (by omega), if_neg (by omega), if_neg (by omega), if_pos ⟨rfl, rfl⟩], by rw [F, if_neg (by omega), if_neg (by omega), if_neg (by omega), if_neg (by omega), if_neg (by omega), if_neg (by omega), if_neg (by omega), if_neg (by omega), if_neg (by omega), if_neg (by omega), if_pos ⟨rfl, rfl⟩], by rw [F, if_neg (by omega), if_neg (by omega), if_neg (by omega), if_neg (by omega), if_neg (by omega), if_neg (by omega), if_neg (by omega), if_neg (by omega), if_neg (by omega), if_pos ⟨rfl, rfl⟩], Or.inl rfl, rfl, hc0, fun _ => ⟨rfl, by rw [if_pos rfl]⟩, hwf⟩
  have hnew := fun s t fa nn v => plain_new (Z := Z77) (x := x) (nf := nf) (ns := ns) (a := zN Z) (q := zN Z + 1) (d0 := 1) (σ := σ) (af := af) (as' := fun s => if s = ns then zN Z else as s) (so := 0) (s := s) (t := t) (fa := fa) (nn := nn) (v := v) (F := lo) (S := st) (C := sp) (if_pos rfl) hN hK77 (Or.inl rfl) (by rw [F, if_neg (by omega), if_neg (by omega), if_neg (by omega), if_neg (by omega), if_neg (by omega), if_neg (by omega), if_neg (by omega), if_neg (by omega), if_pos ⟨rfl, rfl⟩]) (by omega) (by omega) hD77 (by rw [F, if_neg (by omega), if_neg (by omega), if_neg (by omega), if_neg (by omega), if_neg (by omega), if_neg (by omega), if_pos ⟨rfl, rfl⟩]) hst
  refine q_callV 10 dX11_span_83 mk_X11_130 rfl hC.1.1.1.1 (cc_keepSource l G Z77 x nf ns af as σ hC (zN Z) 1 hK77 hD77) rfl np_X11_keepSource (by decide) (by decide) (by decide) (Nat.le_of_ble_eq_true rfl) (kI (fun r80 Z80 h80 => ?_))
  exact q_ireturn dX11_span_86 rfl (by decide) (by decide) (span_end h hs hfl hcc hC hkm hnew h80)
set_option maxHeartbeats 600000 in
set_option maxRecDepth 100000 in
theorem cc_span (l : Launch) (G : Gt) (Z : Zt) (x nf ns : Nat) (af as : Nat → Nat) (σ : St) (h : CR Z x σ af as nf ns) (lo hi st : Int64) : Ct l G YX11_span (2, 2, 13) Z [.ref x, .long lo, .long hi, .long st] (ΦI (fun r Z1 => ∃ as1 ns1, r = (spanS σ lo hi st).1 ∧ CR Z1 x (spanS σ lo hi st).2 af as1 nf ns1 ∧ KM x Z Z1)) := by
  refine ct_of [some (.ref x), some (.long lo), none, some (.long hi), none, some (.long st), none, none, none] (by decide +kernel) (Nat.le_of_ble_eq_true rfl) rfl (fun M => ?_)
  have hx := h.1.1.1
  have hT := h.2.2.2.2.1
  have hs20 := hT.2.2.2.1
  have hN := h.2.2.2.2.2.2
  refine q_lload dX11_span_0 rfl ?_
  refine q_lconst (v := 1) dX11_span_2 (by decide) ?_
  refine q_lcmp_ge 10 dX11_span_3 dX11_span_4 (by decide) (fun c3 => ?_) (fun c3 => ?_)
  · refine q_lload_n dX11_span_10 rfl ?_
    refine q_lload_n dX11_span_11 rfl ?_
    refine q_lcmp_le 40 dX11_span_12 dX11_span_13 (by decide) (fun c12 => ?_) (fun c12 => ?_)
    · refine q_lload_n dX11_span_40 rfl ?_
      refine q_lload_n dX11_span_41 rfl ?_
      refine q_lsub dX11_span_42 ?_
      refine q_lload dX11_span_43 rfl ?_
      refine q_callS dX11_span_45 mk_X11_134 (c_X11_unsignedQuotient l G Z (hi - lo) st) rfl np_X11_unsignedQuotient (by decide) (by decide) (by decide) (Nat.le_of_ble_eq_true rfl) (kL (fun r27 Z27 h27 => ?_))
      obtain ⟨e27, h27⟩ := h27
      rw [e27]
      subst h27
      refine q_lconst (v := 1) dX11_span_48 (by decide) ?_
      refine q_ladd dX11_span_49 ?_
      refine q_lstore (ls' := [_, _, _, _, _, _, _, _, _]) dX11_span_50 rfl rfl (Nat.le_of_ble_eq_true rfl) (by decide) ?_
      refine q_lload dX11_span_52 rfl ?_
      refine q_lconst (v := 1) dX11_span_54 (by decide) ?_
      refine q_lcmp_ge 62 dX11_span_55 dX11_span_56 (by decide) (fun c55 => ?_) (fun c55 => ?_)
      · have hfl : ¬ (lo ≤ hi ∧ (uQ (hi - lo) st < 0 ∨ uQ (hi - lo) st = 9223372036854775807)) := fun z => Int64.not_lt.mpr c55 ((span_one _).mpr z.2)
        have hcnt : (if lo ≤ hi then uQ (hi - lo) st + 1 else 0) = uQ (hi - lo) st + 1 := by rw [if_pos c12]
        obtain ⟨hc0, hwf⟩ := span_wf (Int64.not_lt.mpr c3) hfl
        rw [hcnt] at hc0 hwf
        exact span_tail l G M Z x nf ns af as σ h lo hi st _ (Int64.not_lt.mpr c3) hfl hcnt hc0 hwf
      · refine q_bipush (v := (-3)) dX11_span_59 (by decide) ?_
        exact q_ireturn dX11_span_61 rfl (by decide) (by decide) (by unfold spanS; rw [if_neg (Int64.not_lt.mpr c3), if_pos ⟨c12, (span_one _).mp (Int64.not_le.mp c55)⟩]; exact ⟨as, ns, rfl, h, KM.rf x Z⟩)
    · have hfl : ¬ (lo ≤ hi ∧ (uQ (hi - lo) st < 0 ∨ uQ (hi - lo) st = 9223372036854775807)) := fun z => absurd z.1 c12
      have hcnt : (if lo ≤ hi then uQ (hi - lo) st + 1 else 0) = 0 := by rw [if_neg c12]
      obtain ⟨hc0, hwf⟩ := span_wf (Int64.not_lt.mpr c3) hfl
      rw [hcnt] at hc0 hwf
      exact span_tail0 l G M Z x nf ns af as σ h lo hi st (Int64.not_lt.mpr c3) hfl hcnt hc0 hwf
  · refine q_bipush (v := (-2)) dX11_span_7 (by decide) ?_
    exact q_ireturn dX11_span_9 rfl (by decide) (by decide) (by unfold spanS; rw [if_pos (Int64.not_le.mp c3)]; exact ⟨as, ns, rfl, h, KM.rf x Z⟩)
