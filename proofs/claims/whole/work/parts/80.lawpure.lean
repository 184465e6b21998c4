/-! what the loop keeps -/
def PX (σ : St) : Prop := (∀ k, k < 6 → σ.1 1 k ∈ ([0, 1, 2, 3] : List Int32)) ∧ ∀ f, f < (σ.1 6 0).toNatClampNeg → 0 ≤ σ.1 7 f ∧ σ.1 7 f ≤ 12
theorem PX.cong {σ τ : St} (h : PX σ) (e1 : τ.1 1 = σ.1 1) (e6 : τ.1 6 = σ.1 6) (e7 : τ.1 7 = σ.1 7) : PX τ := by
  unfold PX at h ⊢
  rw [e1, e6, e7]
  exact h
theorem PX_0 : PX σ0 := ⟨fun k _ => by show (0 : Int32) ∈ _; decide, fun f hf => absurd hf (by show ¬ f < (0 : Int32).toNatClampNeg; exact Nat.not_lt_zero _)⟩
theorem i03 {k : Int32} (h0 : ¬ k < 0) (h3 : k ≤ 3) : k ∈ ([0, 1, 2, 3] : List Int32) := by
  obtain ⟨j, hj, rfl⟩ := nI_of2 (x := k) (M := 3) (n := 3) (by decide) h0 h3
  rcases (show j = 0 ∨ j = 1 ∨ j = 2 ∨ j = 3 by omega) with rfl | rfl | rfl | rfl <;> decide
theorem PX_shelf {σ : St} (h : PX σ) (k kd n : Int32) : PX (shelfS σ k kd n).2 := by
  unfold shelfS
  split
  · exact h
  · split
    · exact h
    next c2 =>
      split
      · exact h
      · refine ⟨fun j hj => ?_, h.2⟩
        show (if 1 = 1 ∧ j = k.toNatClampNeg then kd else if 1 = 2 ∧ j = k.toNatClampNeg then _ else σ.1 1 j) ∈ _
        by_cases e : j = k.toNatClampNeg
        · rw [if_pos ⟨rfl, e⟩]
          exact i03 (fun z => c2 (Or.inl z)) (Classical.byContradiction fun z => c2 (Or.inr z))
        · rw [if_neg (fun z => e z.2), if_neg (fun z => by omega)]
          exact h.1 j hj
theorem PX_item {σ : St} (h : PX σ) (k i : Int32) (v : Int64) : PX (itemS σ k i v).2 := by
  unfold itemS
  repeat' split
  all_goals exact h
theorem PX_keepF {σ : St} (h : PX σ) {nf : Nat} (h6 : σ.1 6 0 = nI nf) (hn : nf ≤ 20) {kd a b d : Int32} {v : Int64} (hk : 0 ≤ kd ∧ kd ≤ 12) : PX (keepF σ kd a b d v).2 := by
  unfold keepF
  split
  · exact h
  next c =>
    rw [h6, nI_clamp (by omega)]
    refine ⟨fun k hk6 => ?_, fun f hf => ?_⟩
    · show (addF σ nf kd a b d v).1 1 k ∈ _
      rw [addF_1, if_neg (by omega)]
      split
      · rw [if_neg (by decide), if_neg (by decide), if_neg (by decide), if_neg (by decide), if_neg (by decide)]; exact h.1 k hk6
      · exact h.1 k hk6
    · have e6 : (addF σ nf kd a b d v).1 6 0 = nI (nf + 1) := by rw [addF_1, if_pos ⟨rfl, rfl⟩]
      have hf : f < ((addF σ nf kd a b d v).1 6 0).toNatClampNeg := hf
      rw [e6, nI_clamp (by omega)] at hf
      show 0 ≤ (addF σ nf kd a b d v).1 7 f ∧ (addF σ nf kd a b d v).1 7 f ≤ 12
      rw [addF_1, if_neg (by omega)]
      by_cases e : f = nf
      · rw [if_pos e, if_pos rfl]; exact hk
      · rw [if_neg e]
        exact h.2 f (by rw [h6, nI_clamp (by omega)]; omega)
theorem PX_filter {σ : St} (h : PX σ) {nf : Nat} (h6 : σ.1 6 0 = nI nf) (hn : nf ≤ 20) (kd a b : Int32) (v : Int64) : PX (filtS σ kd a b v).2 := by
  unfold filtS
  split
  · exact h
  next c =>
    have hk : 0 ≤ kd ∧ kd ≤ 12 := ⟨Int32.not_lt.mp (fun z => c (Or.inl z)), Classical.byContradiction fun z => c (Or.inr z)⟩
    split
    · unfold madeS
      split
      · exact h
      · exact PX_keepF h h6 hn hk
    · split
      · split
        · exact h
        · exact PX_keepF h h6 hn hk
      · split
        · split
          · exact h
          · exact PX_keepF h h6 hn (by decide)
        · exact PX_keepF h h6 hn hk
theorem PX_ask {σ : St} (h : PX σ) (f : Int32) (c : Int64) : PX (askR σ f c).2 := by
  unfold askR
  split
  · exact h
  · have k := kp4_jS 6 f.toNatClampNeg c (pI σ 15 0 0)
    refine h.cong ?_ ?_ ?_
    · rw [k.1 1 (by decide) (by decide) (by decide) (by decide), pI_ne (by decide)]
    · rw [k.1 6 (by decide) (by decide) (by decide) (by decide), pI_ne (by decide)]
    · rw [k.1 7 (by decide) (by decide) (by decide) (by decide), pI_ne (by decide)]
theorem PX_addS {σ : St} (h : PX σ) (n : Nat) (so s t a nn d pl : Int32) (v F S C : Int64) : PX (addS σ n so s t a nn d pl v F S C) := by
  refine h.cong (funext fun i => ?_) (funext fun i => ?_) (funext fun i => ?_)
  all_goals
    rw [addS_1, if_neg (by omega)]
    split
    · rw [if_neg (by decide), if_neg (by decide), if_neg (by decide), if_neg (by decide), if_neg (by decide), if_neg (by decide), if_neg (by decide)]
    · rfl
theorem PX_keepS {σ : St} (h : PX σ) (so s t a nn d pl : Int32) (v F S C : Int64) : PX (keepS σ so s t a nn d pl v F S C).2 := by
  unfold keepS
  split
  · exact h
  · exact PX_addS h _ _ _ _ _ _ _ _ _ _ _ _
theorem PX_span {σ : St} (h : PX σ) (lo hi st : Int64) : PX (spanS σ lo hi st).2 := by
  unfold spanS
  split
  · exact h
  · split
    · exact h
    · split
      · exact h
      · exact PX_addS h _ _ _ _ _ _ _ _ _ _ _ _
theorem PX_list {σ : St} (h : PX σ) : PX (listS σ).2 := by
  unfold listS
  split
  · exact h
  · exact PX_addS h _ _ _ _ _ _ _ _ _ _ _ _
theorem PX_add {σ : St} (h : PX σ) (s : Int32) (v : Int64) : PX (addR σ s v).2 := by
  unfold addR
  split
  · exact h
  · split
    · split
      · exact h
      · exact h.cong rfl rfl rfl
    · exact h
theorem PX_source {σ : St} (h : PX σ) (so s t a n : Int32) (v : Int64) : PX (srcS σ so s t a n v).2 := by
  unfold srcS fromS
  repeat' split
  all_goals first | exact h | exact PX_keepS h _ _ _ _ _ _ _ _ _ _ _
theorem PX_range {σ : St} (h : PX σ) (s : Int32) : PX (rangeR σ s).2 := by
  unfold rangeR
  split
  · exact h
  · have h1 : PX (pI (pI σ 15 0 0) 32 0 0) := h.cong (by rw [pI_ne (by decide), pI_ne (by decide)]) (by rw [pI_ne (by decide), pI_ne (by decide)]) (by rw [pI_ne (by decide), pI_ne (by decide)])
    by_cases hp : (pI (pI σ 15 0 0) 32 0 0).1 24 s.toNatClampNeg = 1
    · rw [rngS_p hp]
      exact h1.cong (funext fun i => by show (plnS _ _).1 1 i = _; rw [pln_1, if_neg (by omega)]) (funext fun i => by show (plnS _ _).1 6 i = _; rw [pln_1, if_neg (by omega)]) (funext fun i => by show (plnS _ _).1 7 i = _; rw [pln_1, if_neg (by omega)])
    · have k := kp8_gS 6 s.toNatClampNeg (pI (pI σ 15 0 0) 32 0 0)
      rcases hq : gS 6 s.toNatClampNeg (pI (pI σ 15 0 0) 32 0 0) with ⟨er | L, τ⟩
      · rw [rngS_l hp hq]
        rw [hq] at k
        exact h1.cong (k.1 1 (by decide) (by decide) (by decide) (by decide) (by decide) (by decide) (by decide)) (k.1 6 (by decide) (by decide) (by decide) (by decide) (by decide) (by decide) (by decide)) (k.1 7 (by decide) (by decide) (by decide) (by decide) (by decide) (by decide) (by decide))
      · rw [rngS_r hp hq]
        rw [hq] at k
        have h2 : PX τ := h1.cong (k.1 1 (by decide) (by decide) (by decide) (by decide) (by decide) (by decide) (by decide)) (k.1 6 (by decide) (by decide) (by decide) (by decide) (by decide) (by decide) (by decide)) (k.1 7 (by decide) (by decide) (by decide) (by decide) (by decide) (by decide) (by decide))
        exact h2.cong (funext fun i => by show (gthS _ _).1 1 i = _; rw [gth_1, if_neg (by omega)]) (funext fun i => by show (gthS _ _).1 6 i = _; rw [gth_1, if_neg (by omega)]) (funext fun i => by show (gthS _ _).1 7 i = _; rw [gth_1, if_neg (by omega)])
section CRF
variable {Z : Zt} {x nf ns : Nat} {σ : St} {af as : Nat → Nat}
theorem CR.h6 (h : CR Z x σ af as nf ns) : σ.1 6 0 = nI nf := h.1.2.2.2.2.1
theorem CR.hnf (h : CR Z x σ af as nf ns) : nf ≤ 20 := h.1.2.2.2.2.2.1
theorem CR.h16 (h : CR Z x σ af as nf ns) : σ.1 16 0 = nI ns := h.2.2.2.2.1.2.2.1
theorem CR.hns (h : CR Z x σ af as nf ns) : ns ≤ 20 := h.2.2.2.2.1.2.2.2.1
theorem CR.sh2 (h : CR Z x σ af as nf ns) : ∀ k, k < 6 → ∃ cn, cn ≤ 12 ∧ σ.1 2 k = nI cn := fun k hk => (h.1.2.1 k hk).2.2.2.2
theorem CR.h32 (h : CR Z x σ af as nf ns) : ∃ b, b ≤ 20 ∧ σ.1 32 0 = nI b := by
  obtain ⟨b, h1, h2, -⟩ := h.2.2.1
  exact ⟨b, h1, h2⟩
theorem CR.h36 (h : CR Z x σ af as nf ns) : σ.1 36 0 = 0 ∨ σ.1 36 0 = 1 := h.2.2.2.1.elim (fun z => Or.inl z.1) (fun z => Or.inr z.1)
theorem CR.h24 (h : CR Z x σ af as nf ns) : ∀ p, p < ns → σ.1 24 p = 0 ∨ σ.1 24 p = 1 := fun p hp => (h.pfs.2 p hp).1
theorem CR.hl (h : CR Z x σ af as nf ns) : ∀ s, s < ns → σ.1 17 s = 1 → ∃ cn, cn ≤ 12 ∧ σ.2 27 s = lN cn := by
  intro s hs h1
  have p := h.pfs.2 s hs
  rcases p.1 with e | e
  · exact (p.2.2.2 e).2.1 h1
  · have := ((h.2.1 s hs).2.1 e).1
    rw [h1] at this
    exact absurd this (by decide)
theorem CR.pff (h : CR Z x σ af as nf ns) (p : PX σ) : PFf σ nf := by
  have hn := h.hnf
  refine ⟨hn, h.sh2, p.1, fun f hf => ?_⟩
  obtain ⟨⟨-, -, d, d1, d2, d3, -⟩, g1, g2, g3, -⟩ := (h.1.2.2.2.2.2.2 f hf).1
  refine ⟨p.2 f (by rw [h.h6, nI_clamp (by omega)]; exact hf), by unfold dpt; rw [d3, nI_clamp (by omega)]; exact ⟨d2, d1⟩, fun e => ?_, fun e => ?_, fun e => ?_⟩
  · obtain ⟨-, s, a, b, -⟩ := g1 e
    exact ⟨s, a, b⟩
  · obtain ⟨-, s, a, b, -⟩ := g2 e
    exact ⟨s, a, b⟩
  · obtain ⟨-, -, ⟨g, a, b, -, c⟩, k, -⟩ := g3 e
    refine ⟨⟨g, a, b, c⟩, fun e2 => ?_⟩
    obtain ⟨j, a, b, -, c⟩ := k e2
    exact ⟨j, a, b, c⟩
end CRF
theorem mA_sur : ∀ j, j < 30 → 1 ≤ j → ∃ k, k < 41 ∧ 20 ≤ mT k ∧ mA k = j := by decide +kernel
theorem MR.eq {Z Z1 : Zt} {y : Nat} {σ e : St} (h : MR Z y σ e) (q : ∀ b, y ≤ b → b < y + 30 → Eq1 Z Z1 b) : MR Z1 y σ e := by
  obtain ⟨a1, a2, a3, a4, a5⟩ := h
  have ey := q y (by omega) (by omega)
  refine ⟨ey.1.trans a1, fun k h1 h2 => ?_, fun k h1 h2 i hi => ?_, fun k h1 h2 => (ey.2.2.2.2.2 k).trans (a4 k h1 h2), fun k h1 h2 => (ey.2.2.2.2.2 k).trans (a5 k h1 h2)⟩
  · have b := mA_b k h1 h2
    have eb := q (y + mA k) (by omega) (by omega)
    obtain ⟨c1, c2, c3⟩ := a2 k h1 h2
    exact ⟨(ey.2.2.2.2.2 k).trans c1, eb.1.trans c2, eb.2.1.trans c3⟩
  · have b := mA_b k h1 h2
    have eb := q (y + mA k) (by omega) (by omega)
    rw [eb.2.2.1, eb.2.2.2.1]
    exact a3 k h1 h2 i hi
def OU (Z : Zt) (o : Nat) : Prop := zK Z o = 21 ∧ zL Z o = 1
theorem OU.eq {Z Z1 : Zt} {o : Nat} (h : OU Z o) (q : Eq1 Z Z1 o) : OU Z1 o := ⟨q.1.trans h.1, q.2.1.trans h.2⟩
theorem MK_of {Z : Zt} {x : Nat} {σ e : St} (h : MR Z (x + 30) σ e) (ho : OU Z (x + 60)) : MK Z x := by
  intro b h1 h2
  by_cases e1 : b = x + 60
  · subst e1; rw [ho.1]; decide
  · by_cases e2 : b = x + 30
    · subst e2; rw [h.1]; decide
    · obtain ⟨k, k1, k2, k3⟩ := mA_sur (b - (x + 30)) (by omega) (by omega)
      have := (h.2.1 k k1 k2).2.1
      rw [k3, show x + 30 + (b - (x + 30)) = b by omega] at this
      omega
/-- the loop's invariant -/
def LV (x : Nat) (Z : Zt) : Prop := ∃ (σ e : St) (af as : Nat → Nat) (nf ns : Nat), CR Z x σ af as nf ns ∧ MR Z (x + 30) σ e ∧ OU Z (x + 60) ∧ PX σ
theorem KM.mr {x : Nat} {Z Z1 : Zt} {σ e : St} (k : KM x Z Z1) (h : MR Z (x + 30) σ e) : MR Z1 (x + 30) σ e := h.eq (fun b h1 h2 => k.2 b (by omega) (by omega))
theorem KM.ou {x : Nat} {Z Z1 : Zt} (k : KM x Z Z1) (h : OU Z (x + 60)) : OU Z1 (x + 60) := h.eq (k.2 (x + 60) (by omega) (by omega))
theorem MF.cr {x nf ns : Nat} {Z Z1 : Zt} {σ : St} {af as : Nat → Nat} (f : MF (x + 30) Z Z1) (h : CR Z x σ af as nf ns) : CR Z1 x σ af as nf ns := h.keep (Nat.le_of_eq f.1.symm) (fun a ha => by rw [f.2.1]; exact h.2.2.2.2.2.1 a (by rw [f.1] at ha; exact ha)) (fun b hb => f.2.2 b (by omega))
theorem MF.ou {x : Nat} {Z Z1 : Zt} (f : MF (x + 30) Z Z1) (h : OU Z (x + 60)) : OU Z1 (x + 60) := h.eq (f.2.2 (x + 60) (by omega))
theorem LV_end {x nf ns : Nat} {Z1 Z2 : Zt} {σ e : St} {af as : Nat → Nat} (hC : CR Z1 x σ af as nf ns) (ho : OU Z1 (x + 60)) (hF : MF (x + 30) Z1 Z2) (hM : MR Z2 (x + 30) σ e) (hP : PX σ) : LV x Z2 := ⟨σ, e, af, as, nf, ns, hF.cr hC, hM, hF.ou ho, hP⟩
/-- a helper has written into the row of one, or a thing nobody looks at has come -/
theorem out_sJ {x nf ns : Nat} {Z : Zt} {σ e : St} {af as : Nat → Nat} {v : Int64} (hC : CR Z x σ af as nf ns) (hM : MR Z (x + 30) σ e) (ho : OU Z (x + 60)) : CR (sJ Z (x + 60) 0 v) x σ af as nf ns ∧ MR (sJ Z (x + 60) 0 v) (x + 30) σ e ∧ OU (sJ Z (x + 60) 0 v) (x + 60) := by
  have q : ∀ b, b ≠ x + 60 → Eq1 Z (sJ Z (x + 60) 0 v) b := fun b hb => ⟨rfl, rfl, rfl, by rw [zJ_sJ, if_neg hb], rfl, fun _ => rfl⟩
  exact ⟨hC.keep (Nat.le_refl _) hC.2.2.2.2.2.1 (fun b hb => q b (by omega)), hM.eq (fun b h1 h2 => q b (by omega)), ho⟩
theorem out_nW {x nf ns k : Nat} {Z : Zt} {σ e : St} {af as : Nat → Nat} (hC : CR Z x σ af as nf ns) (hM : MR Z (x + 30) σ e) (ho : OU Z (x + 60)) : CR (nW Z k) x σ af as nf ns ∧ MR (nW Z k) (x + 30) σ e ∧ OU (nW Z k) (x + 60) := by
  have q : ∀ b, Eq1 Z (nW Z k) b := fun b => ⟨rfl, rfl, rfl, rfl, rfl, fun _ => rfl⟩
  refine ⟨hC.keep (Nat.le_add_right _ _) (fun a ha => ?_) (fun b _ => q b), hM.eq (fun b _ _ => q b), ho⟩
  have ha : zN Z + k ≤ a := ha
  exact hC.2.2.2.2.2.1 a (by omega)
/-! the law's own rows -/
def SX (G : Gt) (M : Mt) (b L : Nat) (xs : Nat → Int32) : Prop := va_X b L xs M.2.2.2.1 M.2.2.2.1.heap ∧ b < M.2.2.2.1.heap.size ∧ ¬ G.2.2.2 ≤ b ∧ L ≤ 4096
section QL
variable {l : Launch} {G : Gt} {Y : Yt} {B : Bt} {M : Mt} {Z : Zt} {cells slots : Nat} {Q : State → Prop} {pc : Nat} {ls : List (Option Value)} {st : List Value}
theorem q_widen {c1 s1 : Nat} (h1 : cells ≤ c1) (h2 : slots ≤ s1) (kk : Jd l G Y B M Z c1 s1 Q pc ls st) : Jd l G Y B M Z cells slots Q pc ls st := fun C H locs A hR hS hA => W.widen h1 h2 (kk C H locs A hR hS hA)
theorem q_sld {b L : Nat} {xs : Nat → Int32} {i : Int32} (n : Nat) (hX : SX G M b L xs) (hd : decode Y.2.1 pc = .ok (.iaload, 1)) (hi : i = nI n) (hn : n < L) (kk : Jd l G Y B M Z cells slots Q (pc + 1) ls (.int (xs n) :: st)) : Jd l G Y B M Z cells slots Q pc ls (.int i :: .ref b :: st) := by
  subst hi
  intro C H locs A hR hS hA
  have hL := hX.2.2.2
  refine va_sld C.1 C.2.1 hX.1 hX.2.1 hX.2.2.1 hS (vp_in_nI hn (by omega)) hd ?_
  rw [nI_clamp (by omega)]
  exact kk C H locs A hR hS hA
theorem q_slen {b L : Nat} {xs : Nat → Int32} (hX : SX G M b L xs) (hd : decode Y.2.1 pc = .ok (.arraylength, 1)) (kk : Jd l G Y B M Z cells slots Q (pc + 1) ls (.int (nI L) :: st)) : Jd l G Y B M Z cells slots Q pc ls (.ref b :: st) :=
  fun C H locs A hR hS hA => va_slen C.1 C.2.1 hX.1 hX.2.1 hX.2.2.1 hS hd (kk C H locs A hR hS hA)
end QL
