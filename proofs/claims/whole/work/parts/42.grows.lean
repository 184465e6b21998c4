/-! ONE MORE SOURCE, ONE MORE FILTER -/
theorem SIs.pt {Z : Zt} {x nf nf' ns : Nat} {σ σ' : St} {af af' as as' : Nat → Nat} (h : SIs Z x σ af as nf ns) (hnf : nf ≤ nf') (haf : ∀ f, f < nf → af' f = af f) (ha : ∀ s, s < ns → as' s = as s) (h1 : ∀ k, k = 17 ∨ k = 18 ∨ k = 19 ∨ k = 20 ∨ k = 21 ∨ k = 23 ∨ k = 24 → ∀ i, i < ns → σ'.1 k i = σ.1 k i) (h2 : ∀ k, k = 22 ∨ k = 25 ∨ k = 26 ∨ k = 27 → ∀ i, i < ns → σ'.2 k i = σ.2 k i) (h3 : ∀ s, s < ns → ∀ i, i < 12 → σ'.2 28 (12 * s + i) = σ.2 28 (12 * s + i)) : SIs Z x σ' af' as' nf' ns := by
  intro s hs
  obtain ⟨a, b, c, d⟩ := h s hs
  have e17 := h1 17 (by omega) s hs
  have e18 := h1 18 (by omega) s hs
  have e19 := h1 19 (by omega) s hs
  have e20 := h1 20 (by omega) s hs
  have e21 := h1 21 (by omega) s hs
  have e23 := h1 23 (by omega) s hs
  have e24 := h1 24 (by omega) s hs
  have f22 := h2 22 (by omega) s hs
  have f25 := h2 25 (by omega) s hs
  have f26 := h2 26 (by omega) s hs
  have f27 := h2 27 (by omega) s hs
  have hs' := ha s hs
  have hsd : ∀ i, i < ns → sdp σ' i = sdp σ i := fun i hi => by unfold sdp; rw [h1 23 (by omega) i hi]
  refine ⟨?_, ?_, ?_, ?_⟩
  · unfold sO0 at a ⊢
    rw [hs', e17, e23, e24]; exact a
  · unfold sO1 stO at b ⊢
    rw [hs', e17, e24, f25, f26, f27]; exact b
  · unfold sO2 at c ⊢
    rw [hs', e17, e24, e20]
    refine fun z => ⟨(c z).1, (c z).2.1, fun y => ⟨((c z).2.2.1 y).1, ((c z).2.2.1 y).2.1, ((c z).2.2.1 y).2.2.1, ?_⟩, (c z).2.2.2⟩
    obtain ⟨l1, l2, l3, l4, l5, cn, l6, l7, l8, l9⟩ := ((c z).2.2.1 y).2.2.2
    exact ⟨l1, l2, l3, l4, l5, cn, l6, l7, by rw [f27]; exact l8, fun i hi => by rw [h3 s hs i (by omega)]; exact l9 i hi⟩
  · unfold sO3 at d ⊢
    rw [hs', e17, e24, e18, e19, e20, e21, f22, hsd s hs]
    intro z y
    obtain ⟨⟨s1, m1, m2, m3, m4⟩, m5, m6, m7, m8, m9⟩ := d z y
    refine ⟨⟨s1, m1, m2, by rw [ha s1 (by omega)]; exact m3, by rw [hsd s1 (by omega)]; exact m4⟩, fun w => ?_, m6, m7, m8, fun w => ?_⟩
    · obtain ⟨t1, n1, n2, n3, n4⟩ := m5 w
      exact ⟨t1, n1, n2, by rw [ha t1 (by omega)]; exact n3, by rw [hsd t1 (by omega)]; exact n4⟩
    · obtain ⟨fi, n1, n2, n3⟩ := m9 w
      exact ⟨fi, by omega, n2, by rw [haf fi n1]; exact n3⟩
theorem fOb.pt {Z : Zt} {x f : Nat} {σ σ' : St} {af af' : Nat → Nat} (h : fOb Z x σ af f) (ha : ∀ g, g ≤ f → af' g = af g) (h7 : σ'.1 7 f = σ.1 7 f) (h8 : σ'.1 8 f = σ.1 8 f) (h9 : σ'.1 9 f = σ.1 9 f) (h11 : ∀ g, g ≤ f → σ'.1 11 g = σ.1 11 g) (h10 : σ'.2 10 f = σ.2 10 f) : fOb Z x σ' af' f := by
  unfold fOb at h ⊢
  have hd : ∀ g, g ≤ f → dpt σ' g = dpt σ g := fun g hg => by unfold dpt; rw [h11 g hg]
  rw [ha f (Nat.le_refl f), h7, h8, h9, h10, h11 f (Nat.le_refl f), hd f (Nat.le_refl f)]
  obtain ⟨a, b, c, d, e⟩ := h
  refine ⟨a, b, c, fun z => ?_, e⟩
  obtain ⟨d1, d2, ⟨g, g1, g2, g3, g4⟩, d4, d5⟩ := d z
  refine ⟨d1, d2, ⟨g, g1, g2, by rw [ha g (by omega)]; exact g3, by rw [hd g (by omega)]; exact g4⟩, fun w => ?_, d5⟩
  obtain ⟨k, k1, k2, k3, k4⟩ := d4 w
  exact ⟨k, k1, k2, by rw [ha k (by omega)]; exact k3, by rw [hd k (by omega)]; exact k4⟩
def addS (σ : St) (n : Nat) (so s t a nn d pl : Int32) (v F S C : Int64) : St := (fun k i => if k = 16 ∧ i = 0 then nI (n + 1) else if i = n then (if k = 17 then so else if k = 18 then s else if k = 19 then t else if k = 20 then a else if k = 21 then nn else if k = 23 then d else if k = 24 then pl else σ.1 k i) else σ.1 k i, fun k i => if i = n then (if k = 22 then v else if k = 25 then F else if k = 26 then S else if k = 27 then C else σ.2 k i) else σ.2 k i)
theorem addS_1 (σ : St) (n : Nat) (so s t a nn d pl : Int32) (v F S C : Int64) (k i : Nat) : (addS σ n so s t a nn d pl v F S C).1 k i = if k = 16 ∧ i = 0 then nI (n + 1) else if i = n then (if k = 17 then so else if k = 18 then s else if k = 19 then t else if k = 20 then a else if k = 21 then nn else if k = 23 then d else if k = 24 then pl else σ.1 k i) else σ.1 k i := rfl
theorem addS_2 (σ : St) (n : Nat) (so s t a nn d pl : Int32) (v F S C : Int64) (k i : Nat) : (addS σ n so s t a nn d pl v F S C).2 k i = if i = n then (if k = 22 then v else if k = 25 then F else if k = 26 then S else if k = 27 then C else σ.2 k i) else σ.2 k i := rfl
theorem CR_addS {Z Z1 : Zt} {x nf ns a : Nat} {σ : St} {af as : Nat → Nat} (so s t fa nn d pl : Int32) (v F S C : Int64) (h : CR Z x σ af as nf ns) (hns : ns < 20) (hne : ∀ s, s < ns → as s ≠ a) (hz : Z1 = sF (sR Z (x + 4) ns (some a)) 5 x (.int (nI (ns + 1))))
    (hnew : sO0 Z x (addS σ ns so s t fa nn d pl v F S C) (fun s => if s = ns then a else as s) ns ∧ sO1 Z x (addS σ ns so s t fa nn d pl v F S C) (fun s => if s = ns then a else as s) ns ∧ sO2 Z x (addS σ ns so s t fa nn d pl v F S C) (fun s => if s = ns then a else as s) ns ∧ sO3 Z (addS σ ns so s t fa nn d pl v F S C) af (fun s => if s = ns then a else as s) nf ns) :
    CR Z1 x (addS σ ns so s t fa nn d pl v F S C) af (fun s => if s = ns then a else as s) nf (ns + 1) ∧ KM x Z Z1 := by
  have A1 := addS_1 σ ns so s t fa nn d pl v F S C
  have A2 := addS_2 σ ns so s t fa nn d pl v F S C
  generalize addS σ ns so s t fa nn d pl v F S C = σ' at *
  obtain ⟨h1, h2, h3, h4, ⟨t1, t2, t3, t4, t5, t6, t7⟩, h6, h7⟩ := h
  have FF : ∀ k b, zF Z1 k b = if k = 5 ∧ b = x then .int (nI (ns + 1)) else zF Z k b := fun k b => by rw [hz, zF_sF, zF_sR]
  have eK : zK Z1 = zK Z := by rw [hz, zK_sF, zK_sR]
  have eL : zL Z1 = zL Z := by rw [hz, zL_sF, zL_sR]
  have eI : zI Z1 = zI Z := by rw [hz, zI_sF, zI_sR]
  have eJ : zJ Z1 = zJ Z := by rw [hz, zJ_sF, zJ_sR]
  have eN : zN Z1 = zN Z := by rw [hz, zN_sF, zN_sR]
  have eR : ∀ b, zR Z1 b = if b = x + 4 then va_up (zR Z (x + 4)) ns (some a) else zR Z b := fun b => by rw [hz, zR_sF, zR_sR]
  have s1 : ∀ k, k ≠ 16 → k ≠ 17 → k ≠ 18 → k ≠ 19 → k ≠ 20 → k ≠ 21 → k ≠ 23 → k ≠ 24 → σ'.1 k = σ.1 k := fun k _ _ _ _ _ _ _ _ => by
    funext i
    rw [A1, if_neg (by omega)]
    by_cases e : i = ns
    · rw [if_pos e, if_neg (by omega), if_neg (by omega), if_neg (by omega), if_neg (by omega), if_neg (by omega), if_neg (by omega), if_neg (by omega)]
    · rw [if_neg e]
  have s2 : ∀ k, k ≠ 22 → k ≠ 25 → k ≠ 26 → k ≠ 27 → σ'.2 k = σ.2 k := fun k _ _ _ _ => by
    funext i
    rw [A2]
    by_cases e : i = ns
    · rw [if_pos e, if_neg (by omega), if_neg (by omega), if_neg (by omega), if_neg (by omega)]
    · rw [if_neg e]
  have hS : SIs Z x σ' af (fun s => if s = ns then a else as s) nf (ns + 1) := by
    intro s' hs'
    by_cases e : s' = ns
    · rw [e]; exact hnew
    · exact (h2.pt (σ' := σ') (af' := af) (as' := fun s => if s = ns then a else as s) (Nat.le_refl nf) (fun _ _ => rfl) (fun s hs => if_neg (by omega)) (fun k hk i hi => by rw [A1, if_neg (by omega), if_neg (by omega)]) (fun k hk i hi => by rw [A2, if_neg (by omega)]) (fun s hs i hi => by rw [s2 28 (by decide) (by decide) (by decide) (by decide)])) s' (by omega)
  refine ⟨⟨h1.cong ⟨fun b _ _ => ⟨by rw [eK], by rw [eL]⟩, fun k b hf => by rw [FF, if_neg (by unfold fixF at hf; omega)], by rw [eR, if_neg (by omega)], by rw [eR, if_neg (by omega)]⟩ (fun k b i j => by rw [FF, if_neg (by omega)]) (fun b _ _ => by rw [eJ]) (fun b _ => by rw [eI]) (by rw [FF, if_neg (by omega)]) (by rw [FF, if_neg (by omega)]) (fun f hf => ⟨by rw [eK], fun k => by rw [FF, if_neg (by have := (h1.2.2.2.2.2.2 f hf).1.1.1; omega)]⟩) (fun k hk => s1 k (by omega) (by omega) (by omega) (by omega) (by omega) (by omega) (by omega) (by omega)) (fun k hk => s2 k (by omega) (by omega) (by omega) (by omega)),
    hS.cong (fun b _ _ => ⟨by rw [eK], by rw [eL]⟩) (fun k b hb _ => by rw [FF, if_neg (by omega)]) (fun b _ _ => by rw [eJ]) ⟨fun _ _ => rfl, fun _ _ => rfl⟩,
    h3.cong (by rw [FF, if_neg (by omega)]) (by rw [eJ]) (by rw [eI]) (by rw [eI]) (s1 32 (by decide) (by decide) (by decide) (by decide) (by decide) (by decide) (by decide) (by decide)) (s1 34 (by decide) (by decide) (by decide) (by decide) (by decide) (by decide) (by decide) (by decide)) (s1 35 (by decide) (by decide) (by decide) (by decide) (by decide) (by decide) (by decide) (by decide)) (s2 33 (by decide) (by decide) (by decide) (by decide)),
    h4.cong (by rw [FF, if_neg (by omega)]) (by rw [FF, if_neg (by omega)]) (by rw [eJ]) (fun q hq _ => ⟨by rw [eK], fun k => by rw [FF, if_neg (by omega)]⟩) (s1 36 (by decide) (by decide) (by decide) (by decide) (by decide) (by decide) (by decide) (by decide)) (s2 37 (by decide) (by decide) (by decide) (by decide)) (s2 38 (by decide) (by decide) (by decide) (by decide)) (s2 39 (by decide) (by decide) (by decide) (by decide)) (s2 40 (by decide) (by decide) (by decide) (by decide)),
    ⟨by rw [FF, if_neg (by omega)]; exact t1, by rw [FF, if_pos ⟨rfl, rfl⟩], by rw [A1, if_pos ⟨rfl, rfl⟩], by omega, fun f hf => by rw [eR, if_neg (by omega)]; exact t5 f hf, fun s hs => ?_, fun s s' hs hs' e => ?_⟩, fun b hb => by rw [eK]; exact h6 b (by rw [← eN]; exact hb), by rw [eN]; exact h7⟩,
    by rw [eN]; exact Nat.le_refl _, fun b hb1 hb2 => ⟨by rw [eK], by rw [eL], by rw [eI], by rw [eJ], by rw [eR, if_neg (by omega)], fun k => by rw [FF, if_neg (by omega)]⟩⟩
  · rw [eR, if_pos rfl]
    by_cases e : s = ns
    · subst e; simp [va_up]
    · simp only [va_up, if_neg e]; exact t6 s (by omega)
  · by_cases e1 : s = ns
    · by_cases e2 : s' = ns
      · rw [e1, e2]
      · simp only [if_pos e1, if_neg e2] at e; exact absurd e.symm (hne s' (by omega))
    · by_cases e2 : s' = ns
      · simp only [if_neg e1, if_pos e2] at e; exact absurd e (hne s (by omega))
      · simp only [if_neg e1, if_neg e2] at e; exact t7 s s' (by omega) (by omega) e
def addF (σ : St) (n : Nat) (kd a b d : Int32) (v : Int64) : St := (fun k i => if k = 6 ∧ i = 0 then nI (n + 1) else if i = n then (if k = 7 then kd else if k = 8 then a else if k = 9 then b else if k = 11 then d else if k = 12 then 0 else σ.1 k i) else σ.1 k i, fun k i => if k = 10 ∧ i = n then v else σ.2 k i)
theorem addF_1 (σ : St) (n : Nat) (kd a b d : Int32) (v : Int64) (k i : Nat) : (addF σ n kd a b d v).1 k i = if k = 6 ∧ i = 0 then nI (n + 1) else if i = n then (if k = 7 then kd else if k = 8 then a else if k = 9 then b else if k = 11 then d else if k = 12 then 0 else σ.1 k i) else σ.1 k i := rfl
theorem addF_2 (σ : St) (n : Nat) (kd a b d : Int32) (v : Int64) (k i : Nat) : (addF σ n kd a b d v).2 k i = if k = 10 ∧ i = n then v else σ.2 k i := rfl
theorem CR_addF {Z Z1 : Zt} {x nf ns a : Nat} {σ : St} {af as : Nat → Nat} (kd fa fb d : Int32) (v : Int64) (h : CR Z x σ af as nf ns) (hnf : nf < 20) (hz : Z1 = sF (sR Z (x + 3) nf (some a)) 4 x (.int (nI (nf + 1))))
    (hnew : fOb Z x (addF σ nf kd fa fb d v) (fun f => if f = nf then a else af f) nf ∧ fO5 Z (addF σ nf kd fa fb d v) (fun f => if f = nf then a else af f) nf) :
    CR Z1 x (addF σ nf kd fa fb d v) (fun f => if f = nf then a else af f) as (nf + 1) ns ∧ KM x Z Z1 := by
  have A1 := addF_1 σ nf kd fa fb d v
  have A2 := addF_2 σ nf kd fa fb d v
  generalize addF σ nf kd fa fb d v = σ' at *
  obtain ⟨⟨f1, f2, f3, f4, f5, f6, f7⟩, h2, h3, h4, ⟨t1, t2, t3, t4, t5, t6, t7⟩, h6, h7⟩ := h
  have FF : ∀ k b, zF Z1 k b = if k = 4 ∧ b = x then .int (nI (nf + 1)) else zF Z k b := fun k b => by rw [hz, zF_sF, zF_sR]
  have eK : zK Z1 = zK Z := by rw [hz, zK_sF, zK_sR]
  have eL : zL Z1 = zL Z := by rw [hz, zL_sF, zL_sR]
  have eI : zI Z1 = zI Z := by rw [hz, zI_sF, zI_sR]
  have eJ : zJ Z1 = zJ Z := by rw [hz, zJ_sF, zJ_sR]
  have eN : zN Z1 = zN Z := by rw [hz, zN_sF, zN_sR]
  have eR : ∀ b, zR Z1 b = if b = x + 3 then va_up (zR Z (x + 3)) nf (some a) else zR Z b := fun b => by rw [hz, zR_sF, zR_sR]
  have s1 : ∀ k, k ≠ 6 → k ≠ 7 → k ≠ 8 → k ≠ 9 → k ≠ 11 → k ≠ 12 → σ'.1 k = σ.1 k := fun k _ _ _ _ _ _ => by
    funext i
    rw [A1, if_neg (by omega)]
    by_cases e : i = nf
    · rw [if_pos e, if_neg (by omega), if_neg (by omega), if_neg (by omega), if_neg (by omega), if_neg (by omega)]
    · rw [if_neg e]
  have s2 : ∀ k, k ≠ 10 → σ'.2 k = σ.2 k := fun k _ => by
    funext i
    rw [A2, if_neg (by omega)]
  have hS : SIs Z x σ' (fun f => if f = nf then a else af f) as (nf + 1) ns := h2.pt (σ' := σ') (af' := fun f => if f = nf then a else af f) (as' := as) (by omega) (fun f hf => if_neg (by omega)) (fun _ _ => rfl) (fun k hk i hi => by rw [s1 k (by omega) (by omega) (by omega) (by omega) (by omega) (by omega)]) (fun k hk i hi => by rw [s2 k (by omega)]) (fun s hs i hi => by rw [s2 28 (by decide)])
  have hFa : ∀ f, f < nf + 1 → fOb Z x σ' (fun f => if f = nf then a else af f) f ∧ fO5 Z σ' (fun f => if f = nf then a else af f) f := by
    intro f hf
    by_cases e : f = nf
    · rw [e]; exact hnew
    · obtain ⟨g1, g2⟩ := f7 f (by omega)
      have q : ∀ k, k ≠ 6 → σ'.1 k f = σ.1 k f := fun k hk => by rw [A1, if_neg (by omega), if_neg e]
      refine ⟨g1.pt (fun g hg => if_neg (by omega)) (q 7 (by decide)) (q 8 (by decide)) (q 9 (by decide)) (fun g hg => by rw [A1, if_neg (by omega), if_neg (by omega)]) (by rw [A2, if_neg (by omega)]), ?_⟩
      unfold fO5 at g2 ⊢
      rw [q 7 (by decide), q 12 (by decide)]
      simp only [if_neg e]
      exact g2
  refine ⟨⟨⟨f1.ss ⟨fun b _ _ => ⟨by rw [eK], by rw [eL]⟩, fun k b hf => by rw [FF, if_neg (by unfold fixF at hf; omega)], by rw [eR, if_neg (by omega)], by rw [eR, if_neg (by omega)]⟩, fun k hk => ?_, fun k i hk hi => by rw [eI, s1 5 (by decide) (by decide) (by decide) (by decide) (by decide) (by decide)]; exact f3 k i hk hi, ?_, by rw [A1, if_pos ⟨rfl, rfl⟩], by omega, fun f hf => ?_⟩,
    hS.cong (fun b _ _ => ⟨by rw [eK], by rw [eL]⟩) (fun k b hb _ => by rw [FF, if_neg (by omega)]) (fun b _ _ => by rw [eJ]) ⟨fun _ _ => rfl, fun _ _ => rfl⟩,
    h3.cong (by rw [FF, if_neg (by omega)]) (by rw [eJ]) (by rw [eI]) (by rw [eI]) (s1 32 (by decide) (by decide) (by decide) (by decide) (by decide) (by decide)) (s1 34 (by decide) (by decide) (by decide) (by decide) (by decide) (by decide)) (s1 35 (by decide) (by decide) (by decide) (by decide) (by decide) (by decide)) (s2 33 (by decide)),
    h4.cong (by rw [FF, if_neg (by omega)]) (by rw [FF, if_neg (by omega)]) (by rw [eJ]) (fun q hq _ => ⟨by rw [eK], fun k => by rw [FF, if_neg (by omega)]⟩) (s1 36 (by decide) (by decide) (by decide) (by decide) (by decide) (by decide)) (s2 37 (by decide)) (s2 38 (by decide)) (s2 39 (by decide)) (s2 40 (by decide)),
    ⟨by rw [FF, if_pos ⟨rfl, rfl⟩], by rw [FF, if_neg (by omega)]; exact t2, by rw [s1 16 (by decide) (by decide) (by decide) (by decide) (by decide) (by decide)]; exact t3, t4, fun f hf => ?_, fun s hs => by rw [eR, if_neg (by omega)]; exact t6 s hs, t7⟩, fun b hb => by rw [eK]; exact h6 b (by rw [← eN]; exact hb), by rw [eN]; exact h7⟩,
    by rw [eN]; exact Nat.le_refl _, fun b hb1 hb2 => ⟨by rw [eK], by rw [eL], by rw [eI], by rw [eJ], by rw [eR, if_neg (by omega)], fun k => by rw [FF, if_neg (by omega)]⟩⟩
  · obtain ⟨b1, b2, b3, b4, b5⟩ := f2 k hk
    rw [FF, if_neg (by omega), FF, if_neg (by omega), FF, if_neg (by omega), eJ, s1 1 (by decide) (by decide) (by decide) (by decide) (by decide) (by decide), s1 2 (by decide) (by decide) (by decide) (by decide) (by decide) (by decide), s2 3 (by decide), s2 4 (by decide)]
    exact ⟨b1, b2, b3, b4, b5⟩
  · unfold tyO
    rw [FF, if_neg (by omega), FF, if_neg (by omega), s1 15 (by decide) (by decide) (by decide) (by decide) (by decide) (by decide), s1 14 (by decide) (by decide) (by decide) (by decide) (by decide) (by decide)]
    exact f4
  · obtain ⟨g1, g2⟩ := hFa f hf
    have hx := g1.1.1
    dsimp only at hx
    exact ⟨g1.cong (by rw [eK]) (fun k _ => by rw [FF, if_neg (fun z => by rw [z.2] at hx; omega)]) rfl rfl rfl rfl rfl, g2.cong (by rw [FF, if_neg (by omega)]) rfl rfl⟩
  · rw [eR, if_pos rfl]
    by_cases e : f = nf
    · subst e; simp [va_up]
    · simp only [va_up, if_neg e]; exact t5 f (by omega)
