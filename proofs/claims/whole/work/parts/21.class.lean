/-! THE CLASS'S HEAP: the root at x, what it made at once behind it (x + 1 .. x + 29), filters by their addresses -/
def CL0 (Z : Zt) (x : Nat) : Prop :=
  (zK Z x = 11 ∧ zF Z 0 x = .ref (x + 1) ∧ zF Z 1 x = .ref (x + 2) ∧ zF Z 2 x = .ref (x + 3) ∧ zF Z 3 x = .ref (x + 4) ∧ zF Z 6 x = .ref (x + 5) ∧ zF Z 7 x = .ref (x + 9) ∧ zF Z 8 x = .ref (x + 11)) ∧
  (zK Z (x + 1) = 25 ∧ zL Z (x + 1) = 6 ∧ zK Z (x + 2) = 23 ∧ zL Z (x + 2) = 3 ∧ zK Z (x + 3) = 24 ∧ zL Z (x + 3) = 20 ∧ zK Z (x + 4) = 26 ∧ zL Z (x + 4) = 20) ∧
  (zK Z (x + 5) = 10 ∧ zF Z 0 (x + 5) = .ref (x + 6) ∧ zF Z 1 (x + 5) = .ref (x + 7) ∧ zF Z 2 (x + 5) = .ref (x + 8) ∧ zK Z (x + 6) = 21 ∧ zL Z (x + 6) = 20 ∧ zK Z (x + 7) = 20 ∧ zL Z (x + 7) = 20 ∧ zK Z (x + 8) = 20 ∧ zL Z (x + 8) = 20) ∧
  (zK Z (x + 9) = 5 ∧ zF Z 1 (x + 9) = .ref (x + 10) ∧ zK Z (x + 10) = 21 ∧ zL Z (x + 10) = 200 ∧ zK Z (x + 11) = 21 ∧ zL Z (x + 11) = 1200) ∧
  (∀ k, k < 6 → zR Z (x + 1) k = some (x + 12 + 2 * k) ∧ zK Z (x + 12 + 2 * k) = 6 ∧ zF Z 0 (x + 12 + 2 * k) = .ref (x + 13 + 2 * k) ∧ zK Z (x + 13 + 2 * k) = 21 ∧ zL Z (x + 13 + 2 * k) = 12) ∧
  (∀ k, k < 3 → zR Z (x + 2) k = some (x + 24 + 2 * k) ∧ zK Z (x + 24 + 2 * k) = 1 ∧ zF Z 0 (x + 24 + 2 * k) = .ref (x + 25 + 2 * k) ∧ zF Z 1 (x + 24 + 2 * k) = .int (nI k) ∧ zK Z (x + 25 + 2 * k) = 20 ∧ zL Z (x + 25 + 2 * k) = 3)
/-- the fields that stay as the constructor set them -/
def fixF (x k a : Nat) : Prop := (a = x ∧ k ≠ 4 ∧ k ≠ 5) ∨ (a = x + 5 ∧ k < 3) ∨ (a = x + 9 ∧ k = 1) ∨ (x + 12 ≤ a ∧ a < x + 24 ∧ k = 0) ∨ (x + 24 ≤ a ∧ a < x + 30 ∧ k < 2)
def SS (x : Nat) (Z Z' : Zt) : Prop := (∀ a, x ≤ a → a < x + 30 → zK Z' a = zK Z a ∧ zL Z' a = zL Z a) ∧ (∀ k a, fixF x k a → zF Z' k a = zF Z k a) ∧ zR Z' (x + 1) = zR Z (x + 1) ∧ zR Z' (x + 2) = zR Z (x + 2)
theorem CL0.ss {Z Z' : Zt} {x : Nat} (h : CL0 Z x) (s : SS x Z Z') : CL0 Z' x := by
  obtain ⟨⟨a1, a2, a3, a4, a5, a6, a7, a8⟩, ⟨b1, b2, b3, b4, b5, b6, b7, b8⟩, ⟨c1, c2, c3, c4, c5, c6, c7, c8, c9, c10⟩, ⟨d1, d2, d3, d4, d5, d6⟩, e, f⟩ := h
  obtain ⟨s1, s2, s3, s4⟩ := s
  have K : ∀ {a v : Nat}, x ≤ a → a < x + 30 → zK Z a = v → zK Z' a = v := fun h1 h2 h => (s1 _ h1 h2).1.trans h
  have L : ∀ {a v : Nat}, x ≤ a → a < x + 30 → zL Z a = v → zL Z' a = v := fun h1 h2 h => (s1 _ h1 h2).2.trans h
  have F : ∀ {k a : Nat} {v : Value}, fixF x k a → zF Z k a = v → zF Z' k a = v := fun h1 h => (s2 _ _ h1).trans h
  refine ⟨⟨K (by omega) (by omega) a1, F (Or.inl ⟨rfl, by omega, by omega⟩) a2, F (Or.inl ⟨rfl, by omega, by omega⟩) a3, F (Or.inl ⟨rfl, by omega, by omega⟩) a4, F (Or.inl ⟨rfl, by omega, by omega⟩) a5, F (Or.inl ⟨rfl, by omega, by omega⟩) a6, F (Or.inl ⟨rfl, by omega, by omega⟩) a7, F (Or.inl ⟨rfl, by omega, by omega⟩) a8⟩,
    ⟨K (by omega) (by omega) b1, L (by omega) (by omega) b2, K (by omega) (by omega) b3, L (by omega) (by omega) b4, K (by omega) (by omega) b5, L (by omega) (by omega) b6, K (by omega) (by omega) b7, L (by omega) (by omega) b8⟩,
    ⟨K (by omega) (by omega) c1, F (Or.inr (Or.inl ⟨rfl, by omega⟩)) c2, F (Or.inr (Or.inl ⟨rfl, by omega⟩)) c3, F (Or.inr (Or.inl ⟨rfl, by omega⟩)) c4, K (by omega) (by omega) c5, L (by omega) (by omega) c6, K (by omega) (by omega) c7, L (by omega) (by omega) c8, K (by omega) (by omega) c9, L (by omega) (by omega) c10⟩,
    ⟨K (by omega) (by omega) d1, F (Or.inr (Or.inr (Or.inl ⟨rfl, rfl⟩))) d2, K (by omega) (by omega) d3, L (by omega) (by omega) d4, K (by omega) (by omega) d5, L (by omega) (by omega) d6⟩, fun k hk => ?_, fun k hk => ?_⟩
  · obtain ⟨e1, e2, e3, e4, e5⟩ := e k hk
    exact ⟨by rw [s3]; exact e1, K (by omega) (by omega) e2, F (Or.inr (Or.inr (Or.inr (Or.inl ⟨by omega, by omega, rfl⟩)))) e3, K (by omega) (by omega) e4, L (by omega) (by omega) e5⟩
  · obtain ⟨e1, e2, e3, e4, e5, e6⟩ := f k hk
    exact ⟨by rw [s4]; exact e1, K (by omega) (by omega) e2, F (Or.inr (Or.inr (Or.inr (Or.inr ⟨by omega, by omega, by omega⟩)))) e3, F (Or.inr (Or.inr (Or.inr (Or.inr ⟨by omega, by omega, by omega⟩)))) e4, K (by omega) (by omega) e5, L (by omega) (by omega) e6⟩
def shO (Z : Zt) (x : Nat) (σ : St) : Prop := ∀ k, k < 6 → zF Z 1 (x + 12 + 2 * k) = .int (σ.1 1 k) ∧ zF Z 2 (x + 12 + 2 * k) = .int (σ.1 2 k) ∧ (∃ pt : Int32, zF Z 3 (x + 12 + 2 * k) = .int pt ∧ (σ.1 1 k = 3 → σ.2 3 k = pt.toInt64)) ∧ (∀ i, i < 12 → zJ Z (x + 13 + 2 * k) i = σ.2 4 (12 * k + i)) ∧ ∃ cn, cn ≤ 12 ∧ σ.1 2 k = nI cn
def bxO (Z : Zt) (x : Nat) (σ : St) : Prop := ∀ k i, k < 3 → i < 3 → zI Z (x + 25 + 2 * k) i = σ.1 5 (3 * k + i)
def tyO (Z : Zt) (x : Nat) (σ : St) : Prop := zF Z 4 (x + 5) = .int (σ.1 15 0) ∧ (∃ ar, zF Z 5 (x + 5) = .int ar ∧ (0 < σ.1 15 0 → ar = σ.1 14 0)) ∧ ∃ n, n ≤ 20 ∧ σ.1 15 0 = nI n
def dpt (σ : St) (f : Nat) : Nat := (σ.1 11 f).toNatClampNeg
def fOb (Z : Zt) (x : Nat) (σ : St) (af : Nat → Nat) (f : Nat) : Prop :=
  (x + 61 ≤ af f ∧ zF Z 0 (af f) = .int (nI f) ∧ ∃ d, d ≤ 6 ∧ 1 ≤ d ∧ σ.1 11 f = nI d ∧ zF Z 1 (af f) = .int (nI d)) ∧
  ((σ.1 7 f = 3 ∨ σ.1 7 f = 12) → zK Z (af f) = 7 ∧ ∃ s, s < 6 ∧ σ.1 8 f = nI s ∧ zF Z 2 (af f) = .ref (x + 12 + 2 * s) ∧ zF Z 3 (af f) = .int (if σ.1 7 f = 3 then 1 else 3) ∧ zF Z 4 (af f) = .long (σ.2 10 f)) ∧
  (σ.1 7 f = 5 → zK Z (af f) = 2 ∧ ∃ b, b < 3 ∧ σ.1 8 f = nI b ∧ zF Z 2 (af f) = .ref (x + 24 + 2 * b) ∧ zF Z 3 (af f) = .int (pl3 (σ.2 10 f))) ∧
  ((7 ≤ σ.1 7 f ∧ σ.1 7 f ≤ 11) → zK Z (af f) = 3 ∧ zF Z 2 (af f) = .int (σ.1 7 f) ∧ (∃ g, g < f ∧ σ.1 8 f = nI g ∧ zF Z 3 (af f) = .ref (af g) ∧ dpt σ g < dpt σ f) ∧ ((8 ≤ σ.1 7 f ∧ σ.1 7 f ≤ 10) → ∃ h, h < f ∧ σ.1 9 f = nI h ∧ zF Z 4 (af f) = .ref (af h) ∧ dpt σ h < dpt σ f) ∧ (¬ (8 ≤ σ.1 7 f ∧ σ.1 7 f ≤ 10) → zF Z 4 (af f) = .null)) ∧
  (¬ (σ.1 7 f = 3 ∨ σ.1 7 f = 12) → ¬ σ.1 7 f = 5 → ¬ (7 ≤ σ.1 7 f ∧ σ.1 7 f ≤ 11) → zK Z (af f) = 4 ∧ zF Z 2 (af f) = .int (σ.1 7 f) ∧ zF Z 3 (af f) = .int (σ.1 8 f) ∧ zF Z 4 (af f) = .long (σ.2 10 f))
/-- how often it was asked -/
def fO5 (Z : Zt) (σ : St) (af : Nat → Nat) (f : Nat) : Prop := ((7 ≤ σ.1 7 f ∧ σ.1 7 f ≤ 11) → ∃ ta, zF Z 5 (af f) = .int ta ∧ (σ.1 7 f = 11 → ta = σ.1 12 f)) ∧ (¬ σ.1 7 f = 11 → σ.1 12 f = 0)
theorem fOb.cong {Z Z' : Zt} {x : Nat} {σ σ' : St} {af : Nat → Nat} {f : Nat} (h : fOb Z x σ af f) (hK : zK Z' (af f) = zK Z (af f)) (hF : ∀ k, k < 5 → zF Z' k (af f) = zF Z k (af f)) (h7 : σ'.1 7 = σ.1 7) (h8 : σ'.1 8 = σ.1 8) (h9 : σ'.1 9 = σ.1 9) (h11 : σ'.1 11 = σ.1 11) (h10 : σ'.2 10 = σ.2 10) : fOb Z' x σ' af f := by
  unfold fOb dpt at h ⊢
  rw [hK, hF 0 (by omega), hF 1 (by omega), hF 2 (by omega), hF 3 (by omega), hF 4 (by omega), h7, h8, h9, h11, h10]
  exact h
theorem fO5.cong {Z Z' : Zt} {σ σ' : St} {af : Nat → Nat} {f : Nat} (h : fO5 Z σ af f) (hF : zF Z' 5 (af f) = zF Z 5 (af f)) (h7 : σ'.1 7 = σ.1 7) (h12 : σ'.1 12 = σ.1 12) : fO5 Z' σ' af f := by
  unfold fO5 at h ⊢
  rw [hF, h7, h12]
  exact h
def FIs (Z : Zt) (x : Nat) (σ : St) (af : Nat → Nat) (nf : Nat) : Prop := CL0 Z x ∧ shO Z x σ ∧ bxO Z x σ ∧ tyO Z x σ ∧ σ.1 6 0 = nI nf ∧ nf ≤ 20 ∧ ∀ f, f < nf → fOb Z x σ af f ∧ fO5 Z σ af f
/-- what asking a filter may change -/
def JF (x : Nat) (Z Z1 : Zt) : Prop := zK Z1 = zK Z ∧ zL Z1 = zL Z ∧ zJ Z1 = zJ Z ∧ zR Z1 = zR Z ∧ zN Z1 = zN Z ∧ (∀ k a, ¬ (a = x + 5 ∧ (k = 4 ∨ k = 5)) → ¬ (k = 5 ∧ zK Z a = 3) → zF Z1 k a = zF Z k a) ∧ (∀ a, (∀ b, b < 3 → a ≠ x + 25 + 2 * b) → zI Z1 a = zI Z a)
theorem JF.rf (x : Nat) (Z : Zt) : JF x Z Z := ⟨rfl, rfl, rfl, rfl, rfl, fun _ _ _ _ => rfl, fun _ _ => rfl⟩
theorem JF.tr {x : Nat} {Z Z1 Z2 : Zt} (h : JF x Z Z1) (k : JF x Z1 Z2) : JF x Z Z2 := by
  obtain ⟨a1, a2, a3, a4, a5, a6, a7⟩ := h
  obtain ⟨b1, b2, b3, b4, b5, b6, b7⟩ := k
  exact ⟨b1.trans a1, b2.trans a2, b3.trans a3, b4.trans a4, b5.trans a5, fun k a h1 h2 => (b6 k a h1 (by rw [a1]; exact h2)).trans (a6 k a h1 h2), fun a h => (b7 a h).trans (a7 a h)⟩
theorem JF.ss {x : Nat} {Z Z1 : Zt} (h : JF x Z Z1) : SS x Z Z1 := by
  obtain ⟨a1, a2, a3, a4, a5, a6, a7⟩ := h
  refine ⟨fun a _ _ => ⟨by rw [a1], by rw [a2]⟩, fun k a hf => a6 k a ?_ ?_, by rw [a4], by rw [a4]⟩
  · rcases hf with ⟨rfl, h1, h2⟩ | ⟨rfl, h1⟩ | ⟨rfl, h1⟩ | ⟨h1, h2, h3⟩ | ⟨h1, h2, h3⟩ <;> omega
  · rcases hf with ⟨rfl, h1, h2⟩ | ⟨rfl, h1⟩ | ⟨rfl, h1⟩ | ⟨h1, h2, h3⟩ | ⟨h1, h2, h3⟩ <;> (intro z; omega)
theorem nI_pos1 {n : Nat} (h : n ≤ 20) : 0 < nI n + 1 := by
  rw [nI_1, ← nI_0]; exact nI_lt (by omega) (by omega)
/-- a failure, in the class and in the state -/
theorem FIs_fail {Z Z1 : Zt} {x nf : Nat} {σ : St} {af : Nat → Nat} {e nm r : Int32} (h : FIs Z x σ af nf) (hp : failP Z Z1 (x + 5) (σ.1 15 0) nm e r) : r = (failS σ e nm).1 ∧ FIs Z1 x (failS σ e nm).2 af nf ∧ JF x Z Z1 := by
  unfold failS
  obtain ⟨n, hn, hfl⟩ := h.2.2.2.1.2.2
  by_cases hc : 20 ≤ σ.1 15 0
  · obtain ⟨rfl, rfl⟩ := hp.1 hc
    rw [if_pos hc]
    exact ⟨rfl, h, JF.rf x Z1⟩
  · obtain ⟨rfl, rfl⟩ := hp.2 hc
    rw [if_neg hc]
    have hn20 : n < 20 := by
      rcases Nat.lt_or_ge n 20 with q | q
      · exact q
      · exact absurd (by rw [hfl]; exact nI_le q (by omega)) hc
    have hJF : JF x Z (sF (sF Z 4 (x + 5) (.int (σ.1 15 0 + 1))) 5 (x + 5) (.int nm)) := by
      refine ⟨rfl, rfl, rfl, rfl, rfl, fun k a h1 h2 => ?_, fun _ _ => rfl⟩
      rw [zF_sF, if_neg (fun z => h1 ⟨z.2, Or.inr z.1⟩), zF_sF, if_neg (fun z => h1 ⟨z.2, Or.inl z.1⟩)]
    refine ⟨rfl, ⟨h.1.ss hJF.ss, ?_, ?_, ?_, ?_, h.2.2.2.2.2.1, ?_⟩, hJF⟩
    · intro k hk
      obtain ⟨a1, a2, ⟨pt, a3, a4⟩, a5, a6⟩ := h.2.1 k hk
      refine ⟨?_, ?_, ⟨pt, ?_, a4⟩, a5, ?_⟩
      · rw [hJF.2.2.2.2.2.1 _ _ (by omega) (by omega)]; exact a1
      · rw [hJF.2.2.2.2.2.1 _ _ (by omega) (by omega)]; exact a2
      · rw [hJF.2.2.2.2.2.1 _ _ (by omega) (by omega)]; exact a3
      · exact a6
    · exact h.2.2.1
    · refine ⟨?_, ⟨nm, ?_, fun _ => ?_⟩, n + 1, by omega, ?_⟩
      · simp [zF_sF, pI_1]
      · simp [zF_sF]
      · simp [pI_1]
      · show (pI (pI σ 15 0 (σ.1 15 0 + 1)) 14 0 nm).1 15 0 = _
        rw [pI_ne (by decide), pI_at, hfl, nI_1]
    · exact h.2.2.2.2.1
    · intro f hf
      obtain ⟨g1, g2⟩ := h.2.2.2.2.2.2 f hf
      have ha := g1.1.1
      exact ⟨g1.cong rfl (fun k hk => hJF.2.2.2.2.2.1 _ _ (by omega) (by omega)) rfl rfl rfl rfl rfl, g2.cong (by simp [zF_sF, show ¬ af f = x + 5 by omega]) rfl rfl⟩
theorem FIs_out {Z Z1 : Zt} {x nf : Nat} {σ : St} {af : Nat → Nat} {nm r : Int32} {w : Int32 ⊕ Int32} (h : FIs Z x σ af nf) (hp : outP Z Z1 (x + 5) (σ.1 15 0) nm r w) : r = (outS σ nm w).1 ∧ FIs Z1 x (outS σ nm w).2 af nf ∧ JF x Z Z1 := by
  cases w with
  | inl e => exact FIs_fail h hp
  | inr v => obtain ⟨rfl, rfl⟩ := hp; exact ⟨rfl, h, JF.rf x Z1⟩
/-- a thing is put into a box -/
theorem FIs_box {Z : Zt} {x nf b i : Nat} {σ : St} {af : Nat → Nat} {th : Int32} (h : FIs Z x σ af nf) (hb : b < 3) (hi : i < 3) : FIs (sI Z (x + 25 + 2 * b) i th) x (pI σ 5 (3 * b + i) th) af nf ∧ JF x Z (sI Z (x + 25 + 2 * b) i th) := by
  have hJF : JF x Z (sI Z (x + 25 + 2 * b) i th) := ⟨rfl, rfl, rfl, rfl, rfl, fun _ _ _ _ => rfl, fun a ha => by rw [zI_sI, if_neg (ha b hb)]⟩
  refine ⟨⟨h.1.ss hJF.ss, h.2.1, ?_, ?_, h.2.2.2.2.1, h.2.2.2.2.2.1, ?_⟩, hJF⟩
  · intro k j hk hj
    rw [zI_sI, pI_1]
    by_cases e : k = b
    · subst e
      rw [if_pos rfl]
      by_cases e2 : j = i
      · subst e2; rw [if_pos ⟨rfl, rfl⟩]; exact pk_us
      · rw [pk_un e2, if_neg (by omega)]; exact h.2.2.1 k j hk hj
    · rw [if_neg (by omega), if_neg (by omega)]; exact h.2.2.1 k j hk hj
  · exact h.2.2.2.1
  · intro f hf
    obtain ⟨g1, g2⟩ := h.2.2.2.2.2.2 f hf
    exact ⟨g1.cong rfl (fun _ _ => rfl) (pI_ne (by decide)) (pI_ne (by decide)) (pI_ne (by decide)) (pI_ne (by decide)) rfl, g2.cong rfl (pI_ne (by decide)) (pI_ne (by decide))⟩
/-- a made filter is asked once more -/
theorem FIs_ask {Z : Zt} {x nf f : Nat} {σ : St} {af : Nat → Nat} {ta : Int32} (h : FIs Z x σ af nf) (hf : f < nf) (hm : 7 ≤ σ.1 7 f ∧ σ.1 7 f ≤ 11) (hta : zF Z 5 (af f) = .int ta) : FIs (sF Z 5 (af f) (.int (ta + 1))) x (if σ.1 7 f = 11 then pI σ 12 f (σ.1 12 f + 1) else σ) af nf ∧ JF x Z (sF Z 5 (af f) (.int (ta + 1))) := by
  obtain ⟨g1, g2⟩ := h.2.2.2.2.2.2 f hf
  have ha := g1.1.1
  have hk3 := (g1.2.2.2.1 hm).1
  have hJF : JF x Z (sF Z 5 (af f) (.int (ta + 1))) := ⟨rfl, rfl, rfl, rfl, rfl, fun k a h1 h2 => by rw [zF_sF, if_neg (fun z => h2 ⟨z.1, by rw [z.2]; exact hk3⟩)], fun _ _ => rfl⟩
  have hs : ∀ k, k ≠ 12 → (if σ.1 7 f = 11 then pI σ 12 f (σ.1 12 f + 1) else σ).1 k = σ.1 k := by
    intro k hk
    split
    · exact pI_ne hk
    · rfl
  have hs2 : (if σ.1 7 f = 11 then pI σ 12 f (σ.1 12 f + 1) else σ).2 = σ.2 := by split <;> rfl
  have hinj : ∀ g, g < nf → af g = af f → g = f := by
    intro g hg e
    have h1 := (h.2.2.2.2.2.2 g hg).1.1.2.1
    rw [e, g1.1.2.1] at h1
    have h2 : nI f = nI g := by injection h1
    have hb := h.2.2.2.2.2.1
    exact ((nI_eq (by omega) (by omega)).mp h2).symm
  refine ⟨⟨h.1.ss hJF.ss, ?_, ?_, ?_, ?_, h.2.2.2.2.2.1, ?_⟩, hJF⟩
  · intro k hk
    obtain ⟨a1, a2, ⟨pt, a3, a4⟩, a5, a6⟩ := h.2.1 k hk
    rw [hs 1 (by decide), hs 2 (by decide), hs2]
    have e : ∀ j, zF (sF Z 5 (af f) (.int (ta + 1))) j (x + 12 + 2 * k) = zF Z j (x + 12 + 2 * k) := fun j => by rw [zF_sF, if_neg (by omega)]
    exact ⟨(e 1).trans a1, (e 2).trans a2, ⟨pt, (e 3).trans a3, a4⟩, a5, a6⟩
  · intro k i hk hi
    rw [hs 5 (by decide)]; exact h.2.2.1 k i hk hi
  · obtain ⟨b1, ⟨ar, b2, b3⟩, b4⟩ := h.2.2.2.1
    unfold tyO
    rw [hs 15 (by decide), hs 14 (by decide)]
    exact ⟨by rw [zF_sF, if_neg (by omega)]; exact b1, ⟨ar, by rw [zF_sF, if_neg (by omega)]; exact b2, b3⟩, b4⟩
  · rw [hs 6 (by decide)]; exact h.2.2.2.2.1
  · intro g hg
    obtain ⟨q1, q2⟩ := h.2.2.2.2.2.2 g hg
    refine ⟨q1.cong rfl (fun k hk => by rw [zF_sF, if_neg (by omega)]) (hs 7 (by decide)) (hs 8 (by decide)) (hs 9 (by decide)) (hs 11 (by decide)) (by rw [hs2]), ?_⟩
    by_cases e : g = f
    · subst e
      unfold fO5
      rw [hs 7 (by decide)]
      refine ⟨fun _ => ⟨ta + 1, by rw [zF_sF, if_pos ⟨rfl, rfl⟩], fun z => ?_⟩, fun z => ?_⟩
      · rw [if_pos z, pI_at]
        obtain ⟨t2, t3, t4⟩ := q2.1 hm
        rw [hta] at t3
        have : ta = t2 := by injection t3
        rw [this, t4 z]
      · rw [if_neg z]; exact q2.2 z
    · have e2 : af g ≠ af f := fun z => e (hinj g hg z)
      unfold fO5 at q2 ⊢
      have e3 : (if σ.1 7 f = 11 then pI σ 12 f (σ.1 12 f + 1) else σ).1 12 g = σ.1 12 g := by
        split
        · rw [pI_1, if_neg (fun z => e z.2)]
        · rfl
      rw [hs 7 (by decide), e3, zF_sF, if_neg (fun z => e2 z.2)]
      exact q2
