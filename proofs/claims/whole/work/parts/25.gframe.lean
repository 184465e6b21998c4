/-! how failures grow; what going through a source may change -/
def wOK (w : Int32 ⊕ Int32) : Prop := match w with
  | .inl e => ¬ 0 ≤ -10 - e
  | .inr v => v = 0 ∨ v = 1
theorem ite01 {P : Prop} [Decidable P] (a b : Int32) (ha : a = 0 ∨ a = 1) (hb : b = 0 ∨ b = 1) : (if P then a else b) = 0 ∨ (if P then a else b) = 1 := by
  split
  · exact ha
  · exact hb
theorem nfV_ok (kd ai : Int32) (v c : Int64) : wOK (nfV kd ai v c) := by
  unfold nfV rmV
  repeat' split
  all_goals first | (exact ite01 _ _ (by decide) (by decide)) | (exact Or.inr rfl) | (exact Or.inl rfl) | (show ¬ (0 : Int32) ≤ _; decide)
theorem sfW_ok (wt skd cn : Int32) (pj v : Int64) (it : Nat → Int64) (c : Int64) : wOK (sfW wt skd cn pj v it c) := by
  unfold sfW
  repeat' split
  all_goals first | (exact ite01 _ _ (by decide) (by decide)) | (exact Or.inr rfl) | (exact Or.inl rfl) | (show ¬ (0 : Int32) ≤ _; decide)
def jOK (m : Nat) (q : Int32 × St) : Prop := ∃ m', m ≤ m' ∧ m' ≤ 20 ∧ q.2.1 15 0 = nI m' ∧ (q.1 = 0 ∨ q.1 = 1 ∨ q.1 = -18 ∨ (¬ 0 ≤ q.1 ∧ m + 1 ≤ m'))
theorem jOK_fail {m : Nat} {σ : St} {e nm : Int32} (hm : σ.1 15 0 = nI m) (h20 : m ≤ 20) (he : ¬ 0 ≤ -10 - e) : jOK m (failS σ e nm) := by
  unfold failS
  by_cases hc : 20 ≤ σ.1 15 0
  · rw [if_pos hc]; exact ⟨m, Nat.le_refl _, h20, hm, Or.inr (Or.inr (Or.inl rfl))⟩
  · rw [if_neg hc]
    have hlt : m < 20 := by
      rcases Nat.lt_or_ge m 20 with q | q
      · exact q
      · exact absurd (by rw [hm]; exact nI_le q (by omega)) hc
    refine ⟨m + 1, by omega, by omega, ?_, Or.inr (Or.inr (Or.inr ⟨he, Nat.le_refl _⟩))⟩
    show (pI (pI σ 15 0 (σ.1 15 0 + 1)) 14 0 nm).1 15 0 = _
    rw [pI_ne (by decide), pI_at, hm, nI_1]
theorem jOK_out {m : Nat} {σ : St} {nm : Int32} {w : Int32 ⊕ Int32} (hm : σ.1 15 0 = nI m) (h20 : m ≤ 20) (hw : wOK w) : jOK m (outS σ nm w) := by
  cases w with
  | inl e => exact jOK_fail hm h20 hw
  | inr v => exact ⟨m, Nat.le_refl _, h20, hm, hw.elim Or.inl (fun z => Or.inr (Or.inl z))⟩
theorem jOK_le {m m' : Nat} {q : Int32 × St} (h : jOK m' q) (hm : m ≤ m') : jOK m q := by
  obtain ⟨m2, h1, h2, h3, h4⟩ := h
  exact ⟨m2, by omega, h2, h3, h4.imp id (fun z => z.imp id (fun z => z.imp id (fun z => ⟨z.1, by omega⟩)))⟩
theorem jOK_jS : ∀ (n f : Nat) (c : Int64) (σ : St) (m : Nat), σ.1 15 0 = nI m → m ≤ 20 → jOK m (jS n f c σ)
  | 0, f, c, σ, m, hm, h20 => ⟨m, Nat.le_refl _, h20, hm, Or.inl rfl⟩
  | n + 1, f, c, σ, m, hm, h20 => by
    by_cases h3 : 7 ≤ σ.1 7 f ∧ σ.1 7 f ≤ 11
    · rw [jS_made h3]
      have h0 : (askS σ f).1 15 0 = nI m := by
        unfold askS
        split
        · rw [pI_ne (by decide)]; exact hm
        · exact hm
      obtain ⟨m', a1, a2, a3, a4⟩ := jOK_jS n (σ.1 8 f).toNatClampNeg c _ m h0 h20
      by_cases h5 : made2 (σ.1 7 f) (jS n (σ.1 8 f).toNatClampNeg c (askS σ f)).1
      · rw [if_pos h5]
        exact jOK_le (jOK_jS n (σ.1 9 f).toNatClampNeg c _ m' a3 a2) a1
      · rw [if_neg h5]
        refine ⟨m', a1, a2, a3, ?_⟩
        unfold madeR
        dsimp only
        split
        next hc =>
          rcases a4 with e | e | e | e
          · rw [e]; exact Or.inr (Or.inl rfl)
          · rw [e]; exact Or.inl rfl
          · rw [e] at hc; exact absurd hc.2 (by decide)
          · exact absurd hc.2 e.1
        next hc => exact a4
    · rw [jS]
      by_cases h1 : σ.1 7 f = 3 ∨ σ.1 7 f = 12
      · rw [if_pos h1]; exact jOK_out hm h20 (sfW_ok _ _ _ _ _ _ _)
      · rw [if_neg h1]
        by_cases h2 : σ.1 7 f = 5
        · rw [if_pos h2]
          by_cases h4 : tkP (σ.1 8 f) (thF c)
          · rw [if_pos h4]; exact ⟨m, Nat.le_refl _, h20, by show (pI σ 5 _ _).1 15 0 = _; rw [pI_ne (by decide)]; exact hm, Or.inr (Or.inl rfl)⟩
          · rw [if_neg h4]; exact jOK_fail hm h20 (by decide)
        · rw [if_neg h2, if_neg h3]; exact jOK_out hm h20 (nfV_ok _ _ _ _)
def brO (Z : Zt) (x : Nat) (σ : St) : Prop := ∃ b, b ≤ 20 ∧ σ.1 32 0 = nI b ∧ zF Z 3 (x + 5) = .int (nI b) ∧ ∀ i, i < b → zJ Z (x + 6) i = σ.2 33 i ∧ zI Z (x + 7) i = σ.1 34 i ∧ zI Z (x + 8) i = σ.1 35 i
def bLe (σ : St) : Prop := ∃ b m, σ.1 32 0 = nI b ∧ σ.1 15 0 = nI m ∧ b ≤ m ∧ m ≤ 20
def GF (x : Nat) (Z Z1 : Zt) : Prop := zK Z1 = zK Z ∧ zL Z1 = zL Z ∧ zR Z1 = zR Z ∧ zN Z1 = zN Z ∧ (∀ k a, ¬ (a = x + 5 ∧ (k = 3 ∨ k = 4 ∨ k = 5)) → ¬ (k = 5 ∧ zK Z a = 3) → zF Z1 k a = zF Z k a) ∧ (∀ a, (∀ b, b < 3 → a ≠ x + 25 + 2 * b) → a ≠ x + 7 → a ≠ x + 8 → zI Z1 a = zI Z a) ∧ (∀ a, a ≠ x + 6 → a ≠ x + 11 → zJ Z1 a = zJ Z a)
theorem GF.rf (x : Nat) (Z : Zt) : GF x Z Z := ⟨rfl, rfl, rfl, rfl, fun _ _ _ _ => rfl, fun _ _ _ _ => rfl, fun _ _ _ => rfl⟩
theorem GF.tr {x : Nat} {Z Z1 Z2 : Zt} (h : GF x Z Z1) (k : GF x Z1 Z2) : GF x Z Z2 := by
  obtain ⟨a1, a2, a4, a5, a6, a7, a8⟩ := h
  obtain ⟨b1, b2, b4, b5, b6, b7, b8⟩ := k
  exact ⟨b1.trans a1, b2.trans a2, b4.trans a4, b5.trans a5, fun k a h1 h2 => (b6 k a h1 (by rw [a1]; exact h2)).trans (a6 k a h1 h2), fun a h h2 h3 => (b7 a h h2 h3).trans (a7 a h h2 h3), fun a h1 h2 => (b8 a h1 h2).trans (a8 a h1 h2)⟩
theorem JF.gf {x : Nat} {Z Z1 : Zt} (h : JF x Z Z1) : GF x Z Z1 := ⟨h.1, h.2.1, h.2.2.2.1, h.2.2.2.2.1, fun k a h1 h2 => h.2.2.2.2.2.1 k a (fun z => h1 ⟨z.1, Or.inr z.2⟩) h2, fun a h1 _ _ => h.2.2.2.2.2.2 a h1, fun a _ _ => by rw [h.2.2.1]⟩
theorem GF.ss {x : Nat} {Z Z1 : Zt} (h : GF x Z Z1) : SS x Z Z1 := by
  obtain ⟨a1, a2, a4, a5, a6, a7, a8⟩ := h
  refine ⟨fun a _ _ => ⟨by rw [a1], by rw [a2]⟩, fun k a hf => a6 k a ?_ ?_, by rw [a4], by rw [a4]⟩
  · rcases hf with ⟨rfl, h1, h2⟩ | ⟨rfl, h1⟩ | ⟨rfl, h1⟩ | ⟨h1, h2, h3⟩ | ⟨h1, h2, h3⟩ <;> omega
  · rcases hf with ⟨rfl, h1, h2⟩ | ⟨rfl, h1⟩ | ⟨rfl, h1⟩ | ⟨h1, h2, h3⟩ | ⟨h1, h2, h3⟩ <;> (intro z; omega)
theorem GF_pool (x : Nat) (Z : Zt) (g : Nat → Int64) : GF x Z (tJ Z (x + 11) g) := ⟨rfl, rfl, rfl, rfl, fun _ _ _ _ => rfl, fun _ _ _ _ => rfl, fun a _ h => by rw [zJ_tJ, if_neg h]⟩
theorem FIs.cong {Z Z' : Zt} {x nf : Nat} {σ σ' : St} {af : Nat → Nat} (h : FIs Z x σ af nf) (hs : SS x Z Z') (hF : ∀ k a, x + 12 ≤ a → a < x + 24 → zF Z' k a = zF Z k a) (hJ : ∀ a, x + 12 ≤ a → a < x + 24 → zJ Z' a = zJ Z a) (hI : ∀ b, b < 3 → zI Z' (x + 25 + 2 * b) = zI Z (x + 25 + 2 * b)) (h4 : zF Z' 4 (x + 5) = zF Z 4 (x + 5)) (h5 : zF Z' 5 (x + 5) = zF Z 5 (x + 5)) (hf : ∀ f, f < nf → zK Z' (af f) = zK Z (af f) ∧ ∀ k, zF Z' k (af f) = zF Z k (af f))
    (hσ : ∀ k, k = 1 ∨ k = 2 ∨ k = 5 ∨ k = 6 ∨ k = 7 ∨ k = 8 ∨ k = 9 ∨ k = 11 ∨ k = 12 ∨ k = 14 ∨ k = 15 → σ'.1 k = σ.1 k) (hτ : ∀ k, k = 3 ∨ k = 4 ∨ k = 10 → σ'.2 k = σ.2 k) : FIs Z' x σ' af nf := by
  obtain ⟨a1, a2, a3, a4, a5, a6, a7⟩ := h
  refine ⟨a1.ss hs, fun k hk => ?_, fun k i hk hi => ?_, ?_, ?_, a6, fun f hff => ?_⟩
  · obtain ⟨b1, b2, ⟨pt, b3, b4⟩, b5, b6⟩ := a2 k hk
    rw [hF 1 _ (by omega) (by omega), hF 2 _ (by omega) (by omega), hF 3 _ (by omega) (by omega), hJ _ (by omega) (by omega), hσ 1 (by omega), hσ 2 (by omega), hτ 3 (by omega), hτ 4 (by omega)]
    exact ⟨b1, b2, ⟨pt, b3, b4⟩, b5, b6⟩
  · rw [hI k hk, hσ 5 (by omega)]; exact a3 k i hk hi
  · unfold tyO
    rw [h4, h5, hσ 15 (by omega), hσ 14 (by omega)]; exact a4
  · rw [hσ 6 (by omega)]; exact a5
  · obtain ⟨g1, g2⟩ := a7 f hff
    obtain ⟨k1, k2⟩ := hf f hff
    exact ⟨g1.cong k1 (fun k _ => k2 k) (hσ 7 (by omega)) (hσ 8 (by omega)) (hσ 9 (by omega)) (hσ 11 (by omega)) (hτ 10 (by omega)), g2.cong (k2 5) (hσ 7 (by omega)) (hσ 12 (by omega))⟩
theorem FIs_pool {Z : Zt} {x nf : Nat} {σ : St} {af : Nat → Nat} (h : FIs Z x σ af nf) (g : Nat → Int64) : FIs (tJ Z (x + 11) g) x σ af nf := h.cong (GF_pool x Z g).ss (fun _ _ _ _ => rfl) (fun a h1 h2 => by rw [zJ_tJ, if_neg (by omega)]) (fun _ _ => rfl) rfl rfl (fun _ _ => ⟨rfl, fun _ => rfl⟩) (fun _ _ => rfl) (fun _ _ => rfl)
theorem brO.cong {Z Z' : Zt} {x : Nat} {σ σ' : St} (h : brO Z x σ) (h3 : zF Z' 3 (x + 5) = zF Z 3 (x + 5)) (h6 : zJ Z' (x + 6) = zJ Z (x + 6)) (h7 : zI Z' (x + 7) = zI Z (x + 7)) (h8 : zI Z' (x + 8) = zI Z (x + 8)) (s1 : σ'.1 32 = σ.1 32) (s2 : σ'.1 34 = σ.1 34) (s3 : σ'.1 35 = σ.1 35) (s4 : σ'.2 33 = σ.2 33) : brO Z' x σ' := by
  unfold brO
  rw [h3, h6, h7, h8, s1, s2, s3, s4]; exact h
theorem brO_JF {Z Z' : Zt} {x : Nat} {σ σ' : St} (h : brO Z x σ) (hj : JF x Z Z') (hk : kp4 σ σ') : brO Z' x σ' :=
  h.cong (hj.2.2.2.2.2.1 3 (x + 5) (by omega) (by omega)) (by rw [hj.2.2.1]) (hj.2.2.2.2.2.2 _ (fun b _ => by omega)) (hj.2.2.2.2.2.2 _ (fun b _ => by omega)) (hk.1 32 (by decide) (by decide) (by decide) (by decide)) (hk.1 34 (by decide) (by decide) (by decide) (by decide)) (hk.1 35 (by decide) (by decide) (by decide) (by decide)) (by rw [hk.2])
