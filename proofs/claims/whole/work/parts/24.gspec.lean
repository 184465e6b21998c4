/-! SOURCES: what going through one gives -/
def barS (σ : St) (c : Int64) (vd : Int32) : St := pI (pI (pI (pJ σ 33 (σ.1 32 0).toNatClampNeg c) 34 (σ.1 32 0).toNatClampNeg (-10 - vd)) 35 (σ.1 32 0).toNatClampNeg (σ.1 14 0)) 32 0 (σ.1 32 0 + 1)
def cns (c : Int64) (q : (Int32 ⊕ List Int64) × St) : (Int32 ⊕ List Int64) × St := match q.1 with
  | .inl e => (.inl e, q.2)
  | .inr L => (.inr (c :: L), q.2)
/-- those of L that the filter a lets pass -/
noncomputable def pS (a : Nat) : List Int64 → St → (Int32 ⊕ List Int64) × St
  | [], σ => (.inr [], σ)
  | c :: L, σ =>
    if (jS 6 a c σ).1 = 1 then cns c (pS a L (jS 6 a c σ).2)
    else if ¬ 0 ≤ (jS 6 a c σ).1 ∧ ¬ (jS 6 a c σ).1 = -18 then pS a L (barS (jS 6 a c σ).2 c (jS 6 a c σ).1)
    else if (jS 6 a c σ).1 < 0 then (.inl (jS 6 a c σ).1, (jS 6 a c σ).2)
    else pS a L (jS 6 a c σ).2
def twoS (so : Int32) (L1 L2 : List Int64) : Int32 ⊕ List Int64 := if so = 2 then (if 200 < L1.length + L2.length then .inl (-4) else .inr (L1 ++ L2)) else .inr (selL (decide (so = 3)) L2 L1)
def plL (f st : Int64) (n : Nat) : List Int64 := (List.range n).map (fun i => f + lN i * st)
/-- a source is gone through -/
noncomputable def gS : Nat → Nat → St → (Int32 ⊕ List Int64) × St
  | 0, _, σ => (.inl 0, σ)
  | n + 1, s, σ =>
    if σ.1 24 s = 1 then (if σ.2 27 s ≤ 200 then (.inr (plL (σ.2 25 s) (σ.2 26 s) (uN (σ.2 27 s))), σ) else (.inl (-4), σ))
    else if σ.1 17 s = 1 then (.inr ((List.range (uN (σ.2 27 s))).map (fun i => σ.2 28 (12 * s + i))), σ)
    else if σ.1 17 s = 9 then
      (if σ.1 1 (σ.1 20 s).toNatClampNeg = 0 then (.inl (failS σ 1 (-1)).1, (failS σ 1 (-1)).2)
       else if σ.1 1 (σ.1 20 s).toNatClampNeg = 3 then (.inl (failS σ 5 (-1)).1, (failS σ 5 (-1)).2)
       else (.inr ((List.range (σ.1 2 (σ.1 20 s).toNatClampNeg).toNatClampNeg).map (fun i => σ.2 4 (12 * (σ.1 20 s).toNatClampNeg + i))), σ))
    else match gS n (σ.1 18 s).toNatClampNeg σ with
      | (.inl e, τ) => (.inl e, τ)
      | (.inr L1, τ) =>
        if 2 ≤ σ.1 17 s ∧ σ.1 17 s ≤ 4 then
          (match gS n (σ.1 19 s).toNatClampNeg τ with
            | (.inl e, υ) => (.inl e, υ)
            | (.inr L2, υ) => (twoS (σ.1 17 s) L1 L2, υ))
        else if σ.1 17 s = 5 then (.inr L1.reverse, τ)
        else if σ.1 17 s = 6 then (.inr ((srtR (σ.2 22 s) L1).reverse.take (σ.1 21 s).toNatClampNeg), τ)
        else if σ.1 17 s = 8 then (.inr (evL (σ.1 21 s).toNatClampNeg L1), τ)
        else pS (σ.1 20 s).toNatClampNeg L1 τ
/-- nothing but boxes, asked, where, failures, who was barred changes -/
def kp8 (σ τ : St) : Prop := (∀ k, k ≠ 5 → k ≠ 12 → k ≠ 14 → k ≠ 15 → k ≠ 32 → k ≠ 34 → k ≠ 35 → τ.1 k = σ.1 k) ∧ ∀ k, k ≠ 33 → τ.2 k = σ.2 k
theorem kp8.rf (σ : St) : kp8 σ σ := ⟨fun _ _ _ _ _ _ _ _ => rfl, fun _ _ => rfl⟩
theorem kp8.tr {σ τ υ : St} (h : kp8 σ τ) (k : kp8 τ υ) : kp8 σ υ := ⟨fun a b c d e f g i => (k.1 a b c d e f g i).trans (h.1 a b c d e f g i), fun a b => (k.2 a b).trans (h.2 a b)⟩
theorem kp4.k8 {σ τ : St} (h : kp4 σ τ) : kp8 σ τ := ⟨fun k a b c d _ _ _ => h.1 k a b c d, fun k _ => by rw [h.2]⟩
theorem kp8_bar (σ : St) (c : Int64) (vd : Int32) : kp8 σ (barS σ c vd) := ⟨fun k h1 h2 h3 h4 h5 h6 h7 => by
  show (pI (pI (pI _ 34 _ _) 35 _ _) 32 _ _).1 k = _
  rw [pI_ne h5, pI_ne h7, pI_ne h6]; rfl, fun k h => by show (pJ σ 33 _ c).2 k = _; rw [pJ_ne h]⟩
theorem cns_2 (c : Int64) (q : (Int32 ⊕ List Int64) × St) : (cns c q).2 = q.2 := by
  unfold cns; split <;> rfl
theorem kp8_pS (a : Nat) : ∀ (L : List Int64) (σ : St), kp8 σ (pS a L σ).2
  | [], σ => kp8.rf σ
  | c :: L, σ => by
    have h1 := (kp4_jS 6 a c σ).k8
    rw [pS]
    split
    · rw [cns_2]; exact h1.tr (kp8_pS a L _)
    · split
      · exact (h1.tr (kp8_bar _ _ _)).tr (kp8_pS a L _)
      · split
        · exact h1
        · exact h1.tr (kp8_pS a L _)
theorem kp8_gS : ∀ (n s : Nat) (σ : St), kp8 σ (gS n s σ).2
  | 0, s, σ => kp8.rf σ
  | n + 1, s, σ => by
    rw [gS]
    split
    · split <;> exact kp8.rf σ
    · split
      · exact kp8.rf σ
      · split
        · split
          · exact (kp4_fail _ _ _).k8
          · split
            · exact (kp4_fail _ _ _).k8
            · exact kp8.rf σ
        · have h1 := kp8_gS n (σ.1 18 s).toNatClampNeg σ
          split
          next e τ he => rw [he] at h1; exact h1
          next L1 τ he =>
            rw [he] at h1
            split
            · have h2 := kp8_gS n (σ.1 19 s).toNatClampNeg τ
              split
              next e υ hu => rw [hu] at h2; exact h1.tr h2
              next L2 υ hu => rw [hu] at h2; exact h1.tr h2
            · split
              · exact h1
              · split
                · exact h1
                · split
                  · exact h1
                  · exact h1.tr (kp8_pS _ _ _)
/-- lists of at most 200 -/
theorem pS_len (a : Nat) : ∀ (L : List Int64) (σ : St) (K : List Int64), (pS a L σ).1 = .inr K → K.length ≤ L.length
  | [], σ, K, h => by
    have : [] = K := by simpa [pS] using h
    subst this; exact Nat.le_refl _
  | c :: L, σ, K, h => by
    rw [pS] at h
    split at h
    · unfold cns at h
      split at h
      · cases h
      next K' hK' =>
        have := pS_len a L _ K' hK'
        cases h
        simp; omega
    · split at h
      · have := pS_len a L _ K h; simp; omega
      · split at h
        · cases h
        · have := pS_len a L _ K h; simp; omega
