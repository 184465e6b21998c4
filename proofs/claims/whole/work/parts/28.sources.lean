/-! the sources in the class's heap -/
def sdp (σ : St) (s : Nat) : Nat := (σ.1 23 s).toNatClampNeg
def wfSt (f st : Int64) (d : Int32) (c : Int64) : Prop := 2 ≤ uN c → 1 ≤ uN st ∧ (d = 0 → f.toInt + ((uN c - 1) * uN st : Nat) < 9223372036854775808) ∧ (d = 1 → -9223372036854775808 ≤ f.toInt - ((uN c - 1) * uN st : Nat))
def stO (Z : Zt) (x : Nat) (σ : St) (q s : Nat) : Prop := x + 61 ≤ q ∧ zK Z q = 9 ∧ ∃ (f st c : Int64) (d : Int32), zF Z 0 q = .long f ∧ zF Z 1 q = .long st ∧ zF Z 2 q = .int d ∧ zF Z 3 q = .long c ∧ (d = 0 ∨ d = 1) ∧ c = σ.2 27 s ∧ ¬ c < 0 ∧ (¬ c < 1 → f = σ.2 25 s ∧ σ.2 26 s = (if d = 0 then st else -st)) ∧ wfSt f st d c
def lsO (Z : Zt) (σ : St) (hs it s : Nat) : Prop := zK Z hs = 6 ∧ zF Z 0 hs = .ref it ∧ zF Z 1 hs = .int 1 ∧ zK Z it = 21 ∧ zL Z it = 12 ∧ ∃ cn, cn ≤ 12 ∧ zF Z 2 hs = .int (nI cn) ∧ σ.2 27 s = lN cn ∧ ∀ i, i < cn → zJ Z it i = σ.2 28 (12 * s + i)
def sO0 (Z : Zt) (x : Nat) (σ : St) (as : Nat → Nat) (s : Nat) : Prop := x + 61 ≤ as s ∧ zK Z (as s) = 8 ∧ zF Z 0 (as s) = .int (σ.1 17 s) ∧ (∃ d, d ≤ 6 ∧ 1 ≤ d ∧ σ.1 23 s = nI d ∧ zF Z 1 (as s) = .int (nI d)) ∧ (σ.1 24 s = 0 ∨ σ.1 24 s = 1)
def sO1 (Z : Zt) (x : Nat) (σ : St) (as : Nat → Nat) (s : Nat) : Prop := σ.1 24 s = 1 → (σ.1 17 s = 0 ∨ σ.1 17 s = 5 ∨ σ.1 17 s = 8) ∧ ∃ q, zF Z 2 (as s) = .ref q ∧ stO Z x σ q s
def sO2 (Z : Zt) (x : Nat) (σ : St) (as : Nat → Nat) (s : Nat) : Prop := σ.1 24 s = 0 → zF Z 2 (as s) = .null ∧ (σ.1 17 s = 1 ∨ σ.1 17 s = 9 ∨ (2 ≤ σ.1 17 s ∧ σ.1 17 s ≤ 8)) ∧ (σ.1 17 s = 1 → zF Z 4 (as s) = .null ∧ x + 63 ≤ as s ∧ zF Z 3 (as s) = .ref (as s - 2) ∧ lsO Z σ (as s - 2) (as s - 1) s) ∧ (σ.1 17 s = 9 → zF Z 4 (as s) = .null ∧ ∃ k, k < 6 ∧ σ.1 20 s = nI k ∧ zF Z 3 (as s) = .ref (x + 12 + 2 * k))
def sO3 (Z : Zt) (σ : St) (af as : Nat → Nat) (nf s : Nat) : Prop := σ.1 24 s = 0 → (2 ≤ σ.1 17 s ∧ σ.1 17 s ≤ 8) → (∃ s1, s1 < s ∧ σ.1 18 s = nI s1 ∧ zF Z 4 (as s) = .ref (as s1) ∧ sdp σ s1 < sdp σ s) ∧ ((2 ≤ σ.1 17 s ∧ σ.1 17 s ≤ 4) → ∃ t1, t1 < s ∧ σ.1 19 s = nI t1 ∧ zF Z 5 (as s) = .ref (as t1) ∧ sdp σ t1 < sdp σ s) ∧ (¬ (2 ≤ σ.1 17 s ∧ σ.1 17 s ≤ 4) → zF Z 5 (as s) = .null) ∧ (σ.1 17 s = 6 → zF Z 8 (as s) = .long (σ.2 22 s) ∧ ∃ n, n ≤ 200 ∧ σ.1 21 s = nI n ∧ zF Z 7 (as s) = .int (nI n)) ∧ (σ.1 17 s = 8 → ∃ n, 1 ≤ n ∧ n ≤ 200 ∧ σ.1 21 s = nI n ∧ zF Z 7 (as s) = .int (nI n)) ∧ (σ.1 17 s = 7 → ∃ fi, fi < nf ∧ σ.1 20 s = nI fi ∧ zF Z 6 (as s) = .ref (af fi))
def SIs (Z : Zt) (x : Nat) (σ : St) (af as : Nat → Nat) (nf ns : Nat) : Prop := ∀ s, s < ns → sO0 Z x σ as s ∧ sO1 Z x σ as s ∧ sO2 Z x σ as s ∧ sO3 Z σ af as nf s
/-- the part of the state that sources are told by -/
def kpS (σ τ : St) : Prop := (∀ k, k = 17 ∨ k = 18 ∨ k = 19 ∨ k = 20 ∨ k = 21 ∨ k = 23 ∨ k = 24 → τ.1 k = σ.1 k) ∧ ∀ k, k = 22 ∨ k = 25 ∨ k = 26 ∨ k = 27 ∨ k = 28 → τ.2 k = σ.2 k
theorem kp8.kS {σ τ : St} (h : kp8 σ τ) : kpS σ τ := ⟨fun k hk => h.1 k (by omega) (by omega) (by omega) (by omega) (by omega) (by omega) (by omega), fun k hk => h.2 k (by omega)⟩
theorem SIs.cong {Z Z' : Zt} {x nf ns : Nat} {σ σ' : St} {af as : Nat → Nat} (h : SIs Z x σ af as nf ns) (hK : ∀ a, x + 61 ≤ a → zK Z a ≠ 0 → zK Z' a = zK Z a ∧ zL Z' a = zL Z a) (hF : ∀ k a, x + 61 ≤ a → zK Z a = 8 ∨ zK Z a = 9 ∨ zK Z a = 6 → zF Z' k a = zF Z k a) (hJ : ∀ a, x + 61 ≤ a → zK Z a = 21 → zJ Z' a = zJ Z a) (hσ : kpS σ σ') : SIs Z' x σ' af as nf ns := by
  intro s hs
  obtain ⟨⟨a1, a2, a3, a4, a5⟩, b, c, d⟩ := h s hs
  have k17 := hσ.1 17 (by omega)
  have k18 := hσ.1 18 (by omega)
  have k19 := hσ.1 19 (by omega)
  have k20 := hσ.1 20 (by omega)
  have k21 := hσ.1 21 (by omega)
  have k23 := hσ.1 23 (by omega)
  have k24 := hσ.1 24 (by omega)
  have j22 := hσ.2 22 (by omega)
  have j25 := hσ.2 25 (by omega)
  have j26 := hσ.2 26 (by omega)
  have j27 := hσ.2 27 (by omega)
  have j28 := hσ.2 28 (by omega)
  have eF : ∀ k, zF Z' k (as s) = zF Z k (as s) := fun k => hF k _ a1 (Or.inl a2)
  refine ⟨?_, ?_, ?_, ?_⟩
  · unfold sO0
    rw [eF, eF, (hK _ a1 (by rw [a2]; decide)).1, k17, k23, k24]
    exact ⟨a1, a2, a3, a4, a5⟩
  · unfold sO1 at b ⊢
    rw [k24, k17, eF]
    intro z
    obtain ⟨b1, q, b2, b3, b4, f, st, c, d, c0, c1, c2, c3, c4⟩ := b z
    refine ⟨b1, q, b2, b3, (hK _ b3 (by rw [b4]; decide)).1.trans b4, f, st, c, d, ?_, ?_, ?_, ?_, ?_⟩
    · rw [hF _ _ b3 (Or.inr (Or.inl b4))]; exact c0
    · rw [hF _ _ b3 (Or.inr (Or.inl b4))]; exact c1
    · rw [hF _ _ b3 (Or.inr (Or.inl b4))]; exact c2
    · rw [hF _ _ b3 (Or.inr (Or.inl b4))]; exact c3
    · rw [j27, j25, j26]; exact c4
  · unfold sO2 at c ⊢
    rw [k24, k17, k20, eF, eF, eF]
    intro z
    obtain ⟨c1, c2, c3, c4⟩ := c z
    refine ⟨c1, c2, fun z2 => ?_, c4⟩
    obtain ⟨d1, d2, d3, e1, e2, e3, e4, e5, cn, e6, e7, e8, e9⟩ := c3 z2
    refine ⟨d1, d2, d3, ?_⟩
    unfold lsO
    rw [(hK _ (by omega) (by rw [e1]; decide)).1, (hK _ (by omega) (by rw [e4]; decide)).1, (hK _ (by omega) (by rw [e4]; decide)).2, hF _ _ (by omega) (Or.inr (Or.inr e1)), hF _ _ (by omega) (Or.inr (Or.inr e1)), hF _ _ (by omega) (Or.inr (Or.inr e1)), hJ _ (by omega) e4, j27, j28]
    exact ⟨e1, e2, e3, e4, e5, cn, e6, e7, e8, e9⟩
  · unfold sO3 sdp at d ⊢
    rw [k24, k17, k18, k19, k20, k21, k23, eF, eF, eF, eF, eF, j22]
    exact d
theorem SIs_GF {Z Z' : Zt} {x nf ns : Nat} {σ σ' : St} {af as : Nat → Nat} (h : SIs Z x σ af as nf ns) (hG : GF x Z Z') (hσ : kp8 σ σ') : SIs Z' x σ' af as nf ns :=
  h.cong (fun a _ _ => ⟨by rw [hG.1], by rw [hG.2.1]⟩) (fun k a h1 h2 => hG.2.2.2.2.1 k a (by omega) (by omega)) (fun a h1 h2 => hG.2.2.2.2.2.2 a (by omega) (by omega)) hσ.kS
