/-! THE CLASS AS A WHOLE -/
def WN (Z : Zt) : Prop := ∀ a, zN Z ≤ a → zK Z a = 0
theorem WN.lt {Z : Zt} (h : WN Z) {a : Nat} (ha : zK Z a ≠ 0) : a < zN Z := Classical.byContradiction fun z => ha (h a (Nat.not_lt.mp z))
def Eq1 (Z Z' : Zt) (b : Nat) : Prop := zK Z' b = zK Z b ∧ zL Z' b = zL Z b ∧ zI Z' b = zI Z b ∧ zJ Z' b = zJ Z b ∧ zR Z' b = zR Z b ∧ ∀ k, zF Z' k b = zF Z k b
theorem Eq1.rf (Z : Zt) (b : Nat) : Eq1 Z Z b := ⟨rfl, rfl, rfl, rfl, rfl, fun _ => rfl⟩
theorem Eq1.tr {Z Z1 Z2 : Zt} {b : Nat} (h : Eq1 Z Z1 b) (k : Eq1 Z1 Z2 b) : Eq1 Z Z2 b := by
  obtain ⟨a1, a2, a3, a4, a5, a6⟩ := h
  obtain ⟨b1, b2, b3, b4, b5, b6⟩ := k
  exact ⟨b1.trans a1, b2.trans a2, b3.trans a3, b4.trans a4, b5.trans a5, fun k => (b6 k).trans (a6 k)⟩
theorem Eq1_sF {Z : Zt} {k a b : Nat} {v : Value} (h : b ≠ a) : Eq1 Z (sF Z k a v) b := ⟨rfl, rfl, rfl, rfl, rfl, fun j => by rw [zF_sF, if_neg (fun z => h z.2)]⟩
theorem Eq1_nO {Z : Zt} {kd : Nat} {dv : Nat → Value} {b : Nat} (h : b < zN Z) : Eq1 Z (nO Z kd dv) b := ⟨zK_nO (by omega), rfl, rfl, rfl, rfl, fun k => zF_nO (by omega)⟩
theorem Eq1_nA {Z : Zt} {kd n b : Nat} (h : b < zN Z) : Eq1 Z (nA Z kd n) b := ⟨zK_nA (by omega), zL_nA (by omega), zI_nA (by omega), zJ_nA (by omega), zR_nA (by omega), fun k => rfl⟩
/-- new objects, nothing else -/
def Fr (n : Nat) (Z Z1 : Zt) : Prop := zN Z ≤ zN Z1 ∧ (∀ b, zN Z1 ≤ b → zK Z1 b = zK Z b) ∧ ∀ b, b < n → Eq1 Z Z1 b
theorem Fr.rf (n : Nat) (Z : Zt) : Fr n Z Z := ⟨Nat.le_refl _, fun _ _ => rfl, fun b _ => Eq1.rf Z b⟩
theorem Fr.tr {n : Nat} {Z Z1 Z2 : Zt} (h : Fr n Z Z1) (k : Fr n Z1 Z2) : Fr n Z Z2 := by
  obtain ⟨a1, a2, a3⟩ := h
  obtain ⟨b1, b2, b3⟩ := k
  exact ⟨Nat.le_trans a1 b1, fun b hb => (b2 b hb).trans (a2 b (by omega)), fun b hb => (a3 b hb).tr (b3 b hb)⟩
theorem Fr_sF {n : Nat} {Z : Zt} {k a : Nat} {v : Value} (h : n ≤ a) : Fr n Z (sF Z k a v) := ⟨Nat.le_refl _, fun _ _ => rfl, fun b hb => Eq1_sF (by omega)⟩
theorem Fr_nO {n : Nat} {Z : Zt} {kd : Nat} {dv : Nat → Value} (h : n ≤ zN Z) : Fr n Z (nO Z kd dv) := ⟨by rw [zN_nO]; omega, fun b hb => zK_nO (by rw [zN_nO] at hb; omega), fun b hb => Eq1_nO (by omega)⟩
theorem Fr_nA {n : Nat} {Z : Zt} {kd m : Nat} (h : n ≤ zN Z) : Fr n Z (nA Z kd m) := ⟨by rw [zN_nA]; omega, fun b hb => zK_nA (by rw [zN_nA] at hb; omega), fun b hb => Eq1_nA (by omega)⟩
theorem Fr.wn {n : Nat} {Z Z1 : Zt} (h : Fr n Z Z1) (w : WN Z) : WN Z1 := fun a ha => (h.2.1 a ha).trans (w a (Nat.le_trans h.1 ha))
/-- a stretch, of count C, from F on by S -/
def stG (Z : Zt) (x q : Nat) (F S C : Int64) : Prop := x + 61 ≤ q ∧ zK Z q = 9 ∧ ∃ (f st c : Int64) (d : Int32), zF Z 0 q = .long f ∧ zF Z 1 q = .long st ∧ zF Z 2 q = .int d ∧ zF Z 3 q = .long c ∧ (d = 0 ∨ d = 1) ∧ c = C ∧ ¬ c < 0 ∧ (¬ c < 1 → f = F ∧ S = (if d = 0 then st else -st)) ∧ wfSt f st d c
theorem stO_G {Z : Zt} {x q s : Nat} {σ : St} : stO Z x σ q s ↔ stG Z x q (σ.2 25 s) (σ.2 26 s) (σ.2 27 s) := Iff.rfl
theorem stG.cong {Z Z' : Zt} {x q : Nat} {F S C : Int64} (h : stG Z x q F S C) (hK : zK Z' q = zK Z q) (hF : ∀ k, zF Z' k q = zF Z k q) : stG Z' x q F S C := by
  unfold stG
  rw [hK, hF 0, hF 1, hF 2, hF 3]; exact h
/-- the range reckoned last -/
def rgO (Z : Zt) (x : Nat) (σ : St) : Prop := (σ.1 36 0 = 0 ∧ zF Z 0 (x + 9) = .null ∧ ∃ n, n ≤ 200 ∧ σ.2 39 0 = lN n ∧ zF Z 2 (x + 9) = .int (nI n) ∧ ∀ i, i < n → zJ Z (x + 10) i = σ.2 40 i) ∨ (σ.1 36 0 = 1 ∧ ∃ q, zF Z 0 (x + 9) = .ref q ∧ stG Z x q (σ.2 37 0) (σ.2 38 0) (σ.2 39 0))
theorem rgO.cong {Z Z' : Zt} {x : Nat} {σ σ' : St} (h : rgO Z x σ) (h0 : zF Z' 0 (x + 9) = zF Z 0 (x + 9)) (h2 : zF Z' 2 (x + 9) = zF Z 2 (x + 9)) (hj : zJ Z' (x + 10) = zJ Z (x + 10)) (hq : ∀ q, x + 61 ≤ q → zK Z q = 9 → zK Z' q = zK Z q ∧ ∀ k, zF Z' k q = zF Z k q) (s1 : σ'.1 36 = σ.1 36) (s2 : σ'.2 37 = σ.2 37) (s3 : σ'.2 38 = σ.2 38) (s4 : σ'.2 39 = σ.2 39) (s5 : σ'.2 40 = σ.2 40) : rgO Z' x σ' := by
  unfold rgO
  rw [h0, h2, hj, s1, s2, s3, s4, s5]
  rcases h with h | ⟨h1, q, h3, h4⟩
  · exact Or.inl h
  · exact Or.inr ⟨h1, q, h3, h4.cong (hq q h4.1 h4.2.1).1 (hq q h4.1 h4.2.1).2⟩
def tbO (Z : Zt) (x : Nat) (σ : St) (af as : Nat → Nat) (nf ns : Nat) : Prop := zF Z 4 x = .int (nI nf) ∧ zF Z 5 x = .int (nI ns) ∧ σ.1 16 0 = nI ns ∧ ns ≤ 20 ∧ (∀ f, f < nf → zR Z (x + 3) f = some (af f)) ∧ (∀ s, s < ns → zR Z (x + 4) s = some (as s)) ∧ ∀ s s', s < ns → s' < ns → as s = as s' → s = s'
def CR (Z : Zt) (x : Nat) (σ : St) (af as : Nat → Nat) (nf ns : Nat) : Prop := FIs Z x σ af nf ∧ SIs Z x σ af as nf ns ∧ brO Z x σ ∧ rgO Z x σ ∧ tbO Z x σ af as nf ns ∧ WN Z ∧ x + 61 ≤ zN Z
theorem fOb.kd {Z : Zt} {x : Nat} {σ : St} {af : Nat → Nat} {f : Nat} (h : fOb Z x σ af f) : zK Z (af f) = 2 ∨ zK Z (af f) = 3 ∨ zK Z (af f) = 4 ∨ zK Z (af f) = 7 := by
  obtain ⟨-, h1, h2, h3, h4⟩ := h
  by_cases c1 : σ.1 7 f = 3 ∨ σ.1 7 f = 12
  · exact Or.inr (Or.inr (Or.inr (h1 c1).1))
  · by_cases c2 : σ.1 7 f = 5
    · exact Or.inl (h2 c2).1
    · by_cases c3 : 7 ≤ σ.1 7 f ∧ σ.1 7 f ≤ 11
      · exact Or.inr (Or.inl (h3 c3).1)
      · exact Or.inr (Or.inr (Or.inl (h4 c1 c2 c3).1))
theorem CR.keep {Z Z' : Zt} {x nf ns : Nat} {σ : St} {af as : Nat → Nat} (h : CR Z x σ af as nf ns) (hN : zN Z ≤ zN Z') (hW : WN Z') (hs : ∀ b, (x ≤ b ∧ b < x + 30) ∨ (x + 61 ≤ b ∧ b < zN Z) → Eq1 Z Z' b) : CR Z' x σ af as nf ns := by
  obtain ⟨h1, h2, h3, h4, ⟨t1, t2, t3, t4, t5, t6, t7⟩, h6, h7⟩ := h
  have hlo : ∀ b, x ≤ b → b < x + 30 → Eq1 Z Z' b := fun b i j => hs b (Or.inl ⟨i, j⟩)
  have hhi : ∀ b, x + 61 ≤ b → zK Z b ≠ 0 → Eq1 Z Z' b := fun b i j => hs b (Or.inr ⟨i, h6.lt j⟩)
  have F : ∀ k b, x ≤ b → b < x + 30 → zF Z' k b = zF Z k b := fun k b i j => (hlo b i j).2.2.2.2.2 k
  refine ⟨h1.cong ⟨fun a i j => ⟨(hlo a i j).1, (hlo a i j).2.1⟩, fun k a hf => F k a (by unfold fixF at hf; omega) (by unfold fixF at hf; omega), (hlo _ (by omega) (by omega)).2.2.2.2.1, (hlo _ (by omega) (by omega)).2.2.2.2.1⟩ (fun k a i j => F k a (by omega) (by omega)) (fun a i j => (hlo a (by omega) (by omega)).2.2.2.1) (fun b hb => (hlo _ (by omega) (by omega)).2.2.1) (F _ _ (by omega) (by omega)) (F _ _ (by omega) (by omega)) (fun f hf => ?_) (fun _ _ => rfl) (fun _ _ => rfl),
    h2.cong (fun a i j => ⟨(hhi a i j).1, (hhi a i j).2.1⟩) (fun k a i j => (hhi a i (by omega)).2.2.2.2.2 k) (fun a i j => (hhi a i (by omega)).2.2.2.1) ⟨fun _ _ => rfl, fun _ _ => rfl⟩,
    h3.cong (F _ _ (by omega) (by omega)) (hlo _ (by omega) (by omega)).2.2.2.1 (hlo _ (by omega) (by omega)).2.2.1 (hlo _ (by omega) (by omega)).2.2.1 rfl rfl rfl rfl,
    h4.cong (F _ _ (by omega) (by omega)) (F _ _ (by omega) (by omega)) (hlo _ (by omega) (by omega)).2.2.2.1 (fun q i j => ⟨(hhi q i (by omega)).1, (hhi q i (by omega)).2.2.2.2.2⟩) rfl rfl rfl rfl rfl,
    ⟨by rw [F 4 x (by omega) (by omega)]; exact t1, by rw [F 5 x (by omega) (by omega)]; exact t2, t3, t4, fun f hf => by rw [(hlo (x + 3) (by omega) (by omega)).2.2.2.2.1]; exact t5 f hf, fun s hs => by rw [(hlo (x + 4) (by omega) (by omega)).2.2.2.2.1]; exact t6 s hs, t7⟩, hW, Nat.le_trans h7 hN⟩
  obtain ⟨g1, -⟩ := h1.2.2.2.2.2.2 f hf
  have e := hhi (af f) g1.1.1 (by have := g1.kd; omega)
  exact ⟨e.1, e.2.2.2.2.2⟩
theorem CR.fr {Z Z' : Zt} {x nf ns : Nat} {σ : St} {af as : Nat → Nat} (h : CR Z x σ af as nf ns) (hf : Fr (zN Z) Z Z') : CR Z' x σ af as nf ns := h.keep hf.1 (hf.wn h.2.2.2.2.2.1) (fun b hb => hf.2.2 b (by have := h.2.2.2.2.2.2; omega))
/-- what the class's calls leave as it was -/
def KM (x : Nat) (Z Z1 : Zt) : Prop := zN Z ≤ zN Z1 ∧ ∀ b, x + 30 ≤ b → b < x + 61 → Eq1 Z Z1 b
theorem KM.rf (x : Nat) (Z : Zt) : KM x Z Z := ⟨Nat.le_refl _, fun b _ _ => Eq1.rf Z b⟩
theorem KM.tr {x : Nat} {Z Z1 Z2 : Zt} (h : KM x Z Z1) (k : KM x Z1 Z2) : KM x Z Z2 := ⟨Nat.le_trans h.1 k.1, fun b h1 h2 => (h.2 b h1 h2).tr (k.2 b h1 h2)⟩
theorem Fr.km {x : Nat} {Z Z1 : Zt} (h : Fr (zN Z) Z Z1) (hx : x + 61 ≤ zN Z) : KM x Z Z1 := ⟨h.1, fun b h1 h2 => h.2.2 b (by omega)⟩
