/-! THE REFERENCE'S HEAP: its root at y, its rows behind it (y + 1 .. y + 29), by slots -/
def mT (k : Nat) : Nat := [0, 20, 20, 21, 21, 20, 0, 20, 20, 20, 21, 20, 20, 0, 0, 0, 0, 20, 20, 20, 20, 20, 21, 20, 22, 21, 21, 21, 21, 21, 20, 0, 0, 21, 20, 20, 0, 1, 1, 1, 21].getD k 99
def mA (k : Nat) : Nat := [0, 1, 2, 3, 4, 5, 0, 6, 7, 8, 9, 10, 11, 0, 0, 0, 0, 12, 13, 14, 15, 16, 17, 18, 19, 20, 21, 22, 23, 24, 25, 0, 0, 26, 27, 28, 0, 0, 0, 0, 29].getD k 0
def mL (k : Nat) : Nat := [0, 6, 6, 6, 72, 9, 0, 20, 20, 20, 20, 20, 20, 0, 0, 0, 0, 20, 20, 20, 20, 20, 20, 20, 20, 20, 20, 20, 240, 3216, 16, 0, 0, 24, 24, 24, 0, 0, 0, 0, 200].getD k 0
/-- slots that are no part of the shared state: what was thrown, failed, where, the working rows -/
def xt (k : Nat) : Bool := k == 0 || k == 13 || k == 14 || k == 29 || k == 30 || k == 31
theorem mA_inj : ∀ k, k < 41 → ∀ j, j < 41 → 20 ≤ mT k → 20 ≤ mT j → mA k = mA j → k = j := by decide +kernel
theorem mA_b : ∀ k, k < 41 → 20 ≤ mT k → 1 ≤ mA k ∧ mA k ≤ 29 := by decide +kernel
theorem mL_b : ∀ k, k < 41 → mL k < 2 ^ 31 := by decide +kernel
def mx (σ e : St) : St := (fun k i => if xt k = true then e.1 k i else σ.1 k i, fun k i => if xt k = true then e.2 k i else σ.2 k i)
theorem mx_1 {σ e : St} {k : Nat} (h : xt k = false) (i : Nat) : (mx σ e).1 k i = σ.1 k i := by
  show (if xt k = true then e.1 k i else σ.1 k i) = _
  rw [h]; rfl
theorem mx_2 {σ e : St} {k : Nat} (h : xt k = false) (i : Nat) : (mx σ e).2 k i = σ.2 k i := by
  show (if xt k = true then e.2 k i else σ.2 k i) = _
  rw [h]; rfl
theorem mx_1x {σ e : St} {k : Nat} (h : xt k = true) (i : Nat) : (mx σ e).1 k i = e.1 k i := if_pos h
theorem mx_2x {σ e : St} {k : Nat} (h : xt k = true) (i : Nat) : (mx σ e).2 k i = e.2 k i := if_pos h
theorem mx_pI {σ e : St} {k i : Nat} {v : Int32} (h : xt k = false) : mx (pI σ k i v) e = pI (mx σ e) k i v := by
  refine Prod.ext (funext fun k' => funext fun i' => ?_) rfl
  show (if xt k' = true then e.1 k' i' else if k' = k ∧ i' = i then v else σ.1 k' i') = if k' = k ∧ i' = i then v else if xt k' = true then e.1 k' i' else σ.1 k' i'
  by_cases c : k' = k ∧ i' = i
  · rw [if_pos c, if_pos c, if_neg (by rw [c.1, h]; decide)]
  · rw [if_neg c, if_neg c]
theorem mx_pJ {σ e : St} {k i : Nat} {v : Int64} (h : xt k = false) : mx (pJ σ k i v) e = pJ (mx σ e) k i v := by
  refine Prod.ext rfl (funext fun k' => funext fun i' => ?_)
  show (if xt k' = true then e.2 k' i' else if k' = k ∧ i' = i then v else σ.2 k' i') = if k' = k ∧ i' = i then v else if xt k' = true then e.2 k' i' else σ.2 k' i'
  by_cases c : k' = k ∧ i' = i
  · rw [if_pos c, if_pos c, if_neg (by rw [c.1, h]; decide)]
  · rw [if_neg c, if_neg c]
theorem mx_pIx {σ e : St} {k i : Nat} {v : Int32} (h : xt k = true) : mx σ (pI e k i v) = pI (mx σ e) k i v := by
  refine Prod.ext (funext fun k' => funext fun i' => ?_) rfl
  show (if xt k' = true then (if k' = k ∧ i' = i then v else e.1 k' i') else σ.1 k' i') = if k' = k ∧ i' = i then v else if xt k' = true then e.1 k' i' else σ.1 k' i'
  by_cases c : k' = k ∧ i' = i
  · rw [if_pos c, if_pos c, if_pos (by rw [c.1]; exact h)]
  · rw [if_neg c, if_neg c]
theorem mx_pJx {σ e : St} {k i : Nat} {v : Int64} (h : xt k = true) : mx σ (pJ e k i v) = pJ (mx σ e) k i v := by
  refine Prod.ext rfl (funext fun k' => funext fun i' => ?_)
  show (if xt k' = true then (if k' = k ∧ i' = i then v else e.2 k' i') else σ.2 k' i') = if k' = k ∧ i' = i then v else if xt k' = true then e.2 k' i' else σ.2 k' i'
  by_cases c : k' = k ∧ i' = i
  · rw [if_pos c, if_pos c, if_pos (by rw [c.1]; exact h)]
  · rw [if_neg c, if_neg c]
def M0 (Z : Zt) (y : Nat) (τ : St) : Prop := zK Z y = 12 ∧ (∀ k, k < 41 → 20 ≤ mT k → zF Z k y = .ref (y + mA k) ∧ zK Z (y + mA k) = mT k ∧ zL Z (y + mA k) = mL k) ∧ (∀ k, k < 41 → 20 ≤ mT k → ∀ i, i < mL k → (¬ mT k = 21 → zI Z (y + mA k) i = τ.1 k i) ∧ (mT k = 21 → zJ Z (y + mA k) i = τ.2 k i)) ∧ (∀ k, k < 41 → mT k = 0 → zF Z k y = .int (τ.1 k 0)) ∧ (∀ k, k < 41 → mT k = 1 → zF Z k y = .long (τ.2 k 0))
theorem M0.sI {Z : Zt} {y : Nat} {τ : St} (h : M0 Z y τ) {k i : Nat} {v : Int32} (hk : k < 41) (ht : 20 ≤ mT k) (hj : ¬ mT k = 21) : M0 (sI Z (y + mA k) i v) y (pI τ k i v) := by
  obtain ⟨a1, a2, a3, a4, a5⟩ := h
  refine ⟨a1, a2, fun k' h1 h2 i' hi => ⟨fun h3 => ?_, fun h3 => ?_⟩, fun k' h1 h2 => ?_, fun k' h1 h2 => a5 k' h1 h2⟩
  · rw [zI_sI, pI_1]
    by_cases c : k' = k
    · subst c
      rw [if_pos rfl]
      by_cases d : i' = i
      · subst d
        rw [if_pos ⟨rfl, rfl⟩]; exact if_pos rfl
      · rw [if_neg (fun z => d z.2)]
        exact (if_neg d).trans ((a3 k' h1 h2 i' hi).1 h3)
    · rw [if_neg (fun z => c (mA_inj k' h1 k hk h2 ht (by omega))), if_neg (fun z => c z.1)]
      exact (a3 k' h1 h2 i' hi).1 h3
  · rw [zJ_sI]
    exact (a3 k' h1 h2 i' hi).2 h3
  · rw [zF_sI, pI_1, if_neg (fun z => by rw [z.1] at h2; omega)]
    exact a4 k' h1 h2
theorem M0.sJ {Z : Zt} {y : Nat} {τ : St} (h : M0 Z y τ) {k i : Nat} {v : Int64} (hk : k < 41) (hj : mT k = 21) : M0 (sJ Z (y + mA k) i v) y (pJ τ k i v) := by
  obtain ⟨a1, a2, a3, a4, a5⟩ := h
  refine ⟨a1, a2, fun k' h1 h2 i' hi => ⟨fun h3 => ?_, fun h3 => ?_⟩, fun k' h1 h2 => a4 k' h1 h2, fun k' h1 h2 => ?_⟩
  · rw [zI_sJ]
    exact (a3 k' h1 h2 i' hi).1 h3
  · rw [zJ_sJ, pJ_2]
    by_cases c : k' = k
    · subst c
      rw [if_pos rfl]
      by_cases d : i' = i
      · subst d
        rw [if_pos ⟨rfl, rfl⟩]; exact if_pos rfl
      · rw [if_neg (fun z => d z.2)]
        exact (if_neg d).trans ((a3 k' h1 h2 i' hi).2 h3)
    · rw [if_neg (fun z => c (mA_inj k' h1 k hk h2 (by omega) (by omega))), if_neg (fun z => c z.1)]
      exact (a3 k' h1 h2 i' hi).2 h3
  · rw [zF_sJ, pJ_2, if_neg (fun z => by rw [z.1] at h2; omega)]
    exact a5 k' h1 h2
theorem M0.sFi {Z : Zt} {y : Nat} {τ : St} (h : M0 Z y τ) {k : Nat} {v : Int32} (hk : k < 41) (ht : mT k = 0) : M0 (sF Z k y (.int v)) y (pI τ k 0 v) := by
  obtain ⟨a1, a2, a3, a4, a5⟩ := h
  refine ⟨a1, fun k' h1 h2 => ?_, fun k' h1 h2 i' hi => ⟨fun h3 => ?_, fun h3 => (a3 k' h1 h2 i' hi).2 h3⟩, fun k' h1 h2 => ?_, fun k' h1 h2 => ?_⟩
  · rw [zF_sF, if_neg (fun z => by rw [z.1] at h2; omega)]
    exact a2 k' h1 h2
  · rw [pI_1, if_neg (fun z => by rw [z.1] at h2; omega)]
    exact (a3 k' h1 h2 i' hi).1 h3
  · rw [zF_sF, pI_1]
    by_cases c : k' = k
    · rw [if_pos ⟨c, rfl⟩, if_pos ⟨c, rfl⟩]
    · rw [if_neg (fun z => c z.1), if_neg (fun z => c z.1)]
      exact a4 k' h1 h2
  · rw [zF_sF, if_neg (fun z => by rw [z.1] at h2; omega)]
    exact a5 k' h1 h2
theorem M0.sFj {Z : Zt} {y : Nat} {τ : St} (h : M0 Z y τ) {k : Nat} {v : Int64} (hk : k < 41) (ht : mT k = 1) : M0 (sF Z k y (.long v)) y (pJ τ k 0 v) := by
  obtain ⟨a1, a2, a3, a4, a5⟩ := h
  refine ⟨a1, fun k' h1 h2 => ?_, fun k' h1 h2 i' hi => ⟨fun h3 => (a3 k' h1 h2 i' hi).1 h3, fun h3 => ?_⟩, fun k' h1 h2 => ?_, fun k' h1 h2 => ?_⟩
  · rw [zF_sF, if_neg (fun z => by rw [z.1] at h2; omega)]
    exact a2 k' h1 h2
  · rw [pJ_2, if_neg (fun z => by rw [z.1] at h2; omega)]
    exact (a3 k' h1 h2 i' hi).2 h3
  · rw [zF_sF, if_neg (fun z => by rw [z.1] at h2; omega)]
    exact a4 k' h1 h2
  · rw [zF_sF, pJ_2]
    by_cases c : k' = k
    · rw [if_pos ⟨c, rfl⟩, if_pos ⟨c, rfl⟩]
    · rw [if_neg (fun z => c z.1), if_neg (fun z => c z.1)]
      exact a5 k' h1 h2
def MR (Z : Zt) (y : Nat) (σ e : St) : Prop := M0 Z y (mx σ e)
theorem MR.K {Z : Zt} {y : Nat} {σ e : St} (h : MR Z y σ e) : zK Z y = 11 + 1 := h.1
theorem MR.a {Z : Zt} {y : Nat} {σ e : St} (h : MR Z y σ e) (k : Nat) (hk : k < 41) (ht : 20 ≤ mT k) : zF Z k y = .ref (y + mA k) := (h.2.1 k hk ht).1
theorem MR.i {Z : Zt} {y : Nat} {σ e : St} (h : MR Z y σ e) (k : Nat) (hk : k < 41) (ht : mT k = 0) (hx : xt k = false) : zF Z k y = .int (σ.1 k 0) := by rw [h.2.2.2.1 k hk ht, mx_1 hx]
theorem MR.ix {Z : Zt} {y : Nat} {σ e : St} (h : MR Z y σ e) (k : Nat) (hk : k < 41) (ht : mT k = 0) (hx : xt k = true) : zF Z k y = .int (e.1 k 0) := by rw [h.2.2.2.1 k hk ht, mx_1x hx]
theorem MR.j {Z : Zt} {y : Nat} {σ e : St} (h : MR Z y σ e) (k : Nat) (hk : k < 41) (ht : mT k = 1) (hx : xt k = false) : zF Z k y = .long (σ.2 k 0) := by rw [h.2.2.2.2 k hk ht, mx_2 hx]
/-- nothing but the reference's own part changes -/
def MF (y : Nat) (Z Z1 : Zt) : Prop := zN Z1 = zN Z ∧ zK Z1 = zK Z ∧ ∀ b, ¬ (y ≤ b ∧ b < y + 30) → Eq1 Z Z1 b
theorem MF.rf (y : Nat) (Z : Zt) : MF y Z Z := ⟨rfl, rfl, fun b _ => Eq1.rf Z b⟩
theorem MF.tr {y : Nat} {Z Z1 Z2 : Zt} (h : MF y Z Z1) (k : MF y Z1 Z2) : MF y Z Z2 := ⟨k.1.trans h.1, k.2.1.trans h.2.1, fun b hb => (h.2.2 b hb).tr (k.2.2 b hb)⟩
theorem MF.sF {y : Nat} {Z : Zt} {k : Nat} {v : Value} : MF y Z (sF Z k y v) := ⟨rfl, rfl, fun b hb => Eq1_sF (by omega)⟩
theorem MF.sI {y : Nat} {Z : Zt} {k i : Nat} {v : Int32} (hk : k < 41) (ht : 20 ≤ mT k) : MF y Z (sI Z (y + mA k) i v) := by
  refine ⟨rfl, rfl, fun b hb => ⟨rfl, rfl, ?_, rfl, rfl, fun _ => rfl⟩⟩
  have := mA_b k hk ht
  rw [zI_sI, if_neg (by omega)]
theorem MF.sJ {y : Nat} {Z : Zt} {k i : Nat} {v : Int64} (hk : k < 41) (ht : 20 ≤ mT k) : MF y Z (sJ Z (y + mA k) i v) := by
  refine ⟨rfl, rfl, fun b hb => ⟨rfl, rfl, rfl, ?_, rfl, fun _ => rfl⟩⟩
  have := mA_b k hk ht
  rw [zJ_sJ, if_neg (by omega)]
section QModel
variable {l : Launch} {G : Gt} {Y : Yt} {B : Bt} {M : Mt} {Z : Zt} {cells slots : Nat} {Q : State → Prop} {pc : Nat} {ls : List (Option Value)} {st : List Value} {y : Nat} {σ e : St}
theorem m_iald {i : Int32} (k n : Nat) (hM : MR Z y σ e) (hd : decode Y.2.1 pc = .ok (.iaload, 1)) (hk : k < 41) (ht : mT k = 20) (hx : xt k = false) (hi : i = nI n) (hn : n < mL k) (kk : Jd l G Y B M Z cells slots Q (pc + 1) ls (.int (σ.1 k n) :: st)) : Jd l G Y B M Z cells slots Q pc ls (.int i :: .ref (y + mA k) :: st) := by
  subst hi
  have h1 := hM.2.1 k hk (by omega)
  have h2 := (hM.2.2.1 k hk (by omega) n hn).1 (by omega)
  have b := mL_b k hk
  refine q_iald hd (by rw [h1.2.1, ht]) (by rw [h1.2.2]; exact vp_in_nI hn b) ?_
  rw [nI_clamp (by omega), h2, mx_1 hx]
  exact kk
theorem m_ialdx {i : Int32} (k n : Nat) (hM : MR Z y σ e) (hd : decode Y.2.1 pc = .ok (.iaload, 1)) (hk : k < 41) (ht : mT k = 20) (hx : xt k = true) (hi : i = nI n) (hn : n < mL k) (kk : Jd l G Y B M Z cells slots Q (pc + 1) ls (.int (e.1 k n) :: st)) : Jd l G Y B M Z cells slots Q pc ls (.int i :: .ref (y + mA k) :: st) := by
  subst hi
  have h1 := hM.2.1 k hk (by omega)
  have h2 := (hM.2.2.1 k hk (by omega) n hn).1 (by omega)
  have b := mL_b k hk
  refine q_iald hd (by rw [h1.2.1, ht]) (by rw [h1.2.2]; exact vp_in_nI hn b) ?_
  rw [nI_clamp (by omega), h2, mx_1x hx]
  exact kk
theorem m_zald {i : Int32} (k n : Nat) (hM : MR Z y σ e) (hd : decode Y.2.1 pc = .ok (.baload, 1)) (hk : k < 41) (ht : mT k = 22) (hx : xt k = false) (hi : i = nI n) (hn : n < mL k) (kk : Jd l G Y B M Z cells slots Q (pc + 1) ls (.int (σ.1 k n) :: st)) : Jd l G Y B M Z cells slots Q pc ls (.int i :: .ref (y + mA k) :: st) := by
  subst hi
  have h1 := hM.2.1 k hk (by omega)
  have h2 := (hM.2.2.1 k hk (by omega) n hn).1 (by omega)
  have b := mL_b k hk
  refine q_zald hd (by rw [h1.2.1, ht]) (by rw [h1.2.2]; exact vp_in_nI hn b) ?_
  rw [nI_clamp (by omega), h2, mx_1 hx]
  exact kk
theorem m_lald {i : Int32} (k n : Nat) (hM : MR Z y σ e) (hd : decode Y.2.1 pc = .ok (.laload, 1)) (hk : k < 41) (ht : mT k = 21) (hx : xt k = false) (hi : i = nI n) (hn : n < mL k) (kk : Jd l G Y B M Z cells slots Q (pc + 1) ls (.long (σ.2 k n) :: st)) : Jd l G Y B M Z cells slots Q pc ls (.int i :: .ref (y + mA k) :: st) := by
  subst hi
  have h1 := hM.2.1 k hk (by omega)
  have h2 := (hM.2.2.1 k hk (by omega) n hn).2 ht
  have b := mL_b k hk
  refine q_lald hd (by rw [h1.2.1, ht]) (by rw [h1.2.2]; exact vp_in_nI hn b) ?_
  rw [nI_clamp (by omega), h2, mx_2 hx]
  exact kk
theorem m_laldx {i : Int32} (k n : Nat) (hM : MR Z y σ e) (hd : decode Y.2.1 pc = .ok (.laload, 1)) (hk : k < 41) (ht : mT k = 21) (hx : xt k = true) (hi : i = nI n) (hn : n < mL k) (kk : Jd l G Y B M Z cells slots Q (pc + 1) ls (.long (e.2 k n) :: st)) : Jd l G Y B M Z cells slots Q pc ls (.int i :: .ref (y + mA k) :: st) := by
  subst hi
  have h1 := hM.2.1 k hk (by omega)
  have h2 := (hM.2.2.1 k hk (by omega) n hn).2 ht
  have b := mL_b k hk
  refine q_lald hd (by rw [h1.2.1, ht]) (by rw [h1.2.2]; exact vp_in_nI hn b) ?_
  rw [nI_clamp (by omega), h2, mx_2x hx]
  exact kk
theorem m_iast {i v : Int32} (k n : Nat) (hM : MR Z y σ e) (hd : decode Y.2.1 pc = .ok (.iastore, 1)) (hk : k < 41) (ht : mT k = 20) (hx : xt k = false) (hi : i = nI n) (hn : n < mL k) (kk : ∀ Z1, MR Z1 y (pI σ k n v) e → MF y Z Z1 → Jd l G Y B M Z1 cells slots Q (pc + 1) ls st) : Jd l G Y B M Z cells slots Q pc ls (.int v :: .int i :: .ref (y + mA k) :: st) := by
  subst hi
  have h1 := hM.2.1 k hk (by omega)
  have b := mL_b k hk
  refine q_iast hd (by rw [h1.2.1, ht]) (by rw [h1.2.2]; exact vp_in_nI hn b) ?_
  rw [nI_clamp (by omega)]
  exact kk _ (by unfold MR; rw [mx_pI hx]; exact M0.sI hM hk (by omega) (by omega)) (MF.sI hk (by omega))
theorem m_iastx {i v : Int32} (k n : Nat) (hM : MR Z y σ e) (hd : decode Y.2.1 pc = .ok (.iastore, 1)) (hk : k < 41) (ht : mT k = 20) (hx : xt k = true) (hi : i = nI n) (hn : n < mL k) (kk : ∀ Z1, MR Z1 y σ (pI e k n v) → MF y Z Z1 → Jd l G Y B M Z1 cells slots Q (pc + 1) ls st) : Jd l G Y B M Z cells slots Q pc ls (.int v :: .int i :: .ref (y + mA k) :: st) := by
  subst hi
  have h1 := hM.2.1 k hk (by omega)
  have b := mL_b k hk
  refine q_iast hd (by rw [h1.2.1, ht]) (by rw [h1.2.2]; exact vp_in_nI hn b) ?_
  rw [nI_clamp (by omega)]
  exact kk _ (by unfold MR; rw [mx_pIx hx]; exact M0.sI hM hk (by omega) (by omega)) (MF.sI hk (by omega))
theorem m_zast {i v : Int32} (k n : Nat) (hM : MR Z y σ e) (hd : decode Y.2.1 pc = .ok (.bastore, 1)) (hk : k < 41) (ht : mT k = 22) (hx : xt k = false) (hi : i = nI n) (hn : n < mL k) (hv : vp_nar .boolean v = v) (kk : ∀ Z1, MR Z1 y (pI σ k n v) e → MF y Z Z1 → Jd l G Y B M Z1 cells slots Q (pc + 1) ls st) : Jd l G Y B M Z cells slots Q pc ls (.int v :: .int i :: .ref (y + mA k) :: st) := by
  subst hi
  have h1 := hM.2.1 k hk (by omega)
  have b := mL_b k hk
  refine q_zast hd (by rw [h1.2.1, ht]) (by rw [h1.2.2]; exact vp_in_nI hn b) hv ?_
  rw [nI_clamp (by omega)]
  exact kk _ (by unfold MR; rw [mx_pI hx]; exact M0.sI hM hk (by omega) (by omega)) (MF.sI hk (by omega))
theorem m_last {i : Int32} {v : Int64} (k n : Nat) (hM : MR Z y σ e) (hd : decode Y.2.1 pc = .ok (.lastore, 1)) (hk : k < 41) (ht : mT k = 21) (hx : xt k = false) (hi : i = nI n) (hn : n < mL k) (kk : ∀ Z1, MR Z1 y (pJ σ k n v) e → MF y Z Z1 → Jd l G Y B M Z1 cells slots Q (pc + 1) ls st) : Jd l G Y B M Z cells slots Q pc ls (.long v :: .int i :: .ref (y + mA k) :: st) := by
  subst hi
  have h1 := hM.2.1 k hk (by omega)
  have b := mL_b k hk
  refine q_last hd (by rw [h1.2.1, ht]) (by rw [h1.2.2]; exact vp_in_nI hn b) ?_
  rw [nI_clamp (by omega)]
  exact kk _ (by unfold MR; rw [mx_pJ hx]; exact M0.sJ hM hk ht) (MF.sJ hk (by omega))
theorem m_lastx {i : Int32} {v : Int64} (k n : Nat) (hM : MR Z y σ e) (hd : decode Y.2.1 pc = .ok (.lastore, 1)) (hk : k < 41) (ht : mT k = 21) (hx : xt k = true) (hi : i = nI n) (hn : n < mL k) (kk : ∀ Z1, MR Z1 y σ (pJ e k n v) → MF y Z Z1 → Jd l G Y B M Z1 cells slots Q (pc + 1) ls st) : Jd l G Y B M Z cells slots Q pc ls (.long v :: .int i :: .ref (y + mA k) :: st) := by
  subst hi
  have h1 := hM.2.1 k hk (by omega)
  have b := mL_b k hk
  refine q_last hd (by rw [h1.2.1, ht]) (by rw [h1.2.2]; exact vp_in_nI hn b) ?_
  rw [nI_clamp (by omega)]
  exact kk _ (by unfold MR; rw [mx_pJx hx]; exact M0.sJ hM hk ht) (MF.sJ hk (by omega))
theorem m_puti {j : Nat} {v : Int32} (k : Nat) (hM : MR Z y σ e) (hd : decode Y.2.1 pc = .ok (.putfield j, 3)) (hw : fOK Y.1.cls j 11 k) (hf : (vwCl[11]?).map (fun q => (q.2.1 k).2.2.2) = some false) (hk : k < 41) (ht : mT k = 0) (hx : xt k = false) (hn : narrow (tyTab 11 k) (.int v) = .int v) (hfit : fits (tyTab 11 k) (.int v) = true) (kk : ∀ Z1, MR Z1 y (pI σ k 0 v) e → MF y Z Z1 → Jd l G Y B M Z1 cells slots Q (pc + 3) ls st) : Jd l G Y B M Z cells slots Q pc ls (.int v :: .ref y :: st) :=
  q_putf hd hw hf hM.K hn hfit (kk _ (by unfold MR; rw [mx_pI hx]; exact M0.sFi hM hk ht) MF.sF)
theorem m_putx {j : Nat} {v : Int32} (k : Nat) (hM : MR Z y σ e) (hd : decode Y.2.1 pc = .ok (.putfield j, 3)) (hw : fOK Y.1.cls j 11 k) (hf : (vwCl[11]?).map (fun q => (q.2.1 k).2.2.2) = some false) (hk : k < 41) (ht : mT k = 0) (hx : xt k = true) (hn : narrow (tyTab 11 k) (.int v) = .int v) (hfit : fits (tyTab 11 k) (.int v) = true) (kk : ∀ Z1, MR Z1 y σ (pI e k 0 v) → MF y Z Z1 → Jd l G Y B M Z1 cells slots Q (pc + 3) ls st) : Jd l G Y B M Z cells slots Q pc ls (.int v :: .ref y :: st) :=
  q_putf hd hw hf hM.K hn hfit (kk _ (by unfold MR; rw [mx_pIx hx]; exact M0.sFi hM hk ht) MF.sF)
theorem m_putj {j : Nat} {v : Int64} (k : Nat) (hM : MR Z y σ e) (hd : decode Y.2.1 pc = .ok (.putfield j, 3)) (hw : fOK Y.1.cls j 11 k) (hf : (vwCl[11]?).map (fun q => (q.2.1 k).2.2.2) = some false) (hk : k < 41) (ht : mT k = 1) (hx : xt k = false) (hn : narrow (tyTab 11 k) (.long v) = .long v) (hfit : fits (tyTab 11 k) (.long v) = true) (kk : ∀ Z1, MR Z1 y (pJ σ k 0 v) e → MF y Z Z1 → Jd l G Y B M Z1 cells slots Q (pc + 3) ls st) : Jd l G Y B M Z cells slots Q pc ls (.long v :: .ref y :: st) :=
  q_putf hd hw hf hM.K hn hfit (kk _ (by unfold MR; rw [mx_pJ hx]; exact M0.sFj hM hk ht) MF.sF)
end QModel
