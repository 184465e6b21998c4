/-! THE STATE that class and reference share: whole numbers by the reference's slots (ints, longs) -/
abbrev St : Type := (Nat → Nat → Int32) × (Nat → Nat → Int64)
def pI (σ : St) (k i : Nat) (v : Int32) : St := (fun k' i' => if k' = k ∧ i' = i then v else σ.1 k' i', σ.2)
def pJ (σ : St) (k i : Nat) (v : Int64) : St := (σ.1, fun k' i' => if k' = k ∧ i' = i then v else σ.2 k' i')
theorem pI_1 (σ : St) (k i : Nat) (v : Int32) (k' i' : Nat) : (pI σ k i v).1 k' i' = if k' = k ∧ i' = i then v else σ.1 k' i' := rfl
theorem pI_2 (σ : St) (k i : Nat) (v : Int32) : (pI σ k i v).2 = σ.2 := rfl
theorem pI_ne {σ : St} {k i : Nat} {v : Int32} {k' : Nat} (h : k' ≠ k) : (pI σ k i v).1 k' = σ.1 k' := by
  funext i'
  rw [pI_1, if_neg (fun z => h z.1)]
theorem pI_at (σ : St) (k i : Nat) (v : Int32) : (pI σ k i v).1 k i = v := by rw [pI_1, if_pos ⟨rfl, rfl⟩]
theorem pJ_2 (σ : St) (k i : Nat) (v : Int64) (k' i' : Nat) : (pJ σ k i v).2 k' i' = if k' = k ∧ i' = i then v else σ.2 k' i' := rfl
theorem pJ_1 (σ : St) (k i : Nat) (v : Int64) : (pJ σ k i v).1 = σ.1 := rfl
theorem pJ_ne {σ : St} {k i : Nat} {v : Int64} {k' : Nat} (h : k' ≠ k) : (pJ σ k i v).2 k' = σ.2 k' := by
  funext i'
  rw [pJ_2, if_neg (fun z => h z.1)]
/-- a failure comes up -/
def failS (σ : St) (e nm : Int32) : Int32 × St := if 20 ≤ σ.1 15 0 then (-18, σ) else (-10 - e, pI (pI σ 15 0 (σ.1 15 0 + 1)) 14 0 nm)
def outS (σ : St) (nm : Int32) (w : Int32 ⊕ Int32) : Int32 × St := match w with
  | .inl e => failS σ e nm
  | .inr x => (x, σ)
def sfW (wt skd cn : Int32) (pj v : Int64) (it : Nat → Int64) (c : Int64) : Int32 ⊕ Int32 :=
  if skd = 0 then .inl 1 else if skd = wt then (if wt = 3 then .inr (if c ≤ pj then 0 else 1) else if ¬ c < 0 ∧ ¬ cn.toInt64 ≤ c ∧ ¬ 12 ≤ c then .inr (if it c.toInt32.toNatClampNeg ≤ v then 0 else 1) else .inl 2) else .inl 5
theorem sfV_W (wt skd cn pt : Int32) (v : Int64) (it : Nat → Int64) (c : Int64) : sfV wt skd cn pt v it c = sfW wt skd cn pt.toInt64 v it c := rfl
theorem sfW_congr {wt skd cn : Int32} {pj pj' v : Int64} {it it' : Nat → Int64} {c : Int64} (h1 : skd = 3 → pj = pj') (h2 : ∀ i, i < 12 → it i = it' i) : sfW wt skd cn pj v it c = sfW wt skd cn pj' v it' c := by
  unfold sfW
  by_cases h : skd = 0
  · rw [if_pos h, if_pos h]
  · rw [if_neg h, if_neg h]
    by_cases hw : skd = wt
    · rw [if_pos hw, if_pos hw]
      by_cases h3 : wt = 3
      · rw [if_pos h3, if_pos h3, h1 (hw.trans h3)]
      · rw [if_neg h3, if_neg h3]
        by_cases hc : ¬ c < 0 ∧ ¬ cn.toInt64 ≤ c ∧ ¬ 12 ≤ c
        · rw [if_pos hc, if_pos hc]
          obtain ⟨-, e1, e2⟩ := in12L hc.1 hc.2.2
          rw [e1, h2 _ e2]
        · rw [if_neg hc, if_neg hc]
    · rw [if_neg hw, if_neg hw]
def tkP (nb th : Int32) : Prop := if nb = 0 then th = 1 ∨ th = 2 else if nb = 1 then th = 2 else True
/-- the item of a box's filter -/
def pl3 (v : Int64) : Int32 := if (v - v / 3 * 3).toInt32 < 0 then -(v - v / 3 * 3).toInt32 else (v - v / 3 * 3).toInt32
/-- a made filter's own step behind its first one's verdict -/
def made2 (k r1 : Int32) : Prop := (k = 8 ∧ r1 = 1) ∨ (k = 9 ∧ r1 = 0) ∨ (k = 10 ∧ ¬ 0 ≤ r1 ∧ ¬ r1 = -18)
def madeR (k r1 : Int32) : Int32 := if k = 7 ∧ 0 ≤ r1 then 1 - r1 else r1
/-- a filter is asked: the verdict, and what has changed -/
noncomputable def jS : Nat → Nat → Int64 → St → Int32 × St
  | 0, _, _, σ => (0, σ)
  | n + 1, f, c, σ =>
    if σ.1 7 f = 3 ∨ σ.1 7 f = 12 then outS σ (nI f) (sfW (if σ.1 7 f = 3 then 1 else 3) (σ.1 1 (σ.1 8 f).toNatClampNeg) (σ.1 2 (σ.1 8 f).toNatClampNeg) (σ.2 3 (σ.1 8 f).toNatClampNeg) (σ.2 10 f) (fun i => σ.2 4 (12 * (σ.1 8 f).toNatClampNeg + i)) c)
    else if σ.1 7 f = 5 then @ite _ (tkP (σ.1 8 f) (thF c)) (Classical.propDecidable _) (1, pI σ 5 (3 * (σ.1 8 f).toNatClampNeg + (pl3 (σ.2 10 f)).toNatClampNeg) (thF c)) (failS σ 4 (nI f))
    else if 7 ≤ σ.1 7 f ∧ σ.1 7 f ≤ 11 then
      @ite _ (made2 (σ.1 7 f) (jS n (σ.1 8 f).toNatClampNeg c (if σ.1 7 f = 11 then pI σ 12 f (σ.1 12 f + 1) else σ)).1) (Classical.propDecidable _)
        (jS n (σ.1 9 f).toNatClampNeg c (jS n (σ.1 8 f).toNatClampNeg c (if σ.1 7 f = 11 then pI σ 12 f (σ.1 12 f + 1) else σ)).2)
        (madeR (σ.1 7 f) (jS n (σ.1 8 f).toNatClampNeg c (if σ.1 7 f = 11 then pI σ 12 f (σ.1 12 f + 1) else σ)).1, (jS n (σ.1 8 f).toNatClampNeg c (if σ.1 7 f = 11 then pI σ 12 f (σ.1 12 f + 1) else σ)).2)
    else outS σ (nI f) (nfV (σ.1 7 f) (σ.1 8 f) (σ.2 10 f) c)
/-- nothing but boxes, asked, where, failures changes -/
def kp4 (σ τ : St) : Prop := (∀ k, k ≠ 5 → k ≠ 12 → k ≠ 14 → k ≠ 15 → τ.1 k = σ.1 k) ∧ τ.2 = σ.2
theorem kp4.rf (σ : St) : kp4 σ σ := ⟨fun _ _ _ _ _ => rfl, rfl⟩
theorem kp4.tr {σ τ υ : St} (h : kp4 σ τ) (k : kp4 τ υ) : kp4 σ υ := ⟨fun a b c d e => (k.1 a b c d e).trans (h.1 a b c d e), k.2.trans h.2⟩
theorem kp4_fail (σ : St) (e nm : Int32) : kp4 σ (failS σ e nm).2 := by
  unfold failS
  split
  · exact kp4.rf σ
  · exact ⟨fun k h1 h2 h3 h4 => by show (pI _ 14 0 nm).1 k = _; rw [pI_ne h3, pI_ne h4], rfl⟩
theorem kp4_out (σ : St) (nm : Int32) (w : Int32 ⊕ Int32) : kp4 σ (outS σ nm w).2 := by
  cases w with
  | inl e => exact kp4_fail σ e nm
  | inr x => exact kp4.rf σ
theorem kp4_jS : ∀ (n f : Nat) (c : Int64) (σ : St), kp4 σ (jS n f c σ).2
  | 0, f, c, σ => kp4.rf σ
  | n + 1, f, c, σ => by
    rw [jS]
    have h0 : kp4 σ (if σ.1 7 f = 11 then pI σ 12 f (σ.1 12 f + 1) else σ) := by
      split
      · exact ⟨fun k h1 h2 h3 h4 => pI_ne h2, rfl⟩
      · exact kp4.rf σ
    by_cases h1 : σ.1 7 f = 3 ∨ σ.1 7 f = 12
    · rw [if_pos h1]; exact kp4_out _ _ _
    · rw [if_neg h1]
      by_cases h2 : σ.1 7 f = 5
      · rw [if_pos h2]
        by_cases h3 : tkP (σ.1 8 f) (thF c)
        · rw [if_pos h3]; exact ⟨fun k h1 h2 h3 h4 => pI_ne h1, rfl⟩
        · rw [if_neg h3]; exact kp4_fail _ _ _
      · rw [if_neg h2]
        by_cases h3 : 7 ≤ σ.1 7 f ∧ σ.1 7 f ≤ 11
        · rw [if_pos h3]
          have h4 := h0.tr (kp4_jS n (σ.1 8 f).toNatClampNeg c _)
          by_cases h5 : made2 (σ.1 7 f) (jS n (σ.1 8 f).toNatClampNeg c (if σ.1 7 f = 11 then pI σ 12 f (σ.1 12 f + 1) else σ)).1
          · rw [if_pos h5]; exact h4.tr (kp4_jS n _ c _)
          · rw [if_neg h5]; exact h4
        · rw [if_neg h3]; exact kp4_out _ _ _
