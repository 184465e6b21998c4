/-! numbers of a range: where one stands first -/
def fstP (g : Nat → Int64) (n : Nat) (v r : Int64) : Prop := (∃ i, i < n ∧ g i = v ∧ (∀ j, j < i → g j ≠ v) ∧ r = lN i) ∨ ((∀ j, j < n → g j ≠ v) ∧ r = -1)
theorem fstP_fun {g : Nat → Int64} {n : Nat} {v r r' : Int64} (h : fstP g n v r) (h' : fstP g n v r') : r = r' := by
  rcases h with ⟨i, a1, a2, a3, rfl⟩ | ⟨a1, rfl⟩
  · rcases h' with ⟨j, b1, b2, b3, rfl⟩ | ⟨b1, rfl⟩
    · have : i = j := by
        rcases Nat.lt_trichotomy i j with e | e | e
        · exact absurd a2 (b3 i e)
        · exact e
        · exact absurd b2 (a3 j e)
      rw [this]
    · exact absurd a2 (b1 i a1)
  · rcases h' with ⟨j, b1, b2, b3, rfl⟩ | ⟨b1, rfl⟩
    · exact absurd b2 (a1 j b1)
    · rfl
theorem fstP_congr {g g' : Nat → Int64} {n : Nat} {v r : Int64} (e : ∀ i, i < n → g i = g' i) (h : fstP g n v r) : fstP g' n v r := by
  rcases h with ⟨i, a1, a2, a3, rfl⟩ | ⟨a1, rfl⟩
  · exact Or.inl ⟨i, a1, by rw [← e i a1]; exact a2, fun j hj => by rw [← e j (by omega)]; exact a3 j hj, rfl⟩
  · exact Or.inr ⟨fun j hj => by rw [← e j hj]; exact a1 j hj, rfl⟩
theorem uN_toI {x : Int64} {V : Int} (h : (uN x : Int) % 18446744073709551616 = V % 18446744073709551616) (h1 : -9223372036854775808 ≤ V) (h2 : V < 9223372036854775808) : x.toInt = V := by
  have a := uN_lt x
  rw [uN_int]
  split <;> omega
theorem stAt_F {f st F S k : Int64} {d : Int32} (hd : d = 0 ∨ d = 1) (hF : f = F) (hS : S = if d = 0 then st else -st) : stAt f st d k = F + k * S := by
  subst hF
  unfold stAt
  rcases hd with rfl | rfl
  · rw [if_pos rfl] at hS ⊢; rw [hS]
  · rw [if_neg (by decide)] at hS ⊢
    rw [hS, Int64.mul_neg, ← Int64.sub_eq_add_neg]
theorem stAt_int {f st c : Int64} {d : Int32} (hd : d = 0 ∨ d = 1) (hw : wfSt f st d c) {i : Nat} (hi : i < uN c) : (stAt f st d (lN i)).toInt = if d = 0 then f.toInt + (i * uN st : Nat) else f.toInt - (i * uN st : Nat) := by
  have hc := uN_lt c
  have hf := uN_lt f
  have hfi := uN_int f
  have hlo : -9223372036854775808 ≤ f.toInt ∧ f.toInt < 9223372036854775808 := by rw [hfi]; split <;> omega
  have hfm : (uN f : Int) % 18446744073709551616 = f.toInt % 18446744073709551616 := by rw [hfi]; split <;> omega
  have hb : i = 0 ∨ 2 ≤ uN c := by omega
  have ht : 2 ≤ uN c → i * uN st ≤ (uN c - 1) * uN st := fun _ => Nat.mul_le_mul_right _ (by omega)
  unfold stAt
  rcases hd with rfl | rfl
  · rw [if_pos rfl, if_pos rfl]
    refine uN_toI ?_ ?_ ?_
    · rw [uN_add, uN_mul, uN_ofNat (by omega)]
      generalize i * uN st = t at *
      omega
    · omega
    · rcases hb with e | e
      · subst e; rw [Nat.zero_mul]; omega
      · have h1 := (hw e).2.1 rfl
        have h2 := ht e
        generalize i * uN st = t at *
        generalize (uN c - 1) * uN st = t' at *
        omega
  · rw [if_neg (by decide), if_neg (by decide)]
    refine uN_toI ?_ ?_ ?_
    · rw [uN_sub, uN_mul, uN_ofNat (by omega)]
      generalize i * uN st = t at *
      omega
    · rcases hb with e | e
      · subst e; rw [Nat.zero_mul]; omega
      · have h1 := (hw e).2.2 rfl
        have h2 := ht e
        generalize i * uN st = t at *
        generalize (uN c - 1) * uN st = t' at *
        omega
    · omega
theorem gpf_abs (f v : Int64) : (v ≤ f → (uN (gpf f v) : Int) = f.toInt - v.toInt) ∧ (f ≤ v → (uN (gpf f v) : Int) = v.toInt - f.toInt) := by
  have a1 := uN_lt f
  have a2 := uN_lt v
  have b1 := uN_int f
  have b2 := uN_int v
  unfold gpf
  refine ⟨fun h => ?_, fun h => ?_⟩
  · have h := Int64.le_iff_toInt_le.mp h
    rw [if_neg (fun z => by have := Int64.lt_iff_toInt_lt.mp z; omega), uN_sub]
    split at b1 <;> split at b2 <;> omega
  · have h := Int64.le_iff_toInt_le.mp h
    by_cases hl : f < v
    · rw [if_pos hl, uN_sub]
      split at b1 <;> split at b2 <;> omega
    · have h2 : ¬ f.toInt < v.toInt := fun z => hl (Int64.lt_iff_toInt_lt.mpr z)
      rw [if_neg hl, uN_sub]
      split at b1 <;> split at b2 <;> omega
theorem stIx_fst {f st c v : Int64} {d : Int32} (hd : d = 0 ∨ d = 1) (h0 : ¬ c < 0) (hw : wfSt f st d c) : fstP (fun i => stAt f st d (lN i)) (uN c) v (stIx f st d c v) := by
  obtain ⟨c1, c2⟩ := uN_pos h0
  have i1 : (1 : Int64).toInt = 1 := by decide
  have i0 : (0 : Int64).toInt = 0 := by decide
  have hit : ∀ i, i < uN c → (stAt f st d (lN i) = v ↔ (if d = 0 then v.toInt - f.toInt else f.toInt - v.toInt) = ((i * uN st : Nat) : Int)) := by
    intro i hi
    rw [← Int64.toInt_inj, stAt_int hd hw hi]
    rcases hd with rfl | rfl
    · rw [if_pos rfl, if_pos rfl]; omega
    · rw [if_neg (by decide), if_neg (by decide)]; omega
  unfold stIx
  by_cases hc : c < 1
  · rw [if_pos hc]
    have := Int64.lt_iff_toInt_lt.mp hc
    exact Or.inr ⟨fun j hj => by omega, rfl⟩
  rw [if_neg hc]
  have hc1 : 1 ≤ uN c := by
    have : ¬ c.toInt < (1 : Int64).toInt := fun z => hc (Int64.lt_iff_toInt_lt.mpr z)
    omega
  by_cases hs : (if d = 0 then f ≤ v else v ≤ f)
  · rw [if_pos hs]
    have hD : (if d = 0 then v.toInt - f.toInt else f.toInt - v.toInt) = (uN (gpf f v) : Int) := by
      rcases hd with rfl | rfl
      · rw [if_pos rfl] at hs ⊢; exact ((gpf_abs f v).2 hs).symm
      · rw [if_neg (by decide)] at hs ⊢; exact ((gpf_abs f v).1 hs).symm
    rw [hD] at hit
    have hv0 : v = f ↔ uN (gpf f v) = 0 := by
      rw [← Int64.toInt_inj]
      rcases hd with rfl | rfl
      · rw [if_pos rfl] at hD; omega
      · rw [if_neg (by decide)] at hD; omega
    have hR : uR (gpf f v) st = 0 ↔ uN (gpf f v) % uN st = 0 := by
      rw [← uN_uR]
      exact ⟨fun z => by rw [z]; rfl, fun z => uN_inj (by rw [z]; rfl)⟩
    have hQ : uN (uQ (gpf f v) st) = uN (gpf f v) / uN st := uN_uQ _ _
    generalize uN (gpf f v) = g at *
    by_cases hv : v = f
    · rw [if_pos hv]
      have := hv0.mp hv
      exact Or.inl ⟨0, hc1, (hit 0 hc1).mpr (by rw [this, Nat.zero_mul]), fun j hj => by omega, rfl⟩
    rw [if_neg hv]
    have hg : g ≠ 0 := fun z => hv (hv0.mpr z)
    by_cases h1 : c = 1
    · rw [if_pos h1]
      refine Or.inr ⟨fun j hj hh => ?_, rfl⟩
      have e := (hit j hj).mp hh
      have : uN c = 1 := by rw [h1]; rfl
      have : j = 0 := by omega
      rw [this, Nat.zero_mul] at e
      omega
    rw [if_neg h1]
    have hc2 : 2 ≤ uN c := by
      have : uN c ≠ 1 := fun z => h1 (uN_inj (by rw [z]; rfl))
      omega
    obtain ⟨hst, -, -⟩ := hw hc2
    rw [if_neg (fun z => by rw [z] at hst; exact absurd hst (by decide))]
    have hmul : ∀ j, g = j * uN st ↔ (g % uN st = 0 ∧ g / uN st = j) := by
      intro j
      refine ⟨fun z => ?_, fun z => ?_⟩
      · rw [z]; exact ⟨Nat.mul_mod_left _ _, Nat.mul_div_cancel _ hst⟩
      · have := Nat.div_add_mod g (uN st)
        rw [z.1, z.2, Nat.add_zero, Nat.mul_comm] at this
        exact this.symm
    have hit2 : ∀ i, i < uN c → (stAt f st d (lN i) = v ↔ (g % uN st = 0 ∧ g / uN st = i)) := fun i hi => (hit i hi).trans ⟨fun z => (hmul i).mp (by exact_mod_cast z), fun z => by exact_mod_cast (hmul i).mpr z⟩
    by_cases hr : uR (gpf f v) st = 0
    · rw [if_pos hr]
      have hr := hR.mp hr
      have hq0 : g / uN st ≠ 0 := fun z => hg (by have := (hmul 0).mpr ⟨hr, z⟩; omega)
      by_cases hq : uQ (gpf f v) st ≤ 0
      · rw [if_pos hq]
        refine Or.inr ⟨fun j hj hh => ?_, rfl⟩
        have e := ((hit2 j hj).mp hh).2
        have q1 := Int64.le_iff_toInt_le.mp hq
        rw [uN_int, hQ, i0] at q1
        split at q1 <;> omega
      · rw [if_neg hq]
        have q1 : ¬ (uQ (gpf f v) st).toInt ≤ (0 : Int64).toInt := fun z => hq (Int64.le_iff_toInt_le.mpr z)
        have q2 : (uQ (gpf f v) st).toInt = (g / uN st : Nat) ∧ g / uN st < 9223372036854775808 := by
          have hl := uN_lt (uQ (gpf f v) st)
          have h3 := uN_int (uQ (gpf f v) st)
          rw [hQ] at h3 hl
          split at h3 <;> omega
        by_cases hl : c ≤ uQ (gpf f v) st
        · rw [if_pos hl]
          refine Or.inr ⟨fun j hj hh => ?_, rfl⟩
          have e := ((hit2 j hj).mp hh).2
          have l1 := Int64.le_iff_toInt_le.mp hl
          omega
        · rw [if_neg hl]
          have l1 : ¬ c.toInt ≤ (uQ (gpf f v) st).toInt := fun z => hl (Int64.le_iff_toInt_le.mpr z)
          have hlt : g / uN st < uN c := by omega
          refine Or.inl ⟨g / uN st, hlt, (hit2 _ hlt).mpr ⟨hr, rfl⟩, fun j hj hh => ?_, uN_inj (by rw [hQ, uN_ofNat (by omega)])⟩
          have e := ((hit2 j (by omega)).mp hh).2
          omega
    · rw [if_neg hr]
      exact Or.inr ⟨fun j hj hh => hr (hR.mpr ((hit2 j hj).mp hh).1), rfl⟩
  · rw [if_neg hs]
    refine Or.inr ⟨fun j hj hh => ?_, rfl⟩
    have e := (hit j hj).mp hh
    rcases hd with rfl | rfl
    · rw [if_pos rfl] at hs e
      have : ¬ f.toInt ≤ v.toInt := fun z => hs (Int64.le_iff_toInt_le.mpr z)
      omega
    · rw [if_neg (by decide)] at hs e
      have : ¬ v.toInt ≤ f.toInt := fun z => hs (Int64.le_iff_toInt_le.mpr z)
      omega
