theorem tm3 (a : Int) : -3 < a.tmod 3 ∧ a.tmod 3 < 3 ∧ a.tmod 3 + 3 * a.tdiv 3 = a ∧ (0 ≤ a → 0 ≤ a.tmod 3) ∧ (a ≤ 0 → a.tmod 3 ≤ 0) := by
  have a6 : -3 < a.tmod 3 ∧ a.tmod 3 < 3 := tmod_bounds (by omega)
  refine ⟨a6.1, a6.2, Int.tmod_add_mul_tdiv a 3, fun h => Int.tmod_nonneg 3 h, fun h => ?_⟩
  have h1 : 0 ≤ (-a).tmod 3 := Int.tmod_nonneg 3 (by omega)
  rw [Int.neg_tmod] at h1
  omega
theorem rem3 (v : Int64) : (v - v / 3 * 3).toInt = v.toInt.tmod 3 := by
  have a1 := v.le_toInt
  have a2 := v.toInt_lt
  obtain ⟨t1, t2, t3, t4, t5⟩ := tm3 v.toInt
  have h1 : (v / 3).toInt = v.toInt.tdiv 3 := by
    rw [Int64.toInt_div, show (3 : Int64).toInt = 3 from rfl]
    rw [Int.bmod_eq_of_le (by omega) (by omega)]
  rw [Int64.toInt_sub, Int64.toInt_mul, h1, show (3 : Int64).toInt = 3 from rfl]
  rw [Int.bmod_eq_of_le (n := v.toInt.tdiv 3 * 3) (by omega) (by omega), Int.bmod_eq_of_le (by omega) (by omega)]
  omega
theorem rem3_32 (v : Int64) : (v - v / 3 * 3).toInt32.toInt = v.toInt.tmod 3 := by
  have a6 : -3 < v.toInt.tmod 3 ∧ v.toInt.tmod 3 < 3 := tmod_bounds (by omega)
  rw [Int64.toInt_toInt32, rem3, Int.bmod_eq_of_le (by omega) (by omega)]
theorem pl3_ok (v : Int64) : ∃ i, i < 3 ∧ pl3 v = nI i := by
  have a6 : -3 < v.toInt.tmod 3 ∧ v.toInt.tmod 3 < 3 := tmod_bounds (by omega)
  have h := rem3_32 v
  unfold pl3
  by_cases hc : (v - v / 3 * 3).toInt32 < 0
  · rw [if_pos hc]
    have h2 : (v - v / 3 * 3).toInt32.toInt < 0 := by simpa using Int32.lt_iff_toInt_lt.mp hc
    refine ⟨(-(v.toInt.tmod 3)).toNat, by omega, Int32.toInt_inj.mp ?_⟩
    rw [Int32.toInt_neg, h, Int.bmod_eq_of_le (by omega) (by omega), nI_toInt (by omega)]
    omega
  · rw [if_neg hc]
    have h2 : 0 ≤ (v - v / 3 * 3).toInt32.toInt := by simpa using Int32.le_iff_toInt_le.mp (Int32.not_lt.mp hc)
    refine ⟨(v.toInt.tmod 3).toNat, by omega, Int32.toInt_inj.mp ?_⟩
    rw [h, nI_toInt (by omega)]
    omega
/-- A FILTER IS ASKED, whichever it is -/
theorem cj (l : Launch) (G : Gt) (x nf : Nat) (af : Nat → Nat) : ∀ (n f : Nat) (c : Int64) (Z : Zt) (σ : St), f < nf → dpt σ f ≤ n → FIs Z x σ af nf → JC l G (n + 3, 0, 0) Z (af f) [.long c, .ref (x + 5)] (jPost x σ af nf n f c Z) := by
  intro n
  induction n with
  | zero =>
    intro f c Z σ hf hd hF
    obtain ⟨-, -, d, h1, h2, h3, -⟩ := (hF.2.2.2.2.2.2 f hf).1.1
    unfold dpt at hd
    rw [h3, nI_clamp (by omega)] at hd
    omega
  | succ n ih =>
    intro f c Z σ hf hd hF
    obtain ⟨ho, ho5⟩ := hF.2.2.2.2.2.2 f hf
    obtain ⟨⟨haf, hnm, -⟩, hsh, hbx, hmd, hnb⟩ := ho
    obtain ⟨hC, hS, hB, hT, -⟩ := id hF
    have hKt := hC.2.2.1.1
    by_cases c1 : σ.1 7 f = 3 ∨ σ.1 7 f = 12
    · obtain ⟨hK, s, hs, h8, f2, f3, f4⟩ := hsh c1
      obtain ⟨-, e2, e3, e4, e5⟩ := hC.2.2.2.2.1 s hs
      obtain ⟨s1, s2, ⟨pt, s3, s4⟩, s5, s6⟩ := hS s hs
      refine Or.inl ⟨hK, (c_X7_judge_b l G Z (n + 2) (af f) (x + 5) (x + 12 + 2 * s) (x + 13 + 2 * s) (nI f) _ _ _ pt (σ.1 15 0) (σ.2 10 f) c hK hnm f2 f3 f4 e2 e3 s1 s2 s3 e4 e5 hKt hT.1).mono ?_⟩
      rintro v Z1 ⟨r, rfl, h⟩
      refine ⟨r, rfl, ?_⟩
      have hj : jS (n + 1) f c σ = outS σ (nI f) (sfV (if σ.1 7 f = 3 then 1 else 3) (σ.1 1 s) (σ.1 2 s) pt (σ.2 10 f) (zJ Z (x + 13 + 2 * s)) c) := by
        rw [jS, if_pos c1, h8, nI_clamp (by omega), sfV_W]
        congr 1
        exact sfW_congr (fun z => s4 z) (fun i hi => (s5 i hi).symm)
      rw [hj]
      exact FIs_out hF h
    · by_cases c2 : σ.1 7 f = 5
      · obtain ⟨hK, b, hb, h8, f2, f3⟩ := hbx c2
        obtain ⟨-, e2, e3, e4, e5, e6⟩ := hC.2.2.2.2.2 b hb
        obtain ⟨i, hi, hpi⟩ := pl3_ok (σ.2 10 f)
        rw [hpi] at f3
        refine Or.inr (Or.inl ⟨hK, (c_X1_judge_b l G Z (n + 2) (af f) (x + 5) (x + 24 + 2 * b) (x + 25 + 2 * b) (nI f) (nI b) (nI i) (σ.1 15 0) c hK hnm f2 f3 e2 e3 e4 e5 e6 (vp_in_nI hi (by decide)) (nI_pos (by omega)) (nI_ge (b := 3) hi (by decide)) hKt hT.1).mono ?_⟩)
        rintro v Z1 ⟨r, rfl, h⟩
        refine ⟨r, rfl, ?_⟩
        rw [jS, if_neg c1, if_pos c2, h8, hpi, nI_clamp (show b < 2 ^ 31 by omega), nI_clamp (show i < 2 ^ 31 by omega)]
        rw [nI_clamp (show i < 2 ^ 31 by omega)] at h
        by_cases ht : tkP (nI b) (thF c)
        · rw [if_pos ht]
          obtain ⟨rfl, rfl⟩ := h.1 ht
          exact ⟨rfl, FIs_box hF hb hi⟩
        · rw [if_neg ht]
          exact FIs_fail hF (h.2 ht)
      · by_cases c3 : 7 ≤ σ.1 7 f ∧ σ.1 7 f ≤ 11
        · obtain ⟨hK, f2, ⟨g, hg, h8, f3, hgd⟩, hm2, hm1⟩ := hmd c3
          obtain ⟨ta, h5, -⟩ := ho5.1 c3
          by_cases c4 : 8 ≤ σ.1 7 f ∧ σ.1 7 f ≤ 10
          · obtain ⟨h, hh, h9, f4, hhd⟩ := hm2 c4
            exact Or.inr (Or.inr (Or.inl ⟨hK, cj_made_two l G Z x n nf f g af σ c hF hf hd c3 ta h5 hg h8 f3 hgd ih h hh h9 f4 hhd c4⟩))
          · exact Or.inr (Or.inr (Or.inl ⟨hK, cj_made_one l G Z x n nf f g af σ c hF hf hd c3 ta h5 hg h8 f3 hgd ih (hm1 c4) c4⟩))
        · obtain ⟨hK, f2, f3, f4⟩ := hnb c1 c2 c3
          refine Or.inr (Or.inr (Or.inr ⟨hK, (c_X4_judge_b l G Z (n + 2) (af f) (x + 5) (nI f) (σ.1 7 f) (σ.1 8 f) (σ.1 15 0) (σ.2 10 f) c hK hnm f2 f3 f4 hKt hT.1).mono ?_⟩))
          rintro v Z1 ⟨r, rfl, h⟩
          refine ⟨r, rfl, ?_⟩
          rw [jS, if_neg c1, if_neg c2, if_neg c3]
          exact FIs_out hF h
