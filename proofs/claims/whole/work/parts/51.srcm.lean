theorem derived_new {Z : Zt} {x nf ns a s1 d0 : Nat} {σ : St} {af as as' : Nat → Nat} {so t fa nn : Int32} {v F S C : Int64} (ha : as' ns = a) (hag : ∀ g, g < ns → as' g = as g) (hx : x + 61 ≤ a) (hK : zK Z a = 8) (hso : 2 ≤ so ∧ so ≤ 8) (h0 : zF Z 0 a = .int so) (hd1 : 1 ≤ d0) (hd6 : d0 ≤ 6) (h1 : zF Z 1 a = .int (nI d0)) (h2 : zF Z 2 a = .null) (hs1 : s1 < ns) (h4 : zF Z 4 a = .ref (as s1)) (hds : sdp σ s1 < d0)
    (ht : so ≤ 4 → ∃ t1, t1 < ns ∧ t = nI t1 ∧ zF Z 5 a = .ref (as t1) ∧ sdp σ t1 < d0) (htn : ¬ so ≤ 4 → zF Z 5 a = .null) (h6 : so = 6 → ∃ m, m ≤ 200 ∧ nn = nI m) (h8 : so = 8 → ∃ m, 1 ≤ m ∧ m ≤ 200 ∧ nn = nI m) (h7 : so = 7 → ∃ fi, fi < nf ∧ fa = nI fi ∧ zF Z 6 a = .ref (af fi)) (hn : zF Z 7 a = .int nn) (hv : zF Z 8 a = .long v) :
    sO0 Z x (addS σ ns so (nI s1) t fa nn (nI d0) 0 v F S C) as' ns ∧ sO1 Z x (addS σ ns so (nI s1) t fa nn (nI d0) 0 v F S C) as' ns ∧ sO2 Z x (addS σ ns so (nI s1) t fa nn (nI d0) 0 v F S C) as' ns ∧ sO3 Z (addS σ ns so (nI s1) t fa nn (nI d0) 0 v F S C) af as' nf ns := by
  subst ha
  have dn : sdp (addS σ ns so (nI s1) t fa nn (nI d0) 0 v F S C) ns = d0 := by unfold sdp; rw [addS_23, nI_clamp (by omega)]
  have dg : ∀ g, g < ns → sdp (addS σ ns so (nI s1) t fa nn (nI d0) 0 v F S C) g = sdp σ g := fun g hg => by unfold sdp; rw [addS_1, if_neg (by omega), if_neg (by omega)]
  refine ⟨⟨hx, hK, by rw [addS_17]; exact h0, ⟨d0, hd6, hd1, by rw [addS_23], h1⟩, Or.inl (by rw [addS_24])⟩, fun z => ?_, fun _ => ⟨h2, Or.inr (Or.inr (by rw [addS_17]; exact hso)), fun z => ?_, fun z => ?_⟩, fun _ _ => ?_⟩
  · rw [addS_24] at z; exact absurd z (by decide)
  · rw [addS_17] at z; rw [z] at hso; exact absurd hso (by decide)
  · rw [addS_17] at z; rw [z] at hso; exact absurd hso (by decide)
  · rw [addS_17, addS_18, addS_19, addS_20, addS_21, addS_22, dn]
    refine ⟨⟨s1, hs1, rfl, by rw [hag s1 hs1]; exact h4, by rw [dg s1 hs1]; exact hds⟩, fun z => ?_, fun z => htn (fun y => z ⟨hso.1, y⟩), fun z => ?_, fun z => ?_, fun z => h7 z⟩
    · obtain ⟨t1, a1, a2, a3, a4⟩ := ht z.2
      exact ⟨t1, a1, a2, by rw [hag t1 a1]; exact a3, by rw [dg t1 a1]; exact a4⟩
    · obtain ⟨m, m1, m2⟩ := h6 z
      exact ⟨hv, m, m1, m2, by rw [← m2]; exact hn⟩
    · obtain ⟨m, m0, m1, m2⟩ := h8 z
      exact ⟨m, m0, m1, m2, by rw [← m2]; exact hn⟩
/-- the constructor's heap: the new source at zN Z, perhaps a stretch behind it -/
def srZ (Z : Zt) (so dp : Int32) : Zt := sF (sF (nO Z 8 (fun k => defaultValue (tyTab 7 k))) 0 (zN Z) (.int so)) 1 (zN Z) (.int dp)
theorem srZ_N (Z : Zt) (so dp : Int32) : zN (srZ Z so dp) = zN Z + 1 := by unfold srZ; rw [zN_sF, zN_sF, zN_nO]
theorem srZ_K (Z : Zt) (so dp : Int32) {b : Nat} (hb : b ≠ zN Z) : zK (srZ Z so dp) b = zK Z b := by unfold srZ; rw [zK_sF, zK_sF, zK_nO hb]
theorem srZ_K' (Z : Zt) (so dp : Int32) : zK (srZ Z so dp) (zN Z) = 8 := by unfold srZ; rw [zK_sF, zK_sF]; exact zK_nO'
theorem srZ_F (Z : Zt) (so dp : Int32) {k b : Nat} (hb : b ≠ zN Z) : zF (srZ Z so dp) k b = zF Z k b := by unfold srZ; rw [zF_sF, if_neg (fun z => hb z.2), zF_sF, if_neg (fun z => hb z.2), zF_nO hb]
theorem srZ_F0 (Z : Zt) (so dp : Int32) : zF (srZ Z so dp) 0 (zN Z) = .int so := by unfold srZ; rw [zF_sF, if_neg (by omega), zF_sF, if_pos ⟨rfl, rfl⟩]
theorem srZ_F1 (Z : Zt) (so dp : Int32) : zF (srZ Z so dp) 1 (zN Z) = .int dp := by unfold srZ; rw [zF_sF, if_pos ⟨rfl, rfl⟩]
theorem srZ_Fr (Z : Zt) (so dp : Int32) : Fr (zN Z) Z (srZ Z so dp) := by
  unfold srZ
  exact ((Fr_nO (Nat.le_refl _)).tr (Fr_sF (Nat.le_refl _))).tr (Fr_sF (Nat.le_refl _))
theorem nSt_Fr {n : Nat} {Z : Zt} {f s c : Int64} {d : Int32} (h : n ≤ zN Z) : Fr n Z (nSt Z f s d c) := by
  unfold nSt
  exact (Fr_nO h).tr (Fr_sSt h)
theorem nSt_F {Z : Zt} {f s c : Int64} {d : Int32} {k b : Nat} (hb : b ≠ zN Z) : zF (nSt Z f s d c) k b = zF Z k b := by
  unfold nSt
  rw [zF_sSt, if_neg (fun z => hb z.2), if_neg (fun z => hb z.2), if_neg (fun z => hb z.2), if_neg (fun z => hb z.2), zF_nO hb]
theorem nSt_K {Z : Zt} {f s c : Int64} {d : Int32} {b : Nat} (hb : b ≠ zN Z) : zK (nSt Z f s d c) b = zK Z b := by
  unfold nSt
  rw [zK_sSt, zK_nO hb]
theorem nSt_st {Z : Zt} {f s c : Int64} {d : Int32} : zK (nSt Z f s d c) (zN Z) = 9 ∧ zF (nSt Z f s d c) 0 (zN Z) = .long f ∧ zF (nSt Z f s d c) 1 (zN Z) = .long s ∧ zF (nSt Z f s d c) 2 (zN Z) = .int d ∧ zF (nSt Z f s d c) 3 (zN Z) = .long c := by
  unfold nSt
  refine ⟨by rw [zK_sSt]; exact zK_nO', ?_, ?_, ?_, ?_⟩
  · rw [zF_sSt, if_neg (by omega), if_neg (by omega), if_neg (by omega), if_pos ⟨rfl, rfl⟩]
  · rw [zF_sSt, if_neg (by omega), if_neg (by omega), if_pos ⟨rfl, rfl⟩]
  · rw [zF_sSt, if_neg (by omega), if_pos ⟨rfl, rfl⟩]
  · rw [zF_sSt, if_pos ⟨rfl, rfl⟩]
theorem sSr_F {Z : Zt} {a : Nat} {v2 v3 v4 v5 v6 v7 v8 : Value} {k b : Nat} (hb : b ≠ a ∨ k < 2) : zF (sSr Z a v2 v3 v4 v5 v6 v7 v8) k b = zF Z k b := by
  rw [zF_sSr, if_neg (by omega), if_neg (by omega), if_neg (by omega), if_neg (by omega), if_neg (by omega), if_neg (by omega), if_neg (by omega)]
theorem sSr_all {Z : Zt} {a : Nat} {v2 v3 v4 v5 v6 v7 v8 : Value} : zF (sSr Z a v2 v3 v4 v5 v6 v7 v8) 2 a = v2 ∧ zF (sSr Z a v2 v3 v4 v5 v6 v7 v8) 4 a = v4 ∧ zF (sSr Z a v2 v3 v4 v5 v6 v7 v8) 5 a = v5 ∧ zF (sSr Z a v2 v3 v4 v5 v6 v7 v8) 6 a = v6 ∧ zF (sSr Z a v2 v3 v4 v5 v6 v7 v8) 7 a = v7 ∧ zF (sSr Z a v2 v3 v4 v5 v6 v7 v8) 8 a = v8 := by
  refine ⟨?_, ?_, ?_, ?_, ?_, ?_⟩
  · rw [zF_sSr, if_neg (by omega), if_neg (by omega), if_neg (by omega), if_neg (by omega), if_neg (by omega), if_neg (by omega), if_pos ⟨rfl, rfl⟩]
  · rw [zF_sSr, if_neg (by omega), if_neg (by omega), if_neg (by omega), if_neg (by omega), if_pos ⟨rfl, rfl⟩]
  · rw [zF_sSr, if_neg (by omega), if_neg (by omega), if_neg (by omega), if_pos ⟨rfl, rfl⟩]
  · rw [zF_sSr, if_neg (by omega), if_neg (by omega), if_pos ⟨rfl, rfl⟩]
  · rw [zF_sSr, if_neg (by omega), if_pos ⟨rfl, rfl⟩]
  · rw [zF_sSr, if_pos ⟨rfl, rfl⟩]
/-- what the constructor leaves, however plainOver went -/
theorem sr_facts {Z Zp Z1 : Zt} {so dp : Int32} {v2 v3 v4 v5 v6 v7 v8 : Value} (hp : Zp = srZ Z so dp ∨ ∃ f s d c, Zp = nSt (srZ Z so dp) f s d c) (h1 : Z1 = sSr Zp (zN Z) v2 v3 v4 v5 v6 v7 v8) : Fr (zN Z) Z Z1 ∧ zK Z1 (zN Z) = 8 ∧ zF Z1 0 (zN Z) = .int so ∧ zF Z1 1 (zN Z) = .int dp ∧ zF Z1 2 (zN Z) = v2 ∧ zF Z1 4 (zN Z) = v4 ∧ zF Z1 5 (zN Z) = v5 ∧ zF Z1 6 (zN Z) = v6 ∧ zF Z1 7 (zN Z) = v7 ∧ zF Z1 8 (zN Z) = v8 := by
  have A := @sSr_all Zp (zN Z) v2 v3 v4 v5 v6 v7 v8
  rw [← h1] at A
  have hne : zN Z ≠ zN (srZ Z so dp) := by rw [srZ_N]; omega
  refine ⟨?_, ?_, ?_, ?_, A⟩
  · rw [h1]
    refine Fr.tr ?_ (Fr_sSr (Nat.le_refl _))
    rcases hp with rfl | ⟨f, s, d, c, rfl⟩
    · exact srZ_Fr Z so dp
    · exact (srZ_Fr Z so dp).tr (nSt_Fr (by rw [srZ_N]; omega))
  · rw [h1, zK_sSr]
    rcases hp with rfl | ⟨f, s, d, c, rfl⟩
    · exact srZ_K' Z so dp
    · rw [nSt_K hne]; exact srZ_K' Z so dp
  · rw [h1, sSr_F (Or.inr (by omega))]
    rcases hp with rfl | ⟨f, s, d, c, rfl⟩
    · exact srZ_F0 Z so dp
    · rw [nSt_F hne]; exact srZ_F0 Z so dp
  · rw [h1, sSr_F (Or.inr (by omega))]
    rcases hp with rfl | ⟨f, s, d, c, rfl⟩
    · exact srZ_F1 Z so dp
    · rw [nSt_F hne]; exact srZ_F1 Z so dp
/-- a stretch turned round -/
theorem turn_wf {f st c : Int64} {d : Int32} (hd : d = 0 ∨ d = 1) (h1 : ¬ c < 1) (h0 : ¬ c < 0) (hw : wfSt f st d c) : wfSt (stAt f st d (c - 1)) st (if d = 0 then 1 else 0) c := by
  intro h2
  obtain ⟨w1, w2, w3⟩ := hw h2
  have ec : uN (c - 1) = uN c - 1 := by
    have := uN_lt c
    rw [uN_sub, show uN 1 = 1 from rfl]; omega
  have bf : -9223372036854775808 ≤ f.toInt ∧ f.toInt < 9223372036854775808 := by
    have := uN_lt f
    rw [uN_int]
    split <;> omega
  have ef : ((uN f : Int) - f.toInt) % 18446744073709551616 = 0 := by
    rw [uN_int f]
    split <;> omega
  have em : uN ((c - 1) * st) = ((uN c - 1) * uN st) % 18446744073709551616 := by rw [uN_mul, ec]
  generalize (uN c - 1) * uN st = T at *
  refine ⟨w1, ?_⟩
  rcases hd with rfl | rfl
  · have a := w2 rfl
    rw [if_pos rfl]
    refine ⟨fun z => absurd z (by decide), fun _ => ?_⟩
    have e : (stAt f st 0 (c - 1)).toInt = f.toInt + T := by
      unfold stAt
      rw [if_pos rfl]
      refine uN_toI ?_ (by omega) (by omega)
      rw [uN_add, em]
      omega
    rw [e]; omega
  · have a := w3 rfl
    rw [if_neg (by decide)]
    refine ⟨fun _ => ?_, fun z => absurd z (by decide)⟩
    have e : (stAt f st 1 (c - 1)).toInt = f.toInt - T := by
      unfold stAt
      rw [if_neg (by decide)]
      refine uN_toI ?_ (by omega) (by omega)
      have := uN_lt f
      rw [uN_sub, em]
      omega
    rw [e]; omega
/-- every n-th of a stretch -/
theorem every_wf {f st c : Int64} {d : Int32} {m : Nat} (hd : d = 0 ∨ d = 1) (h1 : ¬ c < 1) (h0 : ¬ c < 0) (hm : 1 ≤ m ∧ m ≤ 200) (hw : wfSt f st d c) : ¬ (c - 1) / (nI m).toInt64 + 1 < 0 ∧ wfSt f (st * (nI m).toInt64) d ((c - 1) / (nI m).toInt64 + 1) := by
  have em : uN (nI m).toInt64 = m := by
    have a : (nI m).toInt64.toInt = m := by rw [Int32.toInt_toInt64]; exact toInt_of rfl (by omega)
    have b := uN_int (nI m).toInt64
    have := uN_lt (nI m).toInt64
    rw [a] at b
    split at b <;> omega
  have hm0 : ¬ (nI m).toInt64 < 0 := by rw [uN_neg_iff, em]; omega
  obtain ⟨c1, c2⟩ := uN_pos h0
  have hc1 : 1 ≤ uN c := by
    have : ¬ c.toInt < (1 : Int64).toInt := fun z => h1 (Int64.lt_iff_toInt_lt.mpr z)
    have i1 : (1 : Int64).toInt = 1 := by decide
    omega
  have ec : uN (c - 1) = uN c - 1 := by rw [uN_sub, show uN 1 = 1 from rfl]; omega
  have hcn : ¬ c - 1 < 0 := by rw [uN_neg_iff, ec]; omega
  have eq : uN ((c - 1) / (nI m).toInt64) = (uN c - 1) / m := by rw [uN_div hcn hm0, ec, em]
  have lq : (uN c - 1) / m ≤ uN c - 1 := Nat.div_le_self _ _
  have eq1 : uN ((c - 1) / (nI m).toInt64 + 1) = (uN c - 1) / m + 1 := by rw [uN_add, eq, show uN 1 = 1 from rfl]; omega
  refine ⟨by rw [uN_neg_iff, eq1]; omega, fun h2 => ?_⟩
  rw [eq1] at h2 ⊢
  have hq : 1 ≤ (uN c - 1) / m := by omega
  have hcm : m ≤ uN c - 1 := Classical.byContradiction fun z => by rw [Nat.div_eq_of_lt (by omega)] at hq; omega
  obtain ⟨w1, w2, w3⟩ := hw (by omega)
  have bf : -9223372036854775808 ≤ f.toInt ∧ f.toInt < 9223372036854775808 := by
    have := uN_lt f
    rw [uN_int]
    split <;> omega
  have big : (uN c - 1) * uN st < 18446744073709551616 := by
    rcases hd with rfl | rfl
    · have := w2 rfl; omega
    · have := w3 rfl; omega
  have small : uN st * m ≤ (uN c - 1) * uN st := by rw [Nat.mul_comm]; exact Nat.mul_le_mul_right _ hcm
  have es : uN (st * (nI m).toInt64) = uN st * m := by rw [uN_mul, em]; exact Nat.mod_eq_of_lt (by omega)
  have all : ((uN c - 1) / m + 1 - 1) * uN (st * (nI m).toInt64) ≤ (uN c - 1) * uN st := by
    rw [es, Nat.add_sub_cancel, Nat.mul_comm (uN st) m, ← Nat.mul_assoc]
    exact Nat.mul_le_mul_right _ (Nat.div_mul_le_self _ _)
  refine ⟨by rw [es]; exact Nat.mul_pos w1 hm.1, fun e => ?_, fun e => ?_⟩
  · have := w2 e; omega
  · have := w3 e; omega
