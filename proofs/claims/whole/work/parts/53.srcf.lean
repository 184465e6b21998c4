theorem c_pl_any (l : Launch) (G : Gt) (Z : Zt) (so n : Int32) (s : Nat) (hs : zK Z s = 8) (h2 : zF Z 2 s = .null ∨ ∃ q, zF Z 2 s = .ref q ∧ ¬ so = 5 ∧ ¬ so = 8) : Ct l G YX8_plainOver (3, 1, 4) Z [.int so, .ref s, .int n] (ΦA (fun r Z1 => r = none ∧ Z1 = Z)) := by
  rcases h2 with h2 | ⟨q, h2, h5, h8⟩
  · exact c_pl_rn l G Z so n s hs h2
  · exact c_pl_o l G Z so n s q hs h2 h5 h8
theorem fit_m {n : Int32} (h0 : ¬ n < 0) (h1 : n ≤ 200) : ∃ m, m ≤ 200 ∧ n = nI m := by
  obtain ⟨m, a, b⟩ := ix_of (k := n) (m := 201) (by decide) h0 (Int32.lt_of_le_of_lt h1 (by decide))
  exact ⟨m, by omega, b⟩
theorem fit_1 {n : Int32} (h0 : ¬ n < 1) (h1 : n ≤ 200) : ∃ m, 1 ≤ m ∧ m ≤ 200 ∧ n = nI m := by
  obtain ⟨m, a, b⟩ := fit_m (fun z => h0 (Int32.lt_of_lt_of_le z (by decide))) h1
  refine ⟨m, ?_, a, b⟩
  have e : m = 0 ∨ 1 ≤ m := by omega
  rcases e with rfl | e
  · exact absurd (by rw [b]; decide) h0
  · exact e
theorem CR.src {Z : Zt} {x nf ns : Nat} {af as : Nat → Nat} {σ : St} (h : CR Z x σ af as nf ns) {s : Nat} (hs : s < ns) : zK Z (as s) = 8 ∧ (∃ d, d ≤ 6 ∧ 1 ≤ d ∧ σ.1 23 s = nI d ∧ zF Z 1 (as s) = .int (nI d)) ∧ ((σ.1 24 s = 0 ∧ zF Z 2 (as s) = .null) ∨ (σ.1 24 s = 1 ∧ ∃ q, zF Z 2 (as s) = .ref q ∧ stG Z x q (σ.2 25 s) (σ.2 26 s) (σ.2 27 s))) := by
  obtain ⟨⟨a1, a2, a3, a4, a5⟩, b, c, -⟩ := h.2.1 s hs
  refine ⟨a2, a4, ?_⟩
  rcases a5 with e | e
  · exact Or.inl ⟨e, (c e).1⟩
  · obtain ⟨-, q, q1, q2⟩ := b e
    exact Or.inr ⟨e, q, q1, stO_G.mp q2⟩
set_option maxHeartbeats 600000 in
theorem np_one (l : Launch) (G : Gt) (Z : Zt) (x nf ns : Nat) (af as : Nat → Nat) (σ : St) (h : CR Z x σ af as nf ns) (so t a n : Int32) (v F S C : Int64) (s1 : Nat) (hs1 : s1 < ns) (d1 : Nat) (hd6 : d1 ≤ 6) (he1 : σ.1 23 s1 = nI d1) (f1d : zF Z 1 (as s1) = .int (nI d1)) (hso : 2 ≤ so ∧ so ≤ 8) (hfit : (if so = 6 then ¬ n < 0 ∧ n ≤ 200 else if so = 8 then ¬ n < 1 ∧ n ≤ 200 else True)) (h4 : ¬ so ≤ 4) (h7 : ¬ so = 7) (hp : zF Z 2 (as s1) = .null ∨ ∃ q, zF Z 2 (as s1) = .ref q ∧ ¬ so = 5 ∧ ¬ so = 8) : ∃ Θ, Ct l G YX8_init_ (4, 1, 4) (nO Z 8 (fun k => defaultValue (tyTab 7 k))) [.ref (zN Z), .int so, .ref (as s1), .null, .null, .null, .int n, .long v] (ΦV Θ) ∧ ∀ Z1, Θ Z1 → Fr (zN Z) Z Z1 ∧ zK Z1 (zN Z) = 8 ∧ zF Z1 1 (zN Z) = .int (nI (d1 + 1)) ∧ ((nI (d1 + 1)) ≤ 6 → sO0 Z1 x (addS σ ns so (nI s1) t a n (nI (d1 + 1)) 0 v F S C) (fun s => if s = ns then zN Z else as s) ns ∧ sO1 Z1 x (addS σ ns so (nI s1) t a n (nI (d1 + 1)) 0 v F S C) (fun s => if s = ns then zN Z else as s) ns ∧ sO2 Z1 x (addS σ ns so (nI s1) t a n (nI (d1 + 1)) 0 v F S C) (fun s => if s = ns then zN Z else as s) ns ∧ sO3 Z1 (addS σ ns so (nI s1) t a n (nI (d1 + 1)) 0 v F S C) af (fun s => if s = ns then zN Z else as s) nf ns) := by
  obtain ⟨k1, -, pl⟩ := h.src hs1
  have an : as s1 ≠ zN Z := Nat.ne_of_lt (h.asN hs1)
  have hN := h.2.2.2.2.2.2
  have hs20 := h.2.2.2.2.1.2.2.2.1
  have hD := c_dep_rn l G (sF (nO Z 8 (fun k => defaultValue (tyTab 7 k))) 0 (zN Z) (.int so)) (as s1) (nI d1) (by rw [zK_sF, zK_nO an]; exact k1) (by rw [zF_sF, if_neg (fun z => an z.2), zF_nO an]; exact f1d)
  rw [md_one hd6] at hD
  have hdl : d1 < (d1 + 1) := by omega
  have hd7 : (d1 + 1) ≤ 7 := by omega
  generalize (d1 + 1) = dd at hD hdl hd7 ⊢
  refine ⟨_, c_init_one l G _ (zN Z) (as s1) so n (nI dd) v zK_nO' _ hD (c_pl_any l G (srZ Z so (nI dd)) so n (as s1) (by rw [srZ_K Z so _ an]; exact k1) (by rw [srZ_F Z so _ an]; exact hp)) (fun r Z1 hh => by rw [hh.2]; exact srZ_K' Z so _), fun Z1 hz => ?_⟩
  obtain ⟨rq, Zp, ⟨hrq, hZp⟩, hz⟩ := hz
  subst hrq
  obtain ⟨gF, gK, g0, g1, g2, g4, g5, g6, g7, g8⟩ := sr_facts (Or.inl hZp) hz
  refine ⟨gF, gK, g1, fun h6 => ?_⟩
  exact derived_new (as := as) (if_pos rfl) (fun g hg => if_neg (by omega)) hN gK hso g0 (by omega) (six_of hd7 h6) g1 g2 hs1 g4 (by unfold sdp; rw [he1, nI_clamp (by omega)]; exact hdl) (fun z => absurd z h4) (fun _ => g5) (fun z => by rw [if_pos z] at hfit; exact fit_m hfit.1 hfit.2) (fun z => by rw [if_neg (by rw [z]; decide), if_pos z] at hfit; exact fit_1 hfit.1 hfit.2) (fun z => absurd z h7) g7 g8
set_option maxHeartbeats 600000 in
theorem np_two (l : Launch) (G : Gt) (Z : Zt) (x nf ns : Nat) (af as : Nat → Nat) (σ : St) (h : CR Z x σ af as nf ns) (so t a n : Int32) (v F S C : Int64) (s1 : Nat) (hs1 : s1 < ns) (t1 : Nat) (ht1 : t1 < ns) (d1 : Nat) (hd6 : d1 ≤ 6) (he1 : σ.1 23 s1 = nI d1) (f1d : zF Z 1 (as s1) = .int (nI d1)) (d2 : Nat) (he6 : d2 ≤ 6) (he2 : σ.1 23 t1 = nI d2) (f2d : zF Z 1 (as t1) = .int (nI d2)) (hso : 2 ≤ so ∧ so ≤ 8) (hfit : (if so = 6 then ¬ n < 0 ∧ n ≤ 200 else if so = 8 then ¬ n < 1 ∧ n ≤ 200 else True)) (h4 : so ≤ 4) : ∃ Θ, Ct l G YX8_init_ (4, 1, 4) (nO Z 8 (fun k => defaultValue (tyTab 7 k))) [.ref (zN Z), .int so, .ref (as s1), .ref (as t1), .null, .null, .int n, .long v] (ΦV Θ) ∧ ∀ Z1, Θ Z1 → Fr (zN Z) Z Z1 ∧ zK Z1 (zN Z) = 8 ∧ zF Z1 1 (zN Z) = .int (nI (if d1 < d2 then d2 + 1 else d1 + 1)) ∧ ((nI (if d1 < d2 then d2 + 1 else d1 + 1)) ≤ 6 → sO0 Z1 x (addS σ ns so (nI s1) (nI t1) a n (nI (if d1 < d2 then d2 + 1 else d1 + 1)) 0 v F S C) (fun s => if s = ns then zN Z else as s) ns ∧ sO1 Z1 x (addS σ ns so (nI s1) (nI t1) a n (nI (if d1 < d2 then d2 + 1 else d1 + 1)) 0 v F S C) (fun s => if s = ns then zN Z else as s) ns ∧ sO2 Z1 x (addS σ ns so (nI s1) (nI t1) a n (nI (if d1 < d2 then d2 + 1 else d1 + 1)) 0 v F S C) (fun s => if s = ns then zN Z else as s) ns ∧ sO3 Z1 (addS σ ns so (nI s1) (nI t1) a n (nI (if d1 < d2 then d2 + 1 else d1 + 1)) 0 v F S C) af (fun s => if s = ns then zN Z else as s) nf ns) := by
  obtain ⟨k1, -, pl⟩ := h.src hs1
  have an : as s1 ≠ zN Z := Nat.ne_of_lt (h.asN hs1)
  have hN := h.2.2.2.2.2.2
  have hs20 := h.2.2.2.2.1.2.2.2.1
  obtain ⟨k2, -, -⟩ := h.src ht1
  have at' : as t1 ≠ zN Z := Nat.ne_of_lt (h.asN ht1)
  have hpl : zF Z 2 (as s1) = .null ∨ ∃ q, zF Z 2 (as s1) = .ref q ∧ ¬ so = 5 ∧ ¬ so = 8 := by
    rcases pl with ⟨-, e⟩ | ⟨-, q, e, -⟩
    · exact Or.inl e
    · exact Or.inr ⟨q, e, (fun e => by rw [e] at h4; exact absurd h4 (by decide)) , (fun e => by rw [e] at h4; exact absurd h4 (by decide))⟩
  have hD := c_dep_rr l G (sF (nO Z 8 (fun k => defaultValue (tyTab 7 k))) 0 (zN Z) (.int so)) (as s1) (as t1) (nI d1) (nI d2) (by rw [zK_sF, zK_nO an]; exact k1) (by rw [zF_sF, if_neg (fun z => an z.2), zF_nO an]; exact f1d) (by rw [zK_sF, zK_nO at']; exact k2) (by rw [zF_sF, if_neg (fun z => at' z.2), zF_nO at']; exact f2d)
  rw [md_two hd6 he6] at hD
  have hdl : d1 < (if d1 < d2 then d2 + 1 else d1 + 1) := by split <;> omega
  have hd7 : (if d1 < d2 then d2 + 1 else d1 + 1) ≤ 7 := by split <;> omega
  have hdl2 : d2 < (if d1 < d2 then d2 + 1 else d1 + 1) := by split <;> omega
  generalize (if d1 < d2 then d2 + 1 else d1 + 1) = dd at hD hdl hd7 hdl2 ⊢
  refine ⟨_, c_init_two l G _ (zN Z) (as s1) (as t1) so n (nI dd) v zK_nO' _ hD (c_pl_any l G (srZ Z so (nI dd)) so n (as s1) (by rw [srZ_K Z so _ an]; exact k1) (by rw [srZ_F Z so _ an]; exact hpl)) (fun r Z1 hh => by rw [hh.2]; exact srZ_K' Z so _), fun Z1 hz => ?_⟩
  obtain ⟨rq, Zp, ⟨hrq, hZp⟩, hz⟩ := hz
  subst hrq
  obtain ⟨gF, gK, g0, g1, g2, g4, g5, g6, g7, g8⟩ := sr_facts (Or.inl hZp) hz
  refine ⟨gF, gK, g1, fun h6 => ?_⟩
  exact derived_new (as := as) (if_pos rfl) (fun g hg => if_neg (by omega)) hN gK hso g0 (by omega) (six_of hd7 h6) g1 g2 hs1 g4 (by unfold sdp; rw [he1, nI_clamp (by omega)]; exact hdl) (fun _ => ⟨t1, ht1, rfl, g5, by unfold sdp; rw [he2, nI_clamp (by omega)]; exact hdl2⟩) (fun z => absurd h4 z) (fun z => by rw [if_pos z] at hfit; exact fit_m hfit.1 hfit.2) (fun z => by rw [if_neg (by rw [z]; decide), if_pos z] at hfit; exact fit_1 hfit.1 hfit.2) (fun z => by rw [z] at h4; exact absurd h4 (by decide)) g7 g8
set_option maxHeartbeats 600000 in
theorem np_pass (l : Launch) (G : Gt) (Z : Zt) (x nf ns : Nat) (af as : Nat → Nat) (σ : St) (h : CR Z x σ af as nf ns) (so t a n : Int32) (v F S C : Int64) (s1 : Nat) (hs1 : s1 < ns) (f1 : Nat) (hf1 : f1 < nf) (d1 : Nat) (hd6 : d1 ≤ 6) (he1 : σ.1 23 s1 = nI d1) (f1d : zF Z 1 (as s1) = .int (nI d1)) (hso : 2 ≤ so ∧ so ≤ 8) (hfit : (if so = 6 then ¬ n < 0 ∧ n ≤ 200 else if so = 8 then ¬ n < 1 ∧ n ≤ 200 else True)) (h7 : so = 7) : ∃ Θ, Ct l G YX8_init_ (4, 1, 4) (nO Z 8 (fun k => defaultValue (tyTab 7 k))) [.ref (zN Z), .int so, .ref (as s1), .null, .ref (af f1), .null, .int n, .long v] (ΦV Θ) ∧ ∀ Z1, Θ Z1 → Fr (zN Z) Z Z1 ∧ zK Z1 (zN Z) = 8 ∧ zF Z1 1 (zN Z) = .int (nI (d1 + 1)) ∧ ((nI (d1 + 1)) ≤ 6 → sO0 Z1 x (addS σ ns so (nI s1) t (nI f1) n (nI (d1 + 1)) 0 v F S C) (fun s => if s = ns then zN Z else as s) ns ∧ sO1 Z1 x (addS σ ns so (nI s1) t (nI f1) n (nI (d1 + 1)) 0 v F S C) (fun s => if s = ns then zN Z else as s) ns ∧ sO2 Z1 x (addS σ ns so (nI s1) t (nI f1) n (nI (d1 + 1)) 0 v F S C) (fun s => if s = ns then zN Z else as s) ns ∧ sO3 Z1 (addS σ ns so (nI s1) t (nI f1) n (nI (d1 + 1)) 0 v F S C) af (fun s => if s = ns then zN Z else as s) nf ns) := by
  obtain ⟨k1, -, pl⟩ := h.src hs1
  have an : as s1 ≠ zN Z := Nat.ne_of_lt (h.asN hs1)
  have hN := h.2.2.2.2.2.2
  have hs20 := h.2.2.2.2.1.2.2.2.1
  have hpl : zF Z 2 (as s1) = .null ∨ ∃ q, zF Z 2 (as s1) = .ref q ∧ ¬ so = 5 ∧ ¬ so = 8 := by
    rcases pl with ⟨-, e⟩ | ⟨-, q, e, -⟩
    · exact Or.inl e
    · exact Or.inr ⟨q, e, (fun e => by rw [e] at h7; exact absurd h7 (by decide)), (fun e => by rw [e] at h7; exact absurd h7 (by decide))⟩
  have hD := c_dep_rn l G (sF (nO Z 8 (fun k => defaultValue (tyTab 7 k))) 0 (zN Z) (.int so)) (as s1) (nI d1) (by rw [zK_sF, zK_nO an]; exact k1) (by rw [zF_sF, if_neg (fun z => an z.2), zF_nO an]; exact f1d)
  rw [md_one hd6] at hD
  have hdl : d1 < (d1 + 1) := by omega
  have hd7 : (d1 + 1) ≤ 7 := by omega
  generalize (d1 + 1) = dd at hD hdl hd7 ⊢
  refine ⟨_, c_init_pass l G _ (zN Z) (as s1) (af f1) so n (nI dd) v zK_nO' _ hD (c_pl_any l G (srZ Z so (nI dd)) so n (as s1) (by rw [srZ_K Z so _ an]; exact k1) (by rw [srZ_F Z so _ an]; exact hpl)) (fun r Z1 hh => by rw [hh.2]; exact srZ_K' Z so _), fun Z1 hz => ?_⟩
  obtain ⟨rq, Zp, ⟨hrq, hZp⟩, hz⟩ := hz
  subst hrq
  obtain ⟨gF, gK, g0, g1, g2, g4, g5, g6, g7, g8⟩ := sr_facts (Or.inl hZp) hz
  refine ⟨gF, gK, g1, fun h6 => ?_⟩
  exact derived_new (as := as) (if_pos rfl) (fun g hg => if_neg (by omega)) hN gK hso g0 (by omega) (six_of hd7 h6) g1 g2 hs1 g4 (by unfold sdp; rw [he1, nI_clamp (by omega)]; exact hdl) (fun z => by rw [h7] at z; exact absurd z (by decide)) (fun _ => g5) (fun z => by rw [if_pos z] at hfit; exact fit_m hfit.1 hfit.2) (fun z => by rw [if_neg (by rw [z]; decide), if_pos z] at hfit; exact fit_1 hfit.1 hfit.2) (fun _ => ⟨f1, hf1, rfl, g6⟩) g7 g8
theorem z_of {c : Int64} (h0 : ¬ c < 0) (h1 : c < 1) : c = 0 := by
  have a : ¬ c.toInt < (0 : Int64).toInt := fun z => h0 (Int64.lt_iff_toInt_lt.mpr z)
  have b := Int64.lt_iff_toInt_lt.mp h1
  have i0 : (0 : Int64).toInt = 0 := by decide
  have i1 : (1 : Int64).toInt = 1 := by decide
  exact Int64.toInt_inj.mp (by omega)
set_option maxHeartbeats 600000 in
theorem pl_5 (l : Launch) (G : Gt) (Z : Zt) (x nf ns : Nat) (af as : Nat → Nat) (σ : St) (h : CR Z x σ af as nf ns) (t a n : Int32) (v : Int64) (s1 q : Nat) (hs1 : s1 < ns) (d1 : Nat) (hd6 : d1 ≤ 6) (f1d : zF Z 1 (as s1) = .int (nI d1)) (hq : zF Z 2 (as s1) = .ref q) (hst : stG Z x q (σ.2 25 s1) (σ.2 26 s1) (σ.2 27 s1)) : ∃ Θ, Ct l G YX8_init_ (4, 1, 4) (nO Z 8 (fun k => defaultValue (tyTab 7 k))) [.ref (zN Z), .int 5, .ref (as s1), .null, .null, .null, .int n, .long v] (ΦV Θ) ∧ ∀ Z1, Θ Z1 → Fr (zN Z) Z Z1 ∧ zK Z1 (zN Z) = 8 ∧ zF Z1 1 (zN Z) = .int (nI (d1 + 1)) ∧ ((nI (d1 + 1)) ≤ 6 → sO0 Z1 x (addS σ ns 5 (nI s1) t a n (nI (d1 + 1)) 1 v (σ.2 25 s1 + (if σ.2 27 s1 = 0 then 0 else (σ.2 27 s1 - 1) * σ.2 26 s1)) (-σ.2 26 s1) (σ.2 27 s1)) (fun s => if s = ns then zN Z else as s) ns ∧ sO1 Z1 x (addS σ ns 5 (nI s1) t a n (nI (d1 + 1)) 1 v (σ.2 25 s1 + (if σ.2 27 s1 = 0 then 0 else (σ.2 27 s1 - 1) * σ.2 26 s1)) (-σ.2 26 s1) (σ.2 27 s1)) (fun s => if s = ns then zN Z else as s) ns ∧ sO2 Z1 x (addS σ ns 5 (nI s1) t a n (nI (d1 + 1)) 1 v (σ.2 25 s1 + (if σ.2 27 s1 = 0 then 0 else (σ.2 27 s1 - 1) * σ.2 26 s1)) (-σ.2 26 s1) (σ.2 27 s1)) (fun s => if s = ns then zN Z else as s) ns ∧ sO3 Z1 (addS σ ns 5 (nI s1) t a n (nI (d1 + 1)) 1 v (σ.2 25 s1 + (if σ.2 27 s1 = 0 then 0 else (σ.2 27 s1 - 1) * σ.2 26 s1)) (-σ.2 26 s1) (σ.2 27 s1)) af (fun s => if s = ns then zN Z else as s) nf ns) := by
  obtain ⟨k1, -, -⟩ := h.src hs1
  have an : as s1 ≠ zN Z := Nat.ne_of_lt (h.asN hs1)
  have hN := h.2.2.2.2.2.2
  have hs20 := h.2.2.2.2.1.2.2.2.1
  obtain ⟨q0, qK, f, st, c, d, e0, e1, e2, e3, hd, eC, hc0, eFS, hw⟩ := hst
  have hqN : q < zN Z := h.2.2.2.2.2.1.lt (by rw [qK]; decide)
  have qn : q ≠ zN Z := Nat.ne_of_lt hqN
  have hD := c_dep_rn l G (sF (nO Z 8 (fun k => defaultValue (tyTab 7 k))) 0 (zN Z) (.int 5)) (as s1) (nI d1) (by rw [zK_sF, zK_nO an]; exact k1) (by rw [zF_sF, if_neg (fun z => an z.2), zF_nO an]; exact f1d)
  rw [md_one hd6] at hD
  refine ⟨_, c_init_one l G _ (zN Z) (as s1) 5 n (nI (d1 + 1)) v zK_nO' _ hD (c_pl_5 l G (srZ Z 5 (nI (d1 + 1))) n (as s1) q (by rw [srZ_K Z 5 _ an]; exact k1) (by rw [srZ_F Z 5 _ an]; exact hq) f st c d (by rw [srZ_K Z 5 _ qn]; exact qK) (by rw [srZ_F Z 5 _ qn]; exact e0) (by rw [srZ_F Z 5 _ qn]; exact e1) (by rw [srZ_F Z 5 _ qn]; exact e2) (by rw [srZ_F Z 5 _ qn]; exact e3) (by rw [srZ_N]; omega) hd) (fun r Z1 hh => ?_), fun Z1 hz => ?_⟩
  · by_cases hc1 : c < 1
    · rw [(hh.1 hc1).2]; exact srZ_K' Z 5 _
    · rw [(hh.2 hc1).2, nSt_K (by rw [srZ_N]; omega)]; exact srZ_K' Z 5 _
  obtain ⟨rq, Zp, hr, hz⟩ := hz
  by_cases hc1 : c < 1
  · obtain ⟨rfl, hZp⟩ := hr.1 hc1
    obtain ⟨gF, gK, g0, g1, g2, g4, g5, g6, g7, g8⟩ := sr_facts (Or.inl hZp) hz
    refine ⟨gF, gK, g1, fun h6 => plain_new (if_pos rfl) hN gK (Or.inr (Or.inl rfl)) g0 (by omega) (six_of (by omega) h6) g1 g2 ?_⟩
    have E := gF.2.2 q hqN
    exact ⟨q0, by rw [E.1]; exact qK, f, st, c, d, by rw [E.2.2.2.2.2]; exact e0, by rw [E.2.2.2.2.2]; exact e1, by rw [E.2.2.2.2.2]; exact e2, by rw [E.2.2.2.2.2]; exact e3, hd, eC, hc0, fun z => absurd hc1 z, hw⟩
  · obtain ⟨rfl, hZp⟩ := hr.2 hc1
    obtain ⟨gF, gK, g0, g1, g2, g4, g5, g6, g7, g8⟩ := sr_facts (Or.inr ⟨_, _, _, _, hZp⟩) hz
    refine ⟨gF, gK, g1, fun h6 => plain_new (if_pos rfl) hN gK (Or.inr (Or.inl rfl)) g0 (by omega) (six_of (by omega) h6) g1 g2 ?_⟩
    have W := @nSt_st (srZ Z 5 (nI (d1 + 1))) (stAt f st d (c - 1)) st c (if d = 0 then 1 else 0)
    rw [← hZp] at W
    have nz : zN (srZ Z 5 (nI (d1 + 1))) ≠ zN Z := by rw [srZ_N]; omega
    have KZ : zK Z1 (zN (srZ Z 5 (nI (d1 + 1)))) = 9 := by rw [hz, zK_sSr]; exact W.1
    have FZ : ∀ j, zF Z1 j (zN (srZ Z 5 (nI (d1 + 1)))) = zF Zp j (zN (srZ Z 5 (nI (d1 + 1)))) := fun j => by rw [hz, sSr_F (Or.inl nz)]
    refine ⟨by rw [srZ_N]; omega, KZ, _, _, _, _, by rw [FZ]; exact W.2.1, by rw [FZ]; exact W.2.2.1, by rw [FZ]; exact W.2.2.2.1, by rw [FZ]; exact W.2.2.2.2, (by rcases hd with rfl | rfl <;> decide), eC, hc0, fun _ => ?_, turn_wf hd hc1 hc0 hw⟩
    · obtain ⟨eF, eS⟩ := eFS hc1
      have hCn : ¬ σ.2 27 s1 = 0 := fun z => hc1 (by rw [eC, z]; decide)
      refine ⟨?_, ?_⟩
      · rw [if_neg hCn, stAt_F hd eF eS, eC]
      · rw [eS]
        rcases hd with rfl | rfl
        · rfl
        · rw [if_neg (by decide), if_pos (show (if (1 : Int32) = 0 then (1 : Int32) else 0) = 0 by decide), Int64.neg_neg]
set_option maxHeartbeats 600000 in
theorem pl_8 (l : Launch) (G : Gt) (Z : Zt) (x nf ns : Nat) (af as : Nat → Nat) (σ : St) (h : CR Z x σ af as nf ns) (t a n : Int32) (v : Int64) (s1 q : Nat) (hs1 : s1 < ns) (d1 : Nat) (hd6 : d1 ≤ 6) (f1d : zF Z 1 (as s1) = .int (nI d1)) (hq : zF Z 2 (as s1) = .ref q) (hst : stG Z x q (σ.2 25 s1) (σ.2 26 s1) (σ.2 27 s1)) (hfit : ¬ n < 1 ∧ n ≤ 200) : ∃ Θ, Ct l G YX8_init_ (4, 1, 4) (nO Z 8 (fun k => defaultValue (tyTab 7 k))) [.ref (zN Z), .int 8, .ref (as s1), .null, .null, .null, .int n, .long v] (ΦV Θ) ∧ ∀ Z1, Θ Z1 → Fr (zN Z) Z Z1 ∧ zK Z1 (zN Z) = 8 ∧ zF Z1 1 (zN Z) = .int (nI (d1 + 1)) ∧ ((nI (d1 + 1)) ≤ 6 → sO0 Z1 x (addS σ ns 8 (nI s1) t a n (nI (d1 + 1)) 1 v (σ.2 25 s1) (σ.2 26 s1 * n.toInt64) (if σ.2 27 s1 = 0 then 0 else (σ.2 27 s1 - 1) / n.toInt64 + 1)) (fun s => if s = ns then zN Z else as s) ns ∧ sO1 Z1 x (addS σ ns 8 (nI s1) t a n (nI (d1 + 1)) 1 v (σ.2 25 s1) (σ.2 26 s1 * n.toInt64) (if σ.2 27 s1 = 0 then 0 else (σ.2 27 s1 - 1) / n.toInt64 + 1)) (fun s => if s = ns then zN Z else as s) ns ∧ sO2 Z1 x (addS σ ns 8 (nI s1) t a n (nI (d1 + 1)) 1 v (σ.2 25 s1) (σ.2 26 s1 * n.toInt64) (if σ.2 27 s1 = 0 then 0 else (σ.2 27 s1 - 1) / n.toInt64 + 1)) (fun s => if s = ns then zN Z else as s) ns ∧ sO3 Z1 (addS σ ns 8 (nI s1) t a n (nI (d1 + 1)) 1 v (σ.2 25 s1) (σ.2 26 s1 * n.toInt64) (if σ.2 27 s1 = 0 then 0 else (σ.2 27 s1 - 1) / n.toInt64 + 1)) af (fun s => if s = ns then zN Z else as s) nf ns) := by
  obtain ⟨k1, -, -⟩ := h.src hs1
  have an : as s1 ≠ zN Z := Nat.ne_of_lt (h.asN hs1)
  have hN := h.2.2.2.2.2.2
  have hs20 := h.2.2.2.2.1.2.2.2.1
  obtain ⟨m, m0, m1, rfl⟩ := fit_1 hfit.1 hfit.2
  have h1n : 1 ≤ nI m := show nI 1 ≤ nI m from nI_le (by omega) (by omega)
  have hn0 : ¬ (nI m).toInt64 = 0 := fun z => by
    have a : (nI m).toInt64.toInt = m := by rw [Int32.toInt_toInt64]; exact toInt_of rfl (by omega)
    rw [z] at a
    have : (0 : Int64).toInt = 0 := by decide
    omega
  obtain ⟨q0, qK, f, st, c, d, e0, e1, e2, e3, hd, eC, hc0, eFS, hw⟩ := hst
  have hqN : q < zN Z := h.2.2.2.2.2.1.lt (by rw [qK]; decide)
  have qn : q ≠ zN Z := Nat.ne_of_lt hqN
  have hD := c_dep_rn l G (sF (nO Z 8 (fun k => defaultValue (tyTab 7 k))) 0 (zN Z) (.int 8)) (as s1) (nI d1) (by rw [zK_sF, zK_nO an]; exact k1) (by rw [zF_sF, if_neg (fun z => an z.2), zF_nO an]; exact f1d)
  rw [md_one hd6] at hD
  refine ⟨_, c_init_one l G _ (zN Z) (as s1) 8 (nI m) (nI (d1 + 1)) v zK_nO' _ hD (c_pl_8 l G (srZ Z 8 (nI (d1 + 1))) (nI m) (as s1) q (by rw [srZ_K Z 8 _ an]; exact k1) (by rw [srZ_F Z 8 _ an]; exact hq) f st c d (by rw [srZ_K Z 8 _ qn]; exact qK) (by rw [srZ_F Z 8 _ qn]; exact e0) (by rw [srZ_F Z 8 _ qn]; exact e1) (by rw [srZ_F Z 8 _ qn]; exact e2) (by rw [srZ_F Z 8 _ qn]; exact e3) (by rw [srZ_N]; omega) hd hn0) (fun r Z1 hh => ?_), fun Z1 hz => ?_⟩
  · by_cases hc1 : c < 1
    · rw [(hh.1 (Or.inl hc1)).2]; exact srZ_K' Z 8 _
    · rw [(hh.2 (fun z => z.elim hc1 (fun y => y h1n))).2, nSt_K (by rw [srZ_N]; omega)]; exact srZ_K' Z 8 _
  obtain ⟨rq, Zp, hr, hz⟩ := hz
  by_cases hc1 : c < 1
  · obtain ⟨rfl, hZp⟩ := hr.1 (Or.inl hc1)
    obtain ⟨gF, gK, g0, g1, g2, g4, g5, g6, g7, g8⟩ := sr_facts (Or.inl hZp) hz
    refine ⟨gF, gK, g1, fun h6 => plain_new (if_pos rfl) hN gK (Or.inr (Or.inr rfl)) g0 (by omega) (six_of (by omega) h6) g1 g2 ?_⟩
    have E := gF.2.2 q hqN
    have c00 : σ.2 27 s1 = 0 := by rw [← eC]; exact z_of hc0 hc1
    rw [if_pos c00]
    exact ⟨q0, by rw [E.1]; exact qK, f, st, c, d, by rw [E.2.2.2.2.2]; exact e0, by rw [E.2.2.2.2.2]; exact e1, by rw [E.2.2.2.2.2]; exact e2, by rw [E.2.2.2.2.2]; exact e3, hd, z_of hc0 hc1, hc0, fun z => absurd hc1 z, hw⟩
  · obtain ⟨rfl, hZp⟩ := hr.2 (fun z => z.elim hc1 (fun y => y h1n))
    obtain ⟨gF, gK, g0, g1, g2, g4, g5, g6, g7, g8⟩ := sr_facts (Or.inr ⟨_, _, _, _, hZp⟩) hz
    refine ⟨gF, gK, g1, fun h6 => plain_new (if_pos rfl) hN gK (Or.inr (Or.inr rfl)) g0 (by omega) (six_of (by omega) h6) g1 g2 ?_⟩
    have W := @nSt_st (srZ Z 8 (nI (d1 + 1))) f (st * (nI m).toInt64) ((c - 1) / (nI m).toInt64 + 1) d
    rw [← hZp] at W
    have nz : zN (srZ Z 8 (nI (d1 + 1))) ≠ zN Z := by rw [srZ_N]; omega
    have KZ : zK Z1 (zN (srZ Z 8 (nI (d1 + 1)))) = 9 := by rw [hz, zK_sSr]; exact W.1
    have FZ : ∀ j, zF Z1 j (zN (srZ Z 8 (nI (d1 + 1)))) = zF Zp j (zN (srZ Z 8 (nI (d1 + 1)))) := fun j => by rw [hz, sSr_F (Or.inl nz)]
    have ev := every_wf (m := m) hd hc1 hc0 ⟨m0, m1⟩ hw
    have hCn : ¬ σ.2 27 s1 = 0 := fun z => hc1 (by rw [eC, z]; decide)
    refine ⟨by rw [srZ_N]; omega, KZ, _, _, _, _, by rw [FZ]; exact W.2.1, by rw [FZ]; exact W.2.2.1, by rw [FZ]; exact W.2.2.2.1, by rw [FZ]; exact W.2.2.2.2, hd, (by rw [if_neg hCn, eC]), ev.1, fun _ => ?_, ev.2⟩
    · obtain ⟨eF, eS⟩ := eFS hc1
      refine ⟨eF, ?_⟩
      rw [eS]
      rcases hd with rfl | rfl
      · rfl
      · rw [if_neg (by decide), if_neg (by decide), Int64.neg_mul]
