theorem so7 {k : Int32} (h : 2 ≤ k ∧ k ≤ 8) (h4 : ¬ (2 ≤ k ∧ k ≤ 4)) (h5 : ¬ k = 5) (h6 : ¬ k = 6) (h8 : ¬ k = 8) : k = 7 := by
  have a1 := Int32.le_iff_toInt_le.mp h.1
  have a2 := Int32.le_iff_toInt_le.mp h.2
  have e2 : (2 : Int32).toInt = 2 := by decide
  have e4 : (4 : Int32).toInt = 4 := by decide
  have e8 : (8 : Int32).toInt = 8 := by decide
  have a4 : ¬ k.toInt ≤ 4 := fun z => h4 ⟨h.1, Int32.le_iff_toInt_le.mpr (by omega)⟩
  have a5 : k.toInt ≠ 5 := fun e => h5 (Int32.toInt_inj.mp e)
  have a6 : k.toInt ≠ 6 := fun e => h6 (Int32.toInt_inj.mp e)
  have a8 : k.toInt ≠ 8 := fun e => h8 (Int32.toInt_inj.mp e)
  exact Int32.toInt_inj.mp (by have : (7 : Int32).toInt = 7 := by decide
                               omega)
theorem gP_fail {x f nf : Nat} {Z Z1 : Zt} {r e : Int32} {af : Nat → Nat} {σ : St} (hF : FIs Z x σ af nf) (hb : brO Z x σ) (hl : bLe σ) (hp : failP Z Z1 (x + 5) (σ.1 15 0) (-1) e r) (he : ¬ 0 ≤ -10 - e) : gP x af nf f Z (.inl (failS σ e (-1)).1, (failS σ e (-1)).2) r Z1 := by
  obtain ⟨h1, h2, h3⟩ := FIs_fail hF hp
  obtain ⟨b, m, q1, q2, q3, q4⟩ := hl
  obtain ⟨m', a1, a2, a3, a4⟩ := jOK_fail (nm := -1) q2 q4 he
  have hk := kp4_fail σ e (-1)
  refine ⟨h2, brO_JF hb h3 hk, ⟨b, m', by rw [hk.1 32 (by decide) (by decide) (by decide) (by decide)]; exact q1, a3, by omega, a2⟩, h3.gf, fun j hj => by rw [h3.2.2.1], h1, ?_⟩
  unfold failS
  split
  · show ¬ (0 : Int32) ≤ -18; decide
  · exact he
def gC (l : Launch) (G : Gt) (x nf : Nat) (af as : Nat → Nat) (n s f : Nat) (Z : Zt) (σ : St) : Prop := Ct l G YX8_gather (n + 12, 0, 0) Z [.ref (as s), .ref (x + 11), .int (nI f), .ref (x + 5)] (ΦI (fun r Z1 => gP x af nf f Z (gS n s σ) r Z1 ∧ ∀ K, (gS n s σ).1 = .inr K → K.length ≤ 200))
theorem spL_plL {f st : Int64} {d : Int32} {n : Nat} {f' st' : Int64} (hd : d = 0 ∨ d = 1) (h : 1 ≤ n → f = f' ∧ st' = (if d = 0 then st else -st)) : spL f st d n = plL f' st' n := by
  unfold spL plL
  rcases Nat.eq_zero_or_pos n with e | e
  · subst e; rfl
  · obtain ⟨rfl, rfl⟩ := h e
    congr 1
    funext i
    unfold stAt
    rcases hd with rfl | rfl
    · rw [if_pos rfl, if_pos rfl]
    · rw [if_neg (by decide), if_neg (by decide)]
      apply uN_inj
      rw [uN_sub, uN_add, uN_mul, uN_mul, uN_neg]
      have h1 := uN_lt f
      have h2 := uN_lt st
      generalize uN (lN i) = a
      generalize uN st = b at *
      generalize uN f = c at *
      rcases Nat.eq_zero_or_pos b with e | e
      · subst e; simp
      · have h3 : a * ((18446744073709551616 - b) % 18446744073709551616) % 18446744073709551616 = (18446744073709551616 - a * b % 18446744073709551616) % 18446744073709551616 := by
          rw [Nat.mod_eq_of_lt (show 18446744073709551616 - b < 18446744073709551616 by omega), Nat.mul_sub]
          have h4 : a * b ≤ a * 18446744073709551616 := Nat.mul_le_mul_left _ (by omega)
          generalize a * b = t at *
          omega
        rw [h3]
        have h5 : a * b % 18446744073709551616 < 18446744073709551616 := Nat.mod_lt _ (by omega)
        generalize a * b % 18446744073709551616 = t at *
        omega
theorem plainG {x n nf s f : Nat} {af : Nat → Nat} {σ : St} {Z Z1 : Zt} {r : Int32} {fv st c : Int64} {d : Int32} (hF : FIs Z x σ af nf) (hb : brO Z x σ) (hbl : bLe σ) (hp : σ.1 24 s = 1) (c5 : c = σ.2 27 s) (c6 : ¬ c < 0) (c4 : d = 0 ∨ d = 1) (c7 : ¬ c < 1 → fv = σ.2 25 s ∧ σ.2 26 s = (if d = 0 then st else -st)) (h : (¬ c ≤ 200 → r = -4 ∧ Z1 = Z) ∧ (c ≤ 200 → r = nI (uN c) ∧ ∃ g, Z1 = tJ Z (x + 11) g ∧ At g f (spL fv st d (uN c)) ∧ (∀ j, (j < f ∨ f + 200 ≤ j) → g j = zJ Z (x + 11) j))) : gP x af nf f Z (gS (n + 1) s σ) r Z1 ∧ ∀ K, (gS (n + 1) s σ).1 = .inr K → K.length ≤ 200 := by
  rw [gS, if_pos hp]
  by_cases h2 : σ.2 27 s ≤ 200
  · rw [if_pos h2]
    obtain ⟨e1, g, e2, e3, e4⟩ := h.2 (by rw [c5]; exact h2)
    have hn : uN c ≤ 200 := by
      obtain ⟨h3, h4⟩ := uN_pos c6
      have h5 : c.toInt ≤ 200 := by rw [c5]; have := Int64.le_iff_toInt_le.mp h2; simpa using this
      omega
    have hsp : spL fv st d (uN c) = plL (σ.2 25 s) (σ.2 26 s) (uN (σ.2 27 s)) := by
      rw [← c5]
      refine spL_plL c4 (fun z => c7 (fun z2 => ?_))
      have h6 : c.toInt < 1 := by have := Int64.lt_iff_toInt_lt.mp z2; simpa using this
      obtain ⟨h3, h4⟩ := uN_pos c6
      omega
    rw [← hsp]
    have hlen : (spL fv st d (uN c)).length = uN c := by simp [spL]
    refine ⟨poolP.gP ⟨by rw [hlen]; exact e1, g, e2, e3, fun j hj => e4 j (Or.inl hj)⟩ hF hb hbl, fun K hK => ?_⟩
    have : spL fv st d (uN c) = K := by injection hK
    rw [← this, hlen]; exact hn
  · rw [if_neg h2]
    obtain ⟨rfl, rfl⟩ := h.1 (by rw [c5]; exact h2)
    exact ⟨⟨hF, hb, hbl, GF.rf x Z1, fun _ _ => rfl, rfl, by decide⟩, fun K hK => by cases hK⟩
set_option maxHeartbeats 600000 in
set_option maxRecDepth 100000 in
theorem cg_plain (l : Launch) (G : Gt) (Z : Zt) (x n nf ns s f : Nat) (af as : Nat → Nat) (σ : St) (hF : FIs Z x σ af nf) (hS : SIs Z x σ af as nf ns) (hb : brO Z x σ) (hbl : bLe σ) (hs : s < ns) (hf : f + 200 * (n + 1) ≤ 1200) (hp : σ.1 24 s = 1) : Ct l G YX8_gather (n + 13, 0, 0) Z [.ref (as s), .ref (x + 11), .int (nI f), .ref (x + 5)] (ΦI (fun r Z1 => gP x af nf f Z (gS (n + 1) s σ) r Z1 ∧ ∀ K, (gS (n + 1) s σ).1 = .inr K → K.length ≤ 200)) := by
  refine ct_of [some (.ref (as s)), some (.ref (x + 11)), some (.int (nI f)), some (.ref (x + 5)), none, none] (by decide +kernel) (Nat.le_of_ble_eq_true rfl) rfl (fun M => ?_)
  obtain ⟨⟨a1, a2, a3, a4, a5⟩, o1, o2, o3⟩ := hS s hs
  have hKp : zK Z (x + 11) = 21 := hF.1.2.2.2.1.2.2.2.2.1
  have hLp : zL Z (x + 11) = 1200 := hF.1.2.2.2.1.2.2.2.2.2
  have hKt := hF.1.2.2.1.1
  refine q_iload_n dX8_gather_0 rfl ?_
  refine q_if_lt 14 dX8_gather_1 (by decide) (fun c1 => absurd c1 (nI_pos (by omega))) (fun c1 => ?_)
  refine q_iload_n dX8_gather_4 rfl ?_
  first | refine q_aload_n dX8_gather_5 rfl ?_ | refine q_aload_nN dX8_gather_5 rfl ?_
  refine q_alenJ dX8_gather_6 hKp ?_
  refine q_sipush (v := 200) dX8_gather_7 (by decide) ?_
  refine q_isub dX8_gather_10 ?_
  rw [show Int32.ofNat (zL Z (x + 11)) - 200 = nI 1000 by rw [hLp]; decide]
  refine q_icmp_le 17 dX8_gather_11 (by decide) (fun c11 => ?_) (fun c11 => absurd c11 (not_not_intro (nI_le (by omega) (by omega))))
  first | refine q_aload_n dX8_gather_17 rfl ?_ | refine q_aload_nN dX8_gather_17 rfl ?_
  obtain ⟨b1, q, hq, q1, q2, fv, st, c, d, c0, c1, c2, c3, c4, c5, c6, c7, c8⟩ := o1 hp
  refine q_getf dX8_gather_18 fk_X8_18_7 a2 hq ?_
  refine q_ifnull dX8_gather_21 ?_
  first | refine q_aload_n dX8_gather_24 rfl ?_ | refine q_aload_nN dX8_gather_24 rfl ?_
  first | refine q_aload_n dX8_gather_25 rfl ?_ | refine q_aload_nN dX8_gather_25 rfl ?_
  refine q_iload_n dX8_gather_26 rfl ?_
  refine q_callV 7 dX8_gather_27 mk_X8_68 rfl a2 (c_X8_gatherPlain l G Z (as s) (x + 11) q f fv st c d a2 hq q2 c0 c1 c2 c3 c6 hKp hLp (by omega)) rfl np_X8_gatherPlain (by first | decide | omega | (dsimp only; omega)) (by first | decide | omega | (dsimp only; omega)) (by first | decide | omega | (dsimp only; omega)) (Nat.le_of_ble_eq_true rfl) (kI (fun r Z1 h => ?_))
  exact q_ireturn dX8_gather_30 rfl (by first | decide | omega | (dsimp only; omega)) (by first | decide | omega | (dsimp only; omega)) (plainG hF hb hbl hp c5 c6 c4 c7 h)
theorem rowG {x n nf s f cn it : Nat} {af : Nat → Nat} {σ : St} {Z Z1 : Zt} {r skd : Int32} {g' : Nat → Int64} (hF : FIs Z x σ af nf) (hb : brO Z x σ) (hbl : bLe σ) (hcn : cn ≤ 12) (hg : ∀ i, i < cn → zJ Z it i = g' i) (hS : gS (n + 1) s σ = if skd = 0 then (.inl (failS σ 1 (-1)).1, (failS σ 1 (-1)).2) else if skd = 3 then (.inl (failS σ 5 (-1)).1, (failS σ 5 (-1)).2) else (.inr ((List.range cn).map g'), σ)) (h : (skd = 0 → failP Z Z1 (x + 5) (σ.1 15 0) (-1) 1 r) ∧ (skd = 3 → failP Z Z1 (x + 5) (σ.1 15 0) (-1) 5 r) ∧ (¬ skd = 0 → ¬ skd = 3 → r = nI cn ∧ ∃ g, Z1 = tJ Z (x + 11) g ∧ At g f ((List.range cn).map (zJ Z it)) ∧ (∀ j, (j < f ∨ f + 200 ≤ j) → g j = zJ Z (x + 11) j))) : gP x af nf f Z (gS (n + 1) s σ) r Z1 ∧ ∀ K, (gS (n + 1) s σ).1 = .inr K → K.length ≤ 200 := by
  rw [hS]
  by_cases h0 : skd = 0
  · rw [if_pos h0]; exact ⟨gP_fail hF hb hbl (h.1 h0) (by decide), fun K hK => by cases hK⟩
  · rw [if_neg h0]
    by_cases h3 : skd = 3
    · rw [if_pos h3]; exact ⟨gP_fail hF hb hbl (h.2.1 h3) (by decide), fun K hK => by cases hK⟩
    · rw [if_neg h3]
      obtain ⟨e1, g, e2, e3, e4⟩ := h.2.2 h0 h3
      have he : (List.range cn).map (zJ Z it) = (List.range cn).map g' := List.map_congr_left (fun i hi => hg i (List.mem_range.mp hi))
      rw [he] at e3
      refine ⟨poolP.gP ⟨by simpa using e1, g, e2, e3, fun j hj => e4 j (Or.inl hj)⟩ hF hb hbl, fun K hK => ?_⟩
      have : (List.range cn).map g' = K := by injection hK
      rw [← this]; simp; omega
set_option maxHeartbeats 600000 in
set_option maxRecDepth 100000 in
theorem cg_list (l : Launch) (G : Gt) (Z : Zt) (x n nf ns s f : Nat) (af as : Nat → Nat) (σ : St) (hF : FIs Z x σ af nf) (hS : SIs Z x σ af as nf ns) (hb : brO Z x σ) (hbl : bLe σ) (hs : s < ns) (hf : f + 200 * (n + 1) ≤ 1200) (hp : σ.1 24 s = 0) (hso : σ.1 17 s = 1) : Ct l G YX8_gather (n + 13, 0, 0) Z [.ref (as s), .ref (x + 11), .int (nI f), .ref (x + 5)] (ΦI (fun r Z1 => gP x af nf f Z (gS (n + 1) s σ) r Z1 ∧ ∀ K, (gS (n + 1) s σ).1 = .inr K → K.length ≤ 200)) := by
  refine ct_of [some (.ref (as s)), some (.ref (x + 11)), some (.int (nI f)), some (.ref (x + 5)), none, none] (by decide +kernel) (Nat.le_of_ble_eq_true rfl) rfl (fun M => ?_)
  obtain ⟨⟨a1, a2, a3, a4, a5⟩, o1, o2, o3⟩ := hS s hs
  have hKp : zK Z (x + 11) = 21 := hF.1.2.2.2.1.2.2.2.2.1
  have hLp : zL Z (x + 11) = 1200 := hF.1.2.2.2.1.2.2.2.2.2
  have hKt := hF.1.2.2.1.1
  obtain ⟨n2, -, n1, -⟩ := o2 hp
  obtain ⟨n4, n5, n3, e1, e2, e3, e4, e5, cn, e6, e7, e8, e9⟩ := n1 hso
  have hge : gS (n + 1) s σ = if (1 : Int32) = 0 then (.inl (failS σ 1 (-1)).1, (failS σ 1 (-1)).2) else if (1 : Int32) = 3 then (.inl (failS σ 5 (-1)).1, (failS σ 5 (-1)).2) else (.inr ((List.range cn).map (fun i => σ.2 28 (12 * s + i))), σ) := by
    rw [gS, if_neg (by rw [hp]; decide), if_pos hso, e8, uN_ofNat (by omega), if_neg (by decide), if_neg (by decide)]
  refine q_iload_n dX8_gather_0 rfl ?_
  refine q_if_lt 14 dX8_gather_1 (by decide) (fun c1 => absurd c1 (nI_pos (by omega))) (fun c1 => ?_)
  refine q_iload_n dX8_gather_4 rfl ?_
  first | refine q_aload_n dX8_gather_5 rfl ?_ | refine q_aload_nN dX8_gather_5 rfl ?_
  refine q_alenJ dX8_gather_6 hKp ?_
  refine q_sipush (v := 200) dX8_gather_7 (by decide) ?_
  refine q_isub dX8_gather_10 ?_
  rw [show Int32.ofNat (zL Z (x + 11)) - 200 = nI 1000 by rw [hLp]; decide]
  refine q_icmp_le 17 dX8_gather_11 (by decide) (fun c11 => ?_) (fun c11 => absurd c11 (not_not_intro (nI_le (by omega) (by omega))))
  first | refine q_aload_n dX8_gather_17 rfl ?_ | refine q_aload_nN dX8_gather_17 rfl ?_
  refine q_getf dX8_gather_18 fk_X8_18_7 a2 n2 ?_
  refine q_ifnullN 31 dX8_gather_21 (by decide) ?_
  first | refine q_aload_n dX8_gather_31 rfl ?_ | refine q_aload_nN dX8_gather_31 rfl ?_
  refine q_getf dX8_gather_32 fk_X8_26_7 a2 n4 ?_
  refine q_ifnonnullN dX8_gather_35 ?_
  first | refine q_aload_n dX8_gather_38 rfl ?_ | refine q_aload_nN dX8_gather_38 rfl ?_
  first | refine q_aload_n dX8_gather_39 rfl ?_ | refine q_aload_nN dX8_gather_39 rfl ?_
  refine q_iload_n dX8_gather_40 rfl ?_
  first | refine q_aload_n dX8_gather_41 rfl ?_ | refine q_aload_nN dX8_gather_41 rfl ?_
  refine q_callV 7 dX8_gather_42 mk_X8_72 rfl a2 (c_X8_gatherRow l G Z (as s) (x + 11) (x + 5) (as s - 2) (as s - 1) f cn 1 (σ.1 15 0) a2 n3 e1 e2 e3 e7 e6 e4 e5 (by omega) hKt hF.2.2.2.1.1 hKp hLp (by omega)) rfl np_X8_gatherRow (by first | decide | omega | (dsimp only; omega)) (by first | decide | omega | (dsimp only; omega)) (by first | decide | omega | (dsimp only; omega)) (Nat.le_of_ble_eq_true rfl) (kI (fun r Z1 h => ?_))
  exact q_ireturn dX8_gather_45 rfl (by first | decide | omega | (dsimp only; omega)) (by first | decide | omega | (dsimp only; omega)) (rowG hF hb hbl e6 e9 hge h)
set_option maxHeartbeats 600000 in
set_option maxRecDepth 100000 in
theorem cg_shelf (l : Launch) (G : Gt) (Z : Zt) (x n nf ns s f : Nat) (af as : Nat → Nat) (σ : St) (hF : FIs Z x σ af nf) (hS : SIs Z x σ af as nf ns) (hb : brO Z x σ) (hbl : bLe σ) (hs : s < ns) (hf : f + 200 * (n + 1) ≤ 1200) (hp : σ.1 24 s = 0) (hso : σ.1 17 s = 9) : Ct l G YX8_gather (n + 13, 0, 0) Z [.ref (as s), .ref (x + 11), .int (nI f), .ref (x + 5)] (ΦI (fun r Z1 => gP x af nf f Z (gS (n + 1) s σ) r Z1 ∧ ∀ K, (gS (n + 1) s σ).1 = .inr K → K.length ≤ 200)) := by
  refine ct_of [some (.ref (as s)), some (.ref (x + 11)), some (.int (nI f)), some (.ref (x + 5)), none, none] (by decide +kernel) (Nat.le_of_ble_eq_true rfl) rfl (fun M => ?_)
  obtain ⟨⟨a1, a2, a3, a4, a5⟩, o1, o2, o3⟩ := hS s hs
  have hKp : zK Z (x + 11) = 21 := hF.1.2.2.2.1.2.2.2.2.1
  have hLp : zL Z (x + 11) = 1200 := hF.1.2.2.2.1.2.2.2.2.2
  have hKt := hF.1.2.2.1.1
  obtain ⟨n2, -, -, n1⟩ := o2 hp
  obtain ⟨n4, k, hk, h20, n3⟩ := n1 hso
  obtain ⟨-, e1, e2, e4, e5⟩ := hF.1.2.2.2.2.1 k hk
  obtain ⟨s1, s2, -, s5, cn, e6, e7⟩ := hF.2.1 k hk
  rw [e7] at s2
  have hge : gS (n + 1) s σ = if σ.1 1 k = 0 then (.inl (failS σ 1 (-1)).1, (failS σ 1 (-1)).2) else if σ.1 1 k = 3 then (.inl (failS σ 5 (-1)).1, (failS σ 5 (-1)).2) else (.inr ((List.range cn).map (fun i => σ.2 4 (12 * k + i))), σ) := by
    rw [gS, if_neg (by rw [hp]; decide), if_neg (by rw [hso]; decide), if_pos hso, h20, nI_clamp (by omega), e7, nI_clamp (by omega)]
  refine q_iload_n dX8_gather_0 rfl ?_
  refine q_if_lt 14 dX8_gather_1 (by decide) (fun c1 => absurd c1 (nI_pos (by omega))) (fun c1 => ?_)
  refine q_iload_n dX8_gather_4 rfl ?_
  first | refine q_aload_n dX8_gather_5 rfl ?_ | refine q_aload_nN dX8_gather_5 rfl ?_
  refine q_alenJ dX8_gather_6 hKp ?_
  refine q_sipush (v := 200) dX8_gather_7 (by decide) ?_
  refine q_isub dX8_gather_10 ?_
  rw [show Int32.ofNat (zL Z (x + 11)) - 200 = nI 1000 by rw [hLp]; decide]
  refine q_icmp_le 17 dX8_gather_11 (by decide) (fun c11 => ?_) (fun c11 => absurd c11 (not_not_intro (nI_le (by omega) (by omega))))
  first | refine q_aload_n dX8_gather_17 rfl ?_ | refine q_aload_nN dX8_gather_17 rfl ?_
  refine q_getf dX8_gather_18 fk_X8_18_7 a2 n2 ?_
  refine q_ifnullN 31 dX8_gather_21 (by decide) ?_
  first | refine q_aload_n dX8_gather_31 rfl ?_ | refine q_aload_nN dX8_gather_31 rfl ?_
  refine q_getf dX8_gather_32 fk_X8_26_7 a2 n4 ?_
  refine q_ifnonnullN dX8_gather_35 ?_
  first | refine q_aload_n dX8_gather_38 rfl ?_ | refine q_aload_nN dX8_gather_38 rfl ?_
  first | refine q_aload_n dX8_gather_39 rfl ?_ | refine q_aload_nN dX8_gather_39 rfl ?_
  refine q_iload_n dX8_gather_40 rfl ?_
  first | refine q_aload_n dX8_gather_41 rfl ?_ | refine q_aload_nN dX8_gather_41 rfl ?_
  refine q_callV 7 dX8_gather_42 mk_X8_72 rfl a2 (c_X8_gatherRow l G Z (as s) (x + 11) (x + 5) (x + 12 + 2 * k) (x + 13 + 2 * k) f cn (σ.1 1 k) (σ.1 15 0) a2 n3 e1 e2 s1 s2 e6 e4 e5 (by omega) hKt hF.2.2.2.1.1 hKp hLp (by omega)) rfl np_X8_gatherRow (by first | decide | omega | (dsimp only; omega)) (by first | decide | omega | (dsimp only; omega)) (by first | decide | omega | (dsimp only; omega)) (Nat.le_of_ble_eq_true rfl) (kI (fun r Z1 h => ?_))
  exact q_ireturn dX8_gather_45 rfl (by first | decide | omega | (dsimp only; omega)) (by first | decide | omega | (dsimp only; omega)) (rowG hF hb hbl e6 (fun i hi => s5 i (by omega)) hge h)
theorem gS_made {n s s1 : Nat} {σ : St} (hp : σ.1 24 s = 0) (hso : 2 ≤ σ.1 17 s ∧ σ.1 17 s ≤ 8) (h18 : σ.1 18 s = nI s1) (h20 : s1 < 20) : gS (n + 1) s σ = match gS n s1 σ with
      | (.inl e, τ) => (.inl e, τ)
      | (.inr L1, τ) =>
        if 2 ≤ σ.1 17 s ∧ σ.1 17 s ≤ 4 then
          (match gS n (σ.1 19 s).toNatClampNeg τ with
            | (.inl e, υ) => (.inl e, υ)
            | (.inr L2, υ) => (twoS (σ.1 17 s) L1 L2, υ))
        else if σ.1 17 s = 5 then (.inr L1.reverse, τ)
        else if σ.1 17 s = 6 then (.inr ((srtR (σ.2 22 s) L1).reverse.take (σ.1 21 s).toNatClampNeg), τ)
        else if σ.1 17 s = 8 then (.inr (evL (σ.1 21 s).toNatClampNeg L1), τ)
        else pS (σ.1 20 s).toNatClampNeg L1 τ := by
  rw [gS, if_neg (by rw [hp]; decide), if_neg, if_neg, h18, nI_clamp (by omega)]
  · rfl
  · intro e; rw [e] at hso; exact absurd hso (by decide)
  · intro e; rw [e] at hso; exact absurd hso (by decide)
theorem gP_tr {x f nf : Nat} {Z Z1 Z2 : Zt} {q : (Int32 ⊕ List Int64) × St} {r : Int32} {af : Nat → Nat} (hG : GF x Z Z1) (hj : ∀ j, j < f → zJ Z1 (x + 11) j = zJ Z (x + 11) j) (h : gP x af nf f Z1 q r Z2) : gP x af nf f Z q r Z2 := by
  obtain ⟨h1, h2, h3, h4, h5, h6⟩ := h
  exact ⟨h1, h2, h3, hG.tr h4, fun j hh => (h5 j hh).trans (hj j hh), h6⟩
set_option maxHeartbeats 600000 in
set_option maxRecDepth 100000 in
theorem cg_m5 (l : Launch) (G : Gt) (Z : Zt) (x n nf ns s f : Nat) (af as : Nat → Nat) (σ : St) (hF : FIs Z x σ af nf) (hS : SIs Z x σ af as nf ns) (hb : brO Z x σ) (hbl : bLe σ) (hs : s < ns) (hf : f + 200 * (n + 1) ≤ 1200) (hp : σ.1 24 s = 0) (hso : 2 ≤ σ.1 17 s ∧ σ.1 17 s ≤ 8) (s1 : Nat) (hs1 : s1 < s) (h20 : ns ≤ 20) (h18 : σ.1 18 s = nI s1) (n4 : zF Z 4 (as s) = .ref (as s1)) (hd1 : sdp σ s1 ≤ n) (ih : ∀ (s f : Nat) (Z : Zt) (σ : St), s < ns → sdp σ s ≤ n → f + 200 * n ≤ 1200 → FIs Z x σ af nf → SIs Z x σ af as nf ns → brO Z x σ → bLe σ → gC l G x nf af as n s f Z σ) (h17 : σ.1 17 s = 5) (n5 : zF Z 5 (as s) = .null)  : Ct l G YX8_gather (n + 13, 0, 0) Z [.ref (as s), .ref (x + 11), .int (nI f), .ref (x + 5)] (ΦI (fun r Z1 => gP x af nf f Z (gS (n + 1) s σ) r Z1 ∧ ∀ K, (gS (n + 1) s σ).1 = .inr K → K.length ≤ 200)) := by
  refine ct_of [some (.ref (as s)), some (.ref (x + 11)), some (.int (nI f)), some (.ref (x + 5)), none, none] (by decide +kernel) (Nat.le_of_ble_eq_true rfl) rfl (fun M => ?_)
  obtain ⟨⟨a1, a2, a3, a4, a5⟩, o1, o2, o3⟩ := hS s hs
  have hKp : zK Z (x + 11) = 21 := hF.1.2.2.2.1.2.2.2.2.1
  have hLp : zL Z (x + 11) = 1200 := hF.1.2.2.2.1.2.2.2.2.2
  have hKt := hF.1.2.2.1.1
  obtain ⟨n2, -, -, -⟩ := o2 hp
  have hge := gS_made (n := n) hp hso h18 (by omega)
  refine q_iload_n dX8_gather_0 rfl ?_
  refine q_if_lt 14 dX8_gather_1 (by decide) (fun c1 => absurd c1 (nI_pos (by omega))) (fun c1 => ?_)
  refine q_iload_n dX8_gather_4 rfl ?_
  first | refine q_aload_n dX8_gather_5 rfl ?_ | refine q_aload_nN dX8_gather_5 rfl ?_
  refine q_alenJ dX8_gather_6 hKp ?_
  refine q_sipush (v := 200) dX8_gather_7 (by decide) ?_
  refine q_isub dX8_gather_10 ?_
  rw [show Int32.ofNat (zL Z (x + 11)) - 200 = nI 1000 by rw [hLp]; decide]
  refine q_icmp_le 17 dX8_gather_11 (by decide) (fun c11 => ?_) (fun c11 => absurd c11 (not_not_intro (nI_le (by omega) (by omega))))
  first | refine q_aload_n dX8_gather_17 rfl ?_ | refine q_aload_nN dX8_gather_17 rfl ?_
  refine q_getf dX8_gather_18 fk_X8_18_7 a2 n2 ?_
  refine q_ifnullN 31 dX8_gather_21 (by decide) ?_
  first | refine q_aload_n dX8_gather_31 rfl ?_ | refine q_aload_nN dX8_gather_31 rfl ?_
  refine q_getf dX8_gather_32 fk_X8_26_7 a2 n4 ?_
  refine q_ifnonnull 46 dX8_gather_35 (by decide) ?_
  first | refine q_aload_n dX8_gather_46 rfl ?_ | refine q_aload_nN dX8_gather_46 rfl ?_
  refine q_getf dX8_gather_47 fk_X8_26_7 a2 n4 ?_
  first | refine q_aload_n dX8_gather_50 rfl ?_ | refine q_aload_nN dX8_gather_50 rfl ?_
  refine q_iload_n dX8_gather_51 rfl ?_
  first | refine q_aload_n dX8_gather_52 rfl ?_ | refine q_aload_nN dX8_gather_52 rfl ?_
  refine q_callV 7 dX8_gather_53 mk_X8_76 rfl (hS s1 (by omega)).1.2.1 (ih s1 f Z σ (by omega) hd1 (by omega) hF hS hb hbl) rfl np_X8_gather (by first | decide | omega | (dsimp only; omega)) (by first | decide | omega | (dsimp only; omega)) (by first | decide | omega | (dsimp only; omega)) (Nat.le_of_ble_eq_true rfl) (kI (fun r53 Z53 h53 => ?_))
  obtain ⟨⟨g1, g2, g3, g4, g5, g6⟩, g7⟩ := h53
  have hkp := kp8_gS n s1 σ
  rcases hg : gS n s1 σ with ⟨e | L1, τ⟩
  · rw [hg] at g1 g2 g3 g6 hge
    dsimp only at g1 g2 g3 g6 hge
    refine q_istore (ls' := [_, _, _, _, _, _]) dX8_gather_56 rfl rfl (Nat.le_of_ble_eq_true rfl) (by decide) ?_
    refine q_iload dX8_gather_58 rfl ?_
    refine q_if_ge 66 dX8_gather_60 (by decide) (fun c60 => absurd c60 (by rw [g6.1]; exact g6.2)) (fun c60 => ?_)
    refine q_iload dX8_gather_63 rfl ?_
    exact q_ireturn dX8_gather_65 rfl (by first | decide | omega | (dsimp only; omega)) (by first | decide | omega | (dsimp only; omega)) (by rw [hge]; exact ⟨⟨g1, g2, g3, g4, g5, g6⟩, fun K hK => by cases hK⟩)
  · rw [hg] at g1 g2 g3 g6 g7 hge hkp
    dsimp only at g1 g2 g3 g6 g7 hge hkp
    obtain ⟨g8, g9⟩ := g6
    have g10 := g7 L1 rfl
    subst g8
    have hSt := SIs_GF hS g4 hkp
    obtain ⟨⟨b1, b2, b3, b4, b5⟩, p1, p2, p3⟩ := hSt s hs
    have hkS := hkp.kS
    refine q_istore (ls' := [_, _, _, _, _, _]) dX8_gather_56 rfl rfl (Nat.le_of_ble_eq_true rfl) (by decide) ?_
    refine q_iload dX8_gather_58 rfl ?_
    refine q_if_ge 66 dX8_gather_60 (by decide) (fun c60 => ?_) (fun c60 => absurd c60 (not_not_intro (nI_pos' (by omega))))
    first | refine q_aload_n dX8_gather_66 rfl ?_ | refine q_aload_nN dX8_gather_66 rfl ?_
    refine q_getf dX8_gather_67 fk_X8_30_7 b2 ((g4.2.2.2.2.1 5 (as s) (by omega) (by rw [a2]; omega)).trans n5) ?_
    refine q_ifnonnullN dX8_gather_70 ?_
    first | refine q_aload_n dX8_gather_73 rfl ?_ | refine q_aload_nN dX8_gather_73 rfl ?_
    first | refine q_aload_n dX8_gather_74 rfl ?_ | refine q_aload_nN dX8_gather_74 rfl ?_
    refine q_iload_n dX8_gather_75 rfl ?_
    refine q_iload_n dX8_gather_76 rfl ?_
    refine q_iload dX8_gather_77 rfl ?_
    refine q_iadd dX8_gather_79 ?_
    first | refine q_aload_n dX8_gather_80 rfl ?_ | refine q_aload_nN dX8_gather_80 rfl ?_
    rw [nI_add]
    refine q_callV 7 dX8_gather_81 mk_X8_79 rfl b2 (cg_one5 l G Z53 x (as s) f L1 g1.1 b2 (by omega) g9 (by rw [b3, hkS.1 17 (by omega), h17])) rfl np_X8_keepOfOne (by first | decide | omega | (dsimp only; omega)) (by first | decide | omega | (dsimp only; omega)) (by first | decide | omega | (dsimp only; omega)) (Nat.le_of_ble_eq_true rfl) (kI (fun r81 Z81 h81 => ?_))
    exact q_ireturn dX8_gather_84 rfl (by first | decide | omega | (dsimp only; omega)) (by first | decide | omega | (dsimp only; omega)) (by rw [hge, if_neg (by rw [h17]; decide), if_pos h17]; exact ⟨gP_tr g4 g5 (h81.gP g1 g2 g3), fun K hK => by (have hE := Sum.inr.inj hK; rw [← hE]; simpa using g10)⟩)
set_option maxHeartbeats 600000 in
set_option maxRecDepth 100000 in
theorem cg_m6 (l : Launch) (G : Gt) (Z : Zt) (x n nf ns s f : Nat) (af as : Nat → Nat) (σ : St) (hF : FIs Z x σ af nf) (hS : SIs Z x σ af as nf ns) (hb : brO Z x σ) (hbl : bLe σ) (hs : s < ns) (hf : f + 200 * (n + 1) ≤ 1200) (hp : σ.1 24 s = 0) (hso : 2 ≤ σ.1 17 s ∧ σ.1 17 s ≤ 8) (s1 : Nat) (hs1 : s1 < s) (h20 : ns ≤ 20) (h18 : σ.1 18 s = nI s1) (n4 : zF Z 4 (as s) = .ref (as s1)) (hd1 : sdp σ s1 ≤ n) (ih : ∀ (s f : Nat) (Z : Zt) (σ : St), s < ns → sdp σ s ≤ n → f + 200 * n ≤ 1200 → FIs Z x σ af nf → SIs Z x σ af as nf ns → brO Z x σ → bLe σ → gC l G x nf af as n s f Z σ) (h17 : σ.1 17 s = 6) (n5 : zF Z 5 (as s) = .null) (v7 : Nat) (hv7 : v7 ≤ 200) (h21 : σ.1 21 s = nI v7) (n8 : zF Z 8 (as s) = .long (σ.2 22 s)) (n7 : zF Z 7 (as s) = .int (nI v7)) : Ct l G YX8_gather (n + 13, 0, 0) Z [.ref (as s), .ref (x + 11), .int (nI f), .ref (x + 5)] (ΦI (fun r Z1 => gP x af nf f Z (gS (n + 1) s σ) r Z1 ∧ ∀ K, (gS (n + 1) s σ).1 = .inr K → K.length ≤ 200)) := by
  refine ct_of [some (.ref (as s)), some (.ref (x + 11)), some (.int (nI f)), some (.ref (x + 5)), none, none] (by decide +kernel) (Nat.le_of_ble_eq_true rfl) rfl (fun M => ?_)
  obtain ⟨⟨a1, a2, a3, a4, a5⟩, o1, o2, o3⟩ := hS s hs
  have hKp : zK Z (x + 11) = 21 := hF.1.2.2.2.1.2.2.2.2.1
  have hLp : zL Z (x + 11) = 1200 := hF.1.2.2.2.1.2.2.2.2.2
  have hKt := hF.1.2.2.1.1
  obtain ⟨n2, -, -, -⟩ := o2 hp
  have hge := gS_made (n := n) hp hso h18 (by omega)
  refine q_iload_n dX8_gather_0 rfl ?_
  refine q_if_lt 14 dX8_gather_1 (by decide) (fun c1 => absurd c1 (nI_pos (by omega))) (fun c1 => ?_)
  refine q_iload_n dX8_gather_4 rfl ?_
  first | refine q_aload_n dX8_gather_5 rfl ?_ | refine q_aload_nN dX8_gather_5 rfl ?_
  refine q_alenJ dX8_gather_6 hKp ?_
  refine q_sipush (v := 200) dX8_gather_7 (by decide) ?_
  refine q_isub dX8_gather_10 ?_
  rw [show Int32.ofNat (zL Z (x + 11)) - 200 = nI 1000 by rw [hLp]; decide]
  refine q_icmp_le 17 dX8_gather_11 (by decide) (fun c11 => ?_) (fun c11 => absurd c11 (not_not_intro (nI_le (by omega) (by omega))))
  first | refine q_aload_n dX8_gather_17 rfl ?_ | refine q_aload_nN dX8_gather_17 rfl ?_
  refine q_getf dX8_gather_18 fk_X8_18_7 a2 n2 ?_
  refine q_ifnullN 31 dX8_gather_21 (by decide) ?_
  first | refine q_aload_n dX8_gather_31 rfl ?_ | refine q_aload_nN dX8_gather_31 rfl ?_
  refine q_getf dX8_gather_32 fk_X8_26_7 a2 n4 ?_
  refine q_ifnonnull 46 dX8_gather_35 (by decide) ?_
  first | refine q_aload_n dX8_gather_46 rfl ?_ | refine q_aload_nN dX8_gather_46 rfl ?_
  refine q_getf dX8_gather_47 fk_X8_26_7 a2 n4 ?_
  first | refine q_aload_n dX8_gather_50 rfl ?_ | refine q_aload_nN dX8_gather_50 rfl ?_
  refine q_iload_n dX8_gather_51 rfl ?_
  first | refine q_aload_n dX8_gather_52 rfl ?_ | refine q_aload_nN dX8_gather_52 rfl ?_
  refine q_callV 7 dX8_gather_53 mk_X8_76 rfl (hS s1 (by omega)).1.2.1 (ih s1 f Z σ (by omega) hd1 (by omega) hF hS hb hbl) rfl np_X8_gather (by first | decide | omega | (dsimp only; omega)) (by first | decide | omega | (dsimp only; omega)) (by first | decide | omega | (dsimp only; omega)) (Nat.le_of_ble_eq_true rfl) (kI (fun r53 Z53 h53 => ?_))
  obtain ⟨⟨g1, g2, g3, g4, g5, g6⟩, g7⟩ := h53
  have hkp := kp8_gS n s1 σ
  rcases hg : gS n s1 σ with ⟨e | L1, τ⟩
  · rw [hg] at g1 g2 g3 g6 hge
    dsimp only at g1 g2 g3 g6 hge
    refine q_istore (ls' := [_, _, _, _, _, _]) dX8_gather_56 rfl rfl (Nat.le_of_ble_eq_true rfl) (by decide) ?_
    refine q_iload dX8_gather_58 rfl ?_
    refine q_if_ge 66 dX8_gather_60 (by decide) (fun c60 => absurd c60 (by rw [g6.1]; exact g6.2)) (fun c60 => ?_)
    refine q_iload dX8_gather_63 rfl ?_
    exact q_ireturn dX8_gather_65 rfl (by first | decide | omega | (dsimp only; omega)) (by first | decide | omega | (dsimp only; omega)) (by rw [hge]; exact ⟨⟨g1, g2, g3, g4, g5, g6⟩, fun K hK => by cases hK⟩)
  · rw [hg] at g1 g2 g3 g6 g7 hge hkp
    dsimp only at g1 g2 g3 g6 g7 hge hkp
    obtain ⟨g8, g9⟩ := g6
    have g10 := g7 L1 rfl
    subst g8
    have hSt := SIs_GF hS g4 hkp
    obtain ⟨⟨b1, b2, b3, b4, b5⟩, p1, p2, p3⟩ := hSt s hs
    have hkS := hkp.kS
    refine q_istore (ls' := [_, _, _, _, _, _]) dX8_gather_56 rfl rfl (Nat.le_of_ble_eq_true rfl) (by decide) ?_
    refine q_iload dX8_gather_58 rfl ?_
    refine q_if_ge 66 dX8_gather_60 (by decide) (fun c60 => ?_) (fun c60 => absurd c60 (not_not_intro (nI_pos' (by omega))))
    first | refine q_aload_n dX8_gather_66 rfl ?_ | refine q_aload_nN dX8_gather_66 rfl ?_
    refine q_getf dX8_gather_67 fk_X8_30_7 b2 ((g4.2.2.2.2.1 5 (as s) (by omega) (by rw [a2]; omega)).trans n5) ?_
    refine q_ifnonnullN dX8_gather_70 ?_
    first | refine q_aload_n dX8_gather_73 rfl ?_ | refine q_aload_nN dX8_gather_73 rfl ?_
    first | refine q_aload_n dX8_gather_74 rfl ?_ | refine q_aload_nN dX8_gather_74 rfl ?_
    refine q_iload_n dX8_gather_75 rfl ?_
    refine q_iload_n dX8_gather_76 rfl ?_
    refine q_iload dX8_gather_77 rfl ?_
    refine q_iadd dX8_gather_79 ?_
    first | refine q_aload_n dX8_gather_80 rfl ?_ | refine q_aload_nN dX8_gather_80 rfl ?_
    rw [nI_add]
    refine q_callV 7 dX8_gather_81 mk_X8_79 rfl b2 (cg_one6 l G Z53 x (as s) f L1 g1.1 b2 (by omega) g9 (by rw [b3, hkS.1 17 (by omega), h17]) (σ.2 22 s) v7 ((g4.2.2.2.2.1 8 (as s) (by omega) (by rw [a2]; omega)).trans n8) ((g4.2.2.2.2.1 7 (as s) (by omega) (by rw [a2]; omega)).trans n7) hv7) rfl np_X8_keepOfOne (by first | decide | omega | (dsimp only; omega)) (by first | decide | omega | (dsimp only; omega)) (by first | decide | omega | (dsimp only; omega)) (Nat.le_of_ble_eq_true rfl) (kI (fun r81 Z81 h81 => ?_))
    exact q_ireturn dX8_gather_84 rfl (by first | decide | omega | (dsimp only; omega)) (by first | decide | omega | (dsimp only; omega)) (by rw [hge, if_neg (by rw [h17]; decide), if_neg (by rw [h17]; decide), if_pos h17, h21, nI_clamp (show v7 < 2 ^ 31 by omega)]; exact ⟨gP_tr g4 g5 (h81.gP g1 g2 g3), fun K hK => by (have hE := Sum.inr.inj hK; rw [← hE]; rw [List.length_take]; omega)⟩)
set_option maxHeartbeats 600000 in
set_option maxRecDepth 100000 in
theorem cg_m8 (l : Launch) (G : Gt) (Z : Zt) (x n nf ns s f : Nat) (af as : Nat → Nat) (σ : St) (hF : FIs Z x σ af nf) (hS : SIs Z x σ af as nf ns) (hb : brO Z x σ) (hbl : bLe σ) (hs : s < ns) (hf : f + 200 * (n + 1) ≤ 1200) (hp : σ.1 24 s = 0) (hso : 2 ≤ σ.1 17 s ∧ σ.1 17 s ≤ 8) (s1 : Nat) (hs1 : s1 < s) (h20 : ns ≤ 20) (h18 : σ.1 18 s = nI s1) (n4 : zF Z 4 (as s) = .ref (as s1)) (hd1 : sdp σ s1 ≤ n) (ih : ∀ (s f : Nat) (Z : Zt) (σ : St), s < ns → sdp σ s ≤ n → f + 200 * n ≤ 1200 → FIs Z x σ af nf → SIs Z x σ af as nf ns → brO Z x σ → bLe σ → gC l G x nf af as n s f Z σ) (h17 : σ.1 17 s = 8) (n5 : zF Z 5 (as s) = .null) (v7 : Nat) (hv6 : 1 ≤ v7) (hv7 : v7 ≤ 200) (h21 : σ.1 21 s = nI v7) (n7 : zF Z 7 (as s) = .int (nI v7)) : Ct l G YX8_gather (n + 13, 0, 0) Z [.ref (as s), .ref (x + 11), .int (nI f), .ref (x + 5)] (ΦI (fun r Z1 => gP x af nf f Z (gS (n + 1) s σ) r Z1 ∧ ∀ K, (gS (n + 1) s σ).1 = .inr K → K.length ≤ 200)) := by
  refine ct_of [some (.ref (as s)), some (.ref (x + 11)), some (.int (nI f)), some (.ref (x + 5)), none, none] (by decide +kernel) (Nat.le_of_ble_eq_true rfl) rfl (fun M => ?_)
  obtain ⟨⟨a1, a2, a3, a4, a5⟩, o1, o2, o3⟩ := hS s hs
  have hKp : zK Z (x + 11) = 21 := hF.1.2.2.2.1.2.2.2.2.1
  have hLp : zL Z (x + 11) = 1200 := hF.1.2.2.2.1.2.2.2.2.2
  have hKt := hF.1.2.2.1.1
  obtain ⟨n2, -, -, -⟩ := o2 hp
  have hge := gS_made (n := n) hp hso h18 (by omega)
  refine q_iload_n dX8_gather_0 rfl ?_
  refine q_if_lt 14 dX8_gather_1 (by decide) (fun c1 => absurd c1 (nI_pos (by omega))) (fun c1 => ?_)
  refine q_iload_n dX8_gather_4 rfl ?_
  first | refine q_aload_n dX8_gather_5 rfl ?_ | refine q_aload_nN dX8_gather_5 rfl ?_
  refine q_alenJ dX8_gather_6 hKp ?_
  refine q_sipush (v := 200) dX8_gather_7 (by decide) ?_
  refine q_isub dX8_gather_10 ?_
  rw [show Int32.ofNat (zL Z (x + 11)) - 200 = nI 1000 by rw [hLp]; decide]
  refine q_icmp_le 17 dX8_gather_11 (by decide) (fun c11 => ?_) (fun c11 => absurd c11 (not_not_intro (nI_le (by omega) (by omega))))
  first | refine q_aload_n dX8_gather_17 rfl ?_ | refine q_aload_nN dX8_gather_17 rfl ?_
  refine q_getf dX8_gather_18 fk_X8_18_7 a2 n2 ?_
  refine q_ifnullN 31 dX8_gather_21 (by decide) ?_
  first | refine q_aload_n dX8_gather_31 rfl ?_ | refine q_aload_nN dX8_gather_31 rfl ?_
  refine q_getf dX8_gather_32 fk_X8_26_7 a2 n4 ?_
  refine q_ifnonnull 46 dX8_gather_35 (by decide) ?_
  first | refine q_aload_n dX8_gather_46 rfl ?_ | refine q_aload_nN dX8_gather_46 rfl ?_
  refine q_getf dX8_gather_47 fk_X8_26_7 a2 n4 ?_
  first | refine q_aload_n dX8_gather_50 rfl ?_ | refine q_aload_nN dX8_gather_50 rfl ?_
  refine q_iload_n dX8_gather_51 rfl ?_
  first | refine q_aload_n dX8_gather_52 rfl ?_ | refine q_aload_nN dX8_gather_52 rfl ?_
  refine q_callV 7 dX8_gather_53 mk_X8_76 rfl (hS s1 (by omega)).1.2.1 (ih s1 f Z σ (by omega) hd1 (by omega) hF hS hb hbl) rfl np_X8_gather (by first | decide | omega | (dsimp only; omega)) (by first | decide | omega | (dsimp only; omega)) (by first | decide | omega | (dsimp only; omega)) (Nat.le_of_ble_eq_true rfl) (kI (fun r53 Z53 h53 => ?_))
  obtain ⟨⟨g1, g2, g3, g4, g5, g6⟩, g7⟩ := h53
  have hkp := kp8_gS n s1 σ
  rcases hg : gS n s1 σ with ⟨e | L1, τ⟩
  · rw [hg] at g1 g2 g3 g6 hge
    dsimp only at g1 g2 g3 g6 hge
    refine q_istore (ls' := [_, _, _, _, _, _]) dX8_gather_56 rfl rfl (Nat.le_of_ble_eq_true rfl) (by decide) ?_
    refine q_iload dX8_gather_58 rfl ?_
    refine q_if_ge 66 dX8_gather_60 (by decide) (fun c60 => absurd c60 (by rw [g6.1]; exact g6.2)) (fun c60 => ?_)
    refine q_iload dX8_gather_63 rfl ?_
    exact q_ireturn dX8_gather_65 rfl (by first | decide | omega | (dsimp only; omega)) (by first | decide | omega | (dsimp only; omega)) (by rw [hge]; exact ⟨⟨g1, g2, g3, g4, g5, g6⟩, fun K hK => by cases hK⟩)
  · rw [hg] at g1 g2 g3 g6 g7 hge hkp
    dsimp only at g1 g2 g3 g6 g7 hge hkp
    obtain ⟨g8, g9⟩ := g6
    have g10 := g7 L1 rfl
    subst g8
    have hSt := SIs_GF hS g4 hkp
    obtain ⟨⟨b1, b2, b3, b4, b5⟩, p1, p2, p3⟩ := hSt s hs
    have hkS := hkp.kS
    refine q_istore (ls' := [_, _, _, _, _, _]) dX8_gather_56 rfl rfl (Nat.le_of_ble_eq_true rfl) (by decide) ?_
    refine q_iload dX8_gather_58 rfl ?_
    refine q_if_ge 66 dX8_gather_60 (by decide) (fun c60 => ?_) (fun c60 => absurd c60 (not_not_intro (nI_pos' (by omega))))
    first | refine q_aload_n dX8_gather_66 rfl ?_ | refine q_aload_nN dX8_gather_66 rfl ?_
    refine q_getf dX8_gather_67 fk_X8_30_7 b2 ((g4.2.2.2.2.1 5 (as s) (by omega) (by rw [a2]; omega)).trans n5) ?_
    refine q_ifnonnullN dX8_gather_70 ?_
    first | refine q_aload_n dX8_gather_73 rfl ?_ | refine q_aload_nN dX8_gather_73 rfl ?_
    first | refine q_aload_n dX8_gather_74 rfl ?_ | refine q_aload_nN dX8_gather_74 rfl ?_
    refine q_iload_n dX8_gather_75 rfl ?_
    refine q_iload_n dX8_gather_76 rfl ?_
    refine q_iload dX8_gather_77 rfl ?_
    refine q_iadd dX8_gather_79 ?_
    first | refine q_aload_n dX8_gather_80 rfl ?_ | refine q_aload_nN dX8_gather_80 rfl ?_
    rw [nI_add]
    refine q_callV 7 dX8_gather_81 mk_X8_79 rfl b2 (cg_one8 l G Z53 x (as s) f L1 g1.1 b2 (by omega) g9 (by rw [b3, hkS.1 17 (by omega), h17]) v7 ((g4.2.2.2.2.1 7 (as s) (by omega) (by rw [a2]; omega)).trans n7) hv6 hv7) rfl np_X8_keepOfOne (by first | decide | omega | (dsimp only; omega)) (by first | decide | omega | (dsimp only; omega)) (by first | decide | omega | (dsimp only; omega)) (Nat.le_of_ble_eq_true rfl) (kI (fun r81 Z81 h81 => ?_))
    exact q_ireturn dX8_gather_84 rfl (by first | decide | omega | (dsimp only; omega)) (by first | decide | omega | (dsimp only; omega)) (by rw [hge, if_neg (by rw [h17]; decide), if_neg (by rw [h17]; decide), if_neg (by rw [h17]; decide), if_pos h17, h21, nI_clamp (show v7 < 2 ^ 31 by omega)]; exact ⟨gP_tr g4 g5 (h81.gP g1 g2 g3), fun K hK => by (have hE := Sum.inr.inj hK; rw [← hE]; simp only [evL, List.length_map, List.length_range]; exact Nat.le_trans (evN_le hv6) g10)⟩)
set_option maxHeartbeats 600000 in
set_option maxRecDepth 100000 in
theorem cg_m7 (l : Launch) (G : Gt) (Z : Zt) (x n nf ns s f : Nat) (af as : Nat → Nat) (σ : St) (hF : FIs Z x σ af nf) (hS : SIs Z x σ af as nf ns) (hb : brO Z x σ) (hbl : bLe σ) (hs : s < ns) (hf : f + 200 * (n + 1) ≤ 1200) (hp : σ.1 24 s = 0) (hso : 2 ≤ σ.1 17 s ∧ σ.1 17 s ≤ 8) (s1 : Nat) (hs1 : s1 < s) (h20 : ns ≤ 20) (h18 : σ.1 18 s = nI s1) (n4 : zF Z 4 (as s) = .ref (as s1)) (hd1 : sdp σ s1 ≤ n) (ih : ∀ (s f : Nat) (Z : Zt) (σ : St), s < ns → sdp σ s ≤ n → f + 200 * n ≤ 1200 → FIs Z x σ af nf → SIs Z x σ af as nf ns → brO Z x σ → bLe σ → gC l G x nf af as n s f Z σ) (h17 : σ.1 17 s = 7) (n5 : zF Z 5 (as s) = .null) (fi : Nat) (hfi : fi < nf) (h20f : σ.1 20 s = nI fi) (n6 : zF Z 6 (as s) = .ref (af fi)) : Ct l G YX8_gather (n + 13, 0, 0) Z [.ref (as s), .ref (x + 11), .int (nI f), .ref (x + 5)] (ΦI (fun r Z1 => gP x af nf f Z (gS (n + 1) s σ) r Z1 ∧ ∀ K, (gS (n + 1) s σ).1 = .inr K → K.length ≤ 200)) := by
  refine ct_of [some (.ref (as s)), some (.ref (x + 11)), some (.int (nI f)), some (.ref (x + 5)), none, none] (by decide +kernel) (Nat.le_of_ble_eq_true rfl) rfl (fun M => ?_)
  obtain ⟨⟨a1, a2, a3, a4, a5⟩, o1, o2, o3⟩ := hS s hs
  have hKp : zK Z (x + 11) = 21 := hF.1.2.2.2.1.2.2.2.2.1
  have hLp : zL Z (x + 11) = 1200 := hF.1.2.2.2.1.2.2.2.2.2
  have hKt := hF.1.2.2.1.1
  obtain ⟨n2, -, -, -⟩ := o2 hp
  have hge := gS_made (n := n) hp hso h18 (by omega)
  refine q_iload_n dX8_gather_0 rfl ?_
  refine q_if_lt 14 dX8_gather_1 (by decide) (fun c1 => absurd c1 (nI_pos (by omega))) (fun c1 => ?_)
  refine q_iload_n dX8_gather_4 rfl ?_
  first | refine q_aload_n dX8_gather_5 rfl ?_ | refine q_aload_nN dX8_gather_5 rfl ?_
  refine q_alenJ dX8_gather_6 hKp ?_
  refine q_sipush (v := 200) dX8_gather_7 (by decide) ?_
  refine q_isub dX8_gather_10 ?_
  rw [show Int32.ofNat (zL Z (x + 11)) - 200 = nI 1000 by rw [hLp]; decide]
  refine q_icmp_le 17 dX8_gather_11 (by decide) (fun c11 => ?_) (fun c11 => absurd c11 (not_not_intro (nI_le (by omega) (by omega))))
  first | refine q_aload_n dX8_gather_17 rfl ?_ | refine q_aload_nN dX8_gather_17 rfl ?_
  refine q_getf dX8_gather_18 fk_X8_18_7 a2 n2 ?_
  refine q_ifnullN 31 dX8_gather_21 (by decide) ?_
  first | refine q_aload_n dX8_gather_31 rfl ?_ | refine q_aload_nN dX8_gather_31 rfl ?_
  refine q_getf dX8_gather_32 fk_X8_26_7 a2 n4 ?_
  refine q_ifnonnull 46 dX8_gather_35 (by decide) ?_
  first | refine q_aload_n dX8_gather_46 rfl ?_ | refine q_aload_nN dX8_gather_46 rfl ?_
  refine q_getf dX8_gather_47 fk_X8_26_7 a2 n4 ?_
  first | refine q_aload_n dX8_gather_50 rfl ?_ | refine q_aload_nN dX8_gather_50 rfl ?_
  refine q_iload_n dX8_gather_51 rfl ?_
  first | refine q_aload_n dX8_gather_52 rfl ?_ | refine q_aload_nN dX8_gather_52 rfl ?_
  refine q_callV 7 dX8_gather_53 mk_X8_76 rfl (hS s1 (by omega)).1.2.1 (ih s1 f Z σ (by omega) hd1 (by omega) hF hS hb hbl) rfl np_X8_gather (by first | decide | omega | (dsimp only; omega)) (by first | decide | omega | (dsimp only; omega)) (by first | decide | omega | (dsimp only; omega)) (Nat.le_of_ble_eq_true rfl) (kI (fun r53 Z53 h53 => ?_))
  obtain ⟨⟨g1, g2, g3, g4, g5, g6⟩, g7⟩ := h53
  have hkp := kp8_gS n s1 σ
  rcases hg : gS n s1 σ with ⟨e | L1, τ⟩
  · rw [hg] at g1 g2 g3 g6 hge
    dsimp only at g1 g2 g3 g6 hge
    refine q_istore (ls' := [_, _, _, _, _, _]) dX8_gather_56 rfl rfl (Nat.le_of_ble_eq_true rfl) (by decide) ?_
    refine q_iload dX8_gather_58 rfl ?_
    refine q_if_ge 66 dX8_gather_60 (by decide) (fun c60 => absurd c60 (by rw [g6.1]; exact g6.2)) (fun c60 => ?_)
    refine q_iload dX8_gather_63 rfl ?_
    exact q_ireturn dX8_gather_65 rfl (by first | decide | omega | (dsimp only; omega)) (by first | decide | omega | (dsimp only; omega)) (by rw [hge]; exact ⟨⟨g1, g2, g3, g4, g5, g6⟩, fun K hK => by cases hK⟩)
  · rw [hg] at g1 g2 g3 g6 g7 hge hkp
    dsimp only at g1 g2 g3 g6 g7 hge hkp
    obtain ⟨g8, g9⟩ := g6
    have g10 := g7 L1 rfl
    subst g8
    have hSt := SIs_GF hS g4 hkp
    obtain ⟨⟨b1, b2, b3, b4, b5⟩, p1, p2, p3⟩ := hSt s hs
    have hkS := hkp.kS
    refine q_istore (ls' := [_, _, _, _, _, _]) dX8_gather_56 rfl rfl (Nat.le_of_ble_eq_true rfl) (by decide) ?_
    refine q_iload dX8_gather_58 rfl ?_
    refine q_if_ge 66 dX8_gather_60 (by decide) (fun c60 => ?_) (fun c60 => absurd c60 (not_not_intro (nI_pos' (by omega))))
    first | refine q_aload_n dX8_gather_66 rfl ?_ | refine q_aload_nN dX8_gather_66 rfl ?_
    refine q_getf dX8_gather_67 fk_X8_30_7 b2 ((g4.2.2.2.2.1 5 (as s) (by omega) (by rw [a2]; omega)).trans n5) ?_
    refine q_ifnonnullN dX8_gather_70 ?_
    first | refine q_aload_n dX8_gather_73 rfl ?_ | refine q_aload_nN dX8_gather_73 rfl ?_
    first | refine q_aload_n dX8_gather_74 rfl ?_ | refine q_aload_nN dX8_gather_74 rfl ?_
    refine q_iload_n dX8_gather_75 rfl ?_
    refine q_iload_n dX8_gather_76 rfl ?_
    refine q_iload dX8_gather_77 rfl ?_
    refine q_iadd dX8_gather_79 ?_
    first | refine q_aload_n dX8_gather_80 rfl ?_ | refine q_aload_nN dX8_gather_80 rfl ?_
    rw [nI_add]
    refine q_callV 7 dX8_gather_81 mk_X8_79 rfl b2 (cg_one7 l G Z53 x nf fi (as s) f af τ L1 g1 g2 g3 hfi a1 b2 (by rw [b3, hkS.1 17 (by omega), h17]) ((g4.2.2.2.2.1 6 (as s) (by omega) (by rw [a2]; omega)).trans n6) (by omega) g9) rfl np_X8_keepOfOne (by first | decide | omega | (dsimp only; omega)) (by first | decide | omega | (dsimp only; omega)) (by first | decide | omega | (dsimp only; omega)) (Nat.le_of_ble_eq_true rfl) (kI (fun r81 Z81 h81 => ?_))
    exact q_ireturn dX8_gather_84 rfl (by first | decide | omega | (dsimp only; omega)) (by first | decide | omega | (dsimp only; omega)) (by rw [hge, if_neg (by rw [h17]; decide), if_neg (by rw [h17]; decide), if_neg (by rw [h17]; decide), if_neg (by rw [h17]; decide), h20f, nI_clamp (show fi < 2 ^ 31 by have := hF.2.2.2.2.2.1; omega)]; exact ⟨gP_tr g4 g5 h81, fun K hK => Nat.le_trans (pS_len fi L1 τ K hK) g10⟩)
theorem joinG {x nf f : Nat} {af : Nat → Nat} {υ : St} {so r : Int32} {Z Z1 Z2 : Zt} {L1 L2 : List Int64} (hj : so = 2) (hF : FIs Z1 x υ af nf) (hb : brO Z1 x υ) (hl : bLe υ) (hG : GF x Z Z1) (hj2 : ∀ j, j < f → zJ Z1 (x + 11) j = zJ Z (x + 11) j) (hA : At (zJ Z1 (x + 11)) f (L1 ++ L2)) (h : Z2 = Z1 ∧ (200 < L1.length + L2.length → r = -4) ∧ (L1.length + L2.length ≤ 200 → r = nI (L1.length + L2.length))) : gP x af nf f Z (twoS so L1 L2, υ) r Z2 ∧ ∀ K, (twoS so L1 L2, υ).1 = .inr K → K.length ≤ 200 := by
  obtain ⟨rfl, h1, h2⟩ := h
  unfold twoS
  rw [if_pos hj]
  by_cases hc : 200 < L1.length + L2.length
  · rw [if_pos hc]
    exact ⟨⟨hF, hb, hl, hG, hj2, h1 hc, by decide⟩, fun K hK => by cases hK⟩
  · rw [if_neg hc]
    refine ⟨⟨hF, hb, hl, hG, hj2, ?_, hA⟩, fun K hK => ?_⟩
    · rw [List.length_append]; exact h2 (by omega)
    · have hE := Sum.inr.inj hK
      rw [← hE, List.length_append]; omega
theorem selG {x nf f : Nat} {af : Nat → Nat} {υ : St} {so r : Int32} {Z Z1 Z2 : Zt} {L1 L2 : List Int64} (hj : ¬ so = 2) (hF : FIs Z1 x υ af nf) (hb : brO Z1 x υ) (hl : bLe υ) (hG : GF x Z Z1) (hj2 : ∀ j, j < f → zJ Z1 (x + 11) j = zJ Z (x + 11) j) (h10 : L1.length ≤ 200) (h : r = nI (selL (decide (so = 3)) L2 L1).length ∧ ∃ g, Z2 = tJ Z1 (x + 11) g ∧ At g f (selL (decide (so = 3)) L2 L1) ∧ (∀ j, (j < f ∨ f + L1.length ≤ j) → g j = zJ Z1 (x + 11) j)) : gP x af nf f Z (twoS so L1 L2, υ) r Z2 ∧ ∀ K, (twoS so L1 L2, υ).1 = .inr K → K.length ≤ 200 := by
  obtain ⟨h1, g, h2, h3, h4⟩ := h
  unfold twoS
  rw [if_neg hj]
  refine ⟨gP_tr hG hj2 (poolP.gP ⟨h1, g, h2, h3, fun j hh => h4 j (Or.inl hh)⟩ hF hb hl), fun K hK => ?_⟩
  have hE := Sum.inr.inj hK
  rw [← hE]; exact Nat.le_trans (sel_len _ _ _) h10
set_option maxHeartbeats 600000 in
set_option maxRecDepth 100000 in
theorem cg_two (l : Launch) (G : Gt) (Z : Zt) (x n nf ns s f : Nat) (af as : Nat → Nat) (σ : St) (hF : FIs Z x σ af nf) (hS : SIs Z x σ af as nf ns) (hb : brO Z x σ) (hbl : bLe σ) (hs : s < ns) (hf : f + 200 * (n + 1) ≤ 1200) (hp : σ.1 24 s = 0) (hso : 2 ≤ σ.1 17 s ∧ σ.1 17 s ≤ 8) (s1 : Nat) (hs1 : s1 < s) (h20 : ns ≤ 20) (h18 : σ.1 18 s = nI s1) (n4 : zF Z 4 (as s) = .ref (as s1)) (hd1 : sdp σ s1 ≤ n) (ih : ∀ (s f : Nat) (Z : Zt) (σ : St), s < ns → sdp σ s ≤ n → f + 200 * n ≤ 1200 → FIs Z x σ af nf → SIs Z x σ af as nf ns → brO Z x σ → bLe σ → gC l G x nf af as n s f Z σ) (h17 : 2 ≤ σ.1 17 s ∧ σ.1 17 s ≤ 4) (t1 : Nat) (ht1 : t1 < s) (h19 : σ.1 19 s = nI t1) (n5 : zF Z 5 (as s) = .ref (as t1)) (hdt0 : sdp σ t1 ≤ n) : Ct l G YX8_gather (n + 13, 0, 0) Z [.ref (as s), .ref (x + 11), .int (nI f), .ref (x + 5)] (ΦI (fun r Z1 => gP x af nf f Z (gS (n + 1) s σ) r Z1 ∧ ∀ K, (gS (n + 1) s σ).1 = .inr K → K.length ≤ 200)) := by
  refine ct_of [some (.ref (as s)), some (.ref (x + 11)), some (.int (nI f)), some (.ref (x + 5)), none, none] (by decide +kernel) (Nat.le_of_ble_eq_true rfl) rfl (fun M => ?_)
  obtain ⟨⟨a1, a2, a3, a4, a5⟩, o1, o2, o3⟩ := hS s hs
  have hKp : zK Z (x + 11) = 21 := hF.1.2.2.2.1.2.2.2.2.1
  have hLp : zL Z (x + 11) = 1200 := hF.1.2.2.2.1.2.2.2.2.2
  have hKt := hF.1.2.2.1.1
  obtain ⟨n2, -, -, -⟩ := o2 hp
  have hge := gS_made (n := n) hp hso h18 (by omega)
  obtain ⟨d0, e0, e1, e2, -⟩ := (hS s1 (by omega)).1.2.2.2.1
  have hn1 : 1 ≤ n := by
    have e3 := hd1
    unfold sdp at e3
    rw [e2, nI_clamp (by omega)] at e3
    omega
  refine q_iload_n dX8_gather_0 rfl ?_
  refine q_if_lt 14 dX8_gather_1 (by decide) (fun c1 => absurd c1 (nI_pos (by omega))) (fun c1 => ?_)
  refine q_iload_n dX8_gather_4 rfl ?_
  first | refine q_aload_n dX8_gather_5 rfl ?_ | refine q_aload_nN dX8_gather_5 rfl ?_
  refine q_alenJ dX8_gather_6 hKp ?_
  refine q_sipush (v := 200) dX8_gather_7 (by decide) ?_
  refine q_isub dX8_gather_10 ?_
  rw [show Int32.ofNat (zL Z (x + 11)) - 200 = nI 1000 by rw [hLp]; decide]
  refine q_icmp_le 17 dX8_gather_11 (by decide) (fun c11 => ?_) (fun c11 => absurd c11 (not_not_intro (nI_le (by omega) (by omega))))
  first | refine q_aload_n dX8_gather_17 rfl ?_ | refine q_aload_nN dX8_gather_17 rfl ?_
  refine q_getf dX8_gather_18 fk_X8_18_7 a2 n2 ?_
  refine q_ifnullN 31 dX8_gather_21 (by decide) ?_
  first | refine q_aload_n dX8_gather_31 rfl ?_ | refine q_aload_nN dX8_gather_31 rfl ?_
  refine q_getf dX8_gather_32 fk_X8_26_7 a2 n4 ?_
  refine q_ifnonnull 46 dX8_gather_35 (by decide) ?_
  first | refine q_aload_n dX8_gather_46 rfl ?_ | refine q_aload_nN dX8_gather_46 rfl ?_
  refine q_getf dX8_gather_47 fk_X8_26_7 a2 n4 ?_
  first | refine q_aload_n dX8_gather_50 rfl ?_ | refine q_aload_nN dX8_gather_50 rfl ?_
  refine q_iload_n dX8_gather_51 rfl ?_
  first | refine q_aload_n dX8_gather_52 rfl ?_ | refine q_aload_nN dX8_gather_52 rfl ?_
  refine q_callV 7 dX8_gather_53 mk_X8_76 rfl (hS s1 (by omega)).1.2.1 (ih s1 f Z σ (by omega) hd1 (by omega) hF hS hb hbl) rfl np_X8_gather (by first | decide | omega | (dsimp only; omega)) (by first | decide | omega | (dsimp only; omega)) (by first | decide | omega | (dsimp only; omega)) (Nat.le_of_ble_eq_true rfl) (kI (fun r53 Z53 h53 => ?_))
  obtain ⟨⟨g1, g2, g3, g4, g5, g6⟩, g7⟩ := h53
  have hkp := kp8_gS n s1 σ
  rcases hg : gS n s1 σ with ⟨e | L1, τ⟩
  · rw [hg] at g1 g2 g3 g6 hge
    dsimp only at g1 g2 g3 g6 hge
    refine q_istore (ls' := [_, _, _, _, _, _]) dX8_gather_56 rfl rfl (Nat.le_of_ble_eq_true rfl) (by decide) ?_
    refine q_iload dX8_gather_58 rfl ?_
    refine q_if_ge 66 dX8_gather_60 (by decide) (fun c60 => absurd c60 (by rw [g6.1]; exact g6.2)) (fun c60 => ?_)
    refine q_iload dX8_gather_63 rfl ?_
    exact q_ireturn dX8_gather_65 rfl (by first | decide | omega | (dsimp only; omega)) (by first | decide | omega | (dsimp only; omega)) (by rw [hge]; exact ⟨⟨g1, g2, g3, g4, g5, g6⟩, fun K hK => by cases hK⟩)
  · rw [hg] at g1 g2 g3 g6 g7 hge hkp
    dsimp only at g1 g2 g3 g6 g7 hge hkp
    obtain ⟨g8, g9⟩ := g6
    have g10 := g7 L1 rfl
    subst g8
    have hSt := SIs_GF hS g4 hkp
    obtain ⟨⟨b1, b2, b3, b4, b5⟩, p1, p2, p3⟩ := hSt s hs
    have hkS := hkp.kS
    rw [if_pos h17, h19, nI_clamp (by omega)] at hge
    have hdt : sdp τ t1 ≤ n := by
      have e1 : sdp τ t1 = sdp σ t1 := by unfold sdp; rw [hkS.1 23 (by omega)]
      omega
    refine q_istore (ls' := [_, _, _, _, _, _]) dX8_gather_56 rfl rfl (Nat.le_of_ble_eq_true rfl) (by decide) ?_
    refine q_iload dX8_gather_58 rfl ?_
    refine q_if_ge 66 dX8_gather_60 (by decide) (fun c60 => ?_) (fun c60 => absurd c60 (not_not_intro (nI_pos' (by omega))))
    first | refine q_aload_n dX8_gather_66 rfl ?_ | refine q_aload_nN dX8_gather_66 rfl ?_
    refine q_getf dX8_gather_67 fk_X8_30_7 b2 ((g4.2.2.2.2.1 5 (as s) (by omega) (by rw [a2]; omega)).trans n5) ?_
    refine q_ifnonnull 85 dX8_gather_70 (by decide) ?_
    first | refine q_aload_n dX8_gather_85 rfl ?_ | refine q_aload_nN dX8_gather_85 rfl ?_
    refine q_getf dX8_gather_86 fk_X8_30_7 b2 ((g4.2.2.2.2.1 5 (as s) (by omega) (by rw [a2]; omega)).trans n5) ?_
    first | refine q_aload_n dX8_gather_89 rfl ?_ | refine q_aload_nN dX8_gather_89 rfl ?_
    refine q_iload_n dX8_gather_90 rfl ?_
    refine q_iload dX8_gather_91 rfl ?_
    refine q_iadd dX8_gather_93 ?_
    rw [nI_add]
    first | refine q_aload_n dX8_gather_94 rfl ?_ | refine q_aload_nN dX8_gather_94 rfl ?_
    refine q_callV 7 dX8_gather_95 mk_X8_76 rfl (hSt t1 (by omega)).1.2.1 (ih t1 (f + L1.length) Z53 τ (by omega) hdt (by omega) g1 hSt g2 g3) rfl np_X8_gather (by first | decide | omega | (dsimp only; omega)) (by first | decide | omega | (dsimp only; omega)) (by first | decide | omega | (dsimp only; omega)) (Nat.le_of_ble_eq_true rfl) (kI (fun r95 Z95 h95 => ?_))
    obtain ⟨⟨k1, k2, k3, k4, k5, k6⟩, k7⟩ := h95
    have hkq := kp8_gS n t1 τ
    have hG2 := g4.tr k4
    have hj2 : ∀ j, j < f → zJ Z95 (x + 11) j = zJ Z (x + 11) j := fun j hj => (k5 j (by omega)).trans (g5 j hj)
    rcases hg2 : gS n t1 τ with ⟨e | L2, υ⟩
    · rw [hg2] at k1 k2 k3 k6
      dsimp only at k1 k2 k3 k6
      refine q_istore (ls' := [_, _, _, _, _, _]) dX8_gather_98 rfl rfl (Nat.le_of_ble_eq_true rfl) (by decide) ?_
      refine q_iload dX8_gather_100 rfl ?_
      refine q_if_ge 110 dX8_gather_102 (by decide) (fun c102 => absurd c102 (by rw [k6.1]; exact k6.2)) (fun c102 => ?_)
      refine q_iload dX8_gather_105 rfl ?_
      refine q_goto 127 dX8_gather_107 (by decide) ?_
      exact q_ireturn dX8_gather_127 rfl (by first | decide | omega | (dsimp only; omega)) (by first | decide | omega | (dsimp only; omega)) (by rw [hge, hg2]; exact ⟨⟨k1, k2, k3, hG2, hj2, k6⟩, fun K hK => by cases hK⟩)
    · rw [hg2] at k1 k2 k3 k6 k7 hkq
      dsimp only at k1 k2 k3 k6 k7 hkq
      obtain ⟨k8, k9⟩ := k6
      have k10 := k7 L2 rfl
      subst k8
      have hSu := SIs_GF hSt k4 hkq
      obtain ⟨⟨d1, d2, d3, d4, d5⟩, -⟩ := hSu s hs
      have hA1 : At (zJ Z95 (x + 11)) f L1 := At_same g9 (fun j h1 h2 => k5 j (by omega))
      have h0 : zF Z95 0 (as s) = .int (σ.1 17 s) := by rw [d3, hkq.kS.1 17 (by omega), hkS.1 17 (by omega)]
      rw [hg2] at hge
      dsimp only at hge
      by_cases hj : σ.1 17 s = 2
      · refine q_istore (ls' := [_, _, _, _, _, _]) dX8_gather_98 rfl rfl (Nat.le_of_ble_eq_true rfl) (by decide) ?_
        refine q_iload dX8_gather_100 rfl ?_
        refine q_if_ge 110 dX8_gather_102 (by decide) (fun c102 => ?_) (fun c102 => absurd c102 (not_not_intro (nI_pos' (by omega))))
        have hKp5 : zK Z95 (x + 11) = 21 := k1.1.2.2.2.1.2.2.2.2.1
        have hLp5 : zL Z95 (x + 11) = 1200 := k1.1.2.2.2.1.2.2.2.2.2
        first | refine q_aload_n dX8_gather_110 rfl ?_ | refine q_aload_nN dX8_gather_110 rfl ?_
        first | refine q_aload_n dX8_gather_111 rfl ?_ | refine q_aload_nN dX8_gather_111 rfl ?_
        refine q_iload_n dX8_gather_112 rfl ?_
        refine q_iload_n dX8_gather_113 rfl ?_
        refine q_iload dX8_gather_114 rfl ?_
        refine q_iadd dX8_gather_116 ?_
        rw [nI_add]
        refine q_iload_n dX8_gather_117 rfl ?_
        refine q_iload dX8_gather_118 rfl ?_
        refine q_iadd dX8_gather_120 ?_
        rw [nI_add]
        refine q_iload dX8_gather_121 rfl ?_
        refine q_iadd dX8_gather_123 ?_
        rw [nI_add]
        refine q_callV 7 dX8_gather_124 mk_X8_83 rfl d2 (c_X8_keepOfTwo_join l G Z95 (as s) (x + 11) f (σ.1 17 s) L1 L2 d2 h0 hKp5 hLp5 (by omega) hj) rfl np_X8_keepOfTwo (by first | decide | omega | (dsimp only; omega)) (by first | decide | omega | (dsimp only; omega)) (by first | decide | omega | (dsimp only; omega)) (Nat.le_of_ble_eq_true rfl) (kI (fun r124 Z124 h124 => ?_))
        exact q_ireturn dX8_gather_127 rfl (by first | decide | omega | (dsimp only; omega)) (by first | decide | omega | (dsimp only; omega)) (by rw [hge]; exact joinG hj k1 k2 k3 hG2 hj2 (At_app hA1 k9) h124)
      · refine q_istore (ls' := [_, _, _, _, _, _]) dX8_gather_98 rfl rfl (Nat.le_of_ble_eq_true rfl) (by decide) ?_
        refine q_iload dX8_gather_100 rfl ?_
        refine q_if_ge 110 dX8_gather_102 (by decide) (fun c102 => ?_) (fun c102 => absurd c102 (not_not_intro (nI_pos' (by omega))))
        have hKp5 : zK Z95 (x + 11) = 21 := k1.1.2.2.2.1.2.2.2.2.1
        have hLp5 : zL Z95 (x + 11) = 1200 := k1.1.2.2.2.1.2.2.2.2.2
        first | refine q_aload_n dX8_gather_110 rfl ?_ | refine q_aload_nN dX8_gather_110 rfl ?_
        first | refine q_aload_n dX8_gather_111 rfl ?_ | refine q_aload_nN dX8_gather_111 rfl ?_
        refine q_iload_n dX8_gather_112 rfl ?_
        refine q_iload_n dX8_gather_113 rfl ?_
        refine q_iload dX8_gather_114 rfl ?_
        refine q_iadd dX8_gather_116 ?_
        rw [nI_add]
        refine q_iload_n dX8_gather_117 rfl ?_
        refine q_iload dX8_gather_118 rfl ?_
        refine q_iadd dX8_gather_120 ?_
        rw [nI_add]
        refine q_iload dX8_gather_121 rfl ?_
        refine q_iadd dX8_gather_123 ?_
        rw [nI_add]
        refine q_callV 7 dX8_gather_124 mk_X8_83 rfl d2 (c_X8_keepOfTwo_sel l G Z95 (as s) (x + 11) f (σ.1 17 s) L1 L2 d2 h0 hKp5 hLp5 (by omega) hj hA1 k9) rfl np_X8_keepOfTwo (by first | decide | omega | (dsimp only; omega)) (by first | decide | omega | (dsimp only; omega)) (by first | decide | omega | (dsimp only; omega)) (Nat.le_of_ble_eq_true rfl) (kI (fun r124 Z124 h124 => ?_))
        exact q_ireturn dX8_gather_127 rfl (by first | decide | omega | (dsimp only; omega)) (by first | decide | omega | (dsimp only; omega)) (by rw [hge]; exact selG hj k1 k2 k3 hG2 hj2 g10 h124)
/-- A SOURCE IS GONE THROUGH -/
theorem cg (l : Launch) (G : Gt) (x nf ns : Nat) (af as : Nat → Nat) (h20 : ns ≤ 20) : ∀ (n s f : Nat) (Z : Zt) (σ : St), s < ns → sdp σ s ≤ n → f + 200 * n ≤ 1200 → FIs Z x σ af nf → SIs Z x σ af as nf ns → brO Z x σ → bLe σ → gC l G x nf af as n s f Z σ := by
  intro n
  induction n with
  | zero =>
    intro s f Z σ hs hd hf hF hS hb hbl
    obtain ⟨-, -, -, ⟨d, d1, d2, d3, -⟩, -⟩ := (hS s hs).1
    unfold sdp at hd
    rw [d3, nI_clamp (by omega)] at hd
    omega
  | succ n ih =>
    intro s f Z σ hs hd hf hF hS hb hbl
    obtain ⟨⟨a1, a2, a3, a4, a5⟩, o1, o2, o3⟩ := hS s hs
    rcases a5 with hp | hp
    · obtain ⟨n2, hso, -⟩ := o2 hp
      rcases hso with hso | hso | hso
      · exact cg_list l G Z x n nf ns s f af as σ hF hS hb hbl hs hf hp hso
      · exact cg_shelf l G Z x n nf ns s f af as σ hF hS hb hbl hs hf hp hso
      · obtain ⟨⟨s1, hs1, h18, n4, hd1⟩, ht, hnt, h6, h8, h7⟩ := o3 hp hso
        by_cases h17 : 2 ≤ σ.1 17 s ∧ σ.1 17 s ≤ 4
        · obtain ⟨t1, ht1, h19, n5, hdt⟩ := ht h17
          exact cg_two l G Z x n nf ns s f af as σ hF hS hb hbl hs hf hp hso s1 hs1 h20 h18 n4 (by omega) ih h17 t1 ht1 h19 n5 (by omega)
        · have n5 := hnt h17
          by_cases c5 : σ.1 17 s = 5
          · exact cg_m5 l G Z x n nf ns s f af as σ hF hS hb hbl hs hf hp hso s1 hs1 h20 h18 n4 (by omega) ih c5 n5
          · by_cases c6 : σ.1 17 s = 6
            · obtain ⟨n8, v7, q1, q2, q3⟩ := h6 c6
              exact cg_m6 l G Z x n nf ns s f af as σ hF hS hb hbl hs hf hp hso s1 hs1 h20 h18 n4 (by omega) ih c6 n5 v7 q1 q2 n8 q3
            · by_cases c8 : σ.1 17 s = 8
              · obtain ⟨v7, q0, q1, q2, q3⟩ := h8 c8
                exact cg_m8 l G Z x n nf ns s f af as σ hF hS hb hbl hs hf hp hso s1 hs1 h20 h18 n4 (by omega) ih c8 n5 v7 q0 q1 q2 q3
              · have c7 : σ.1 17 s = 7 := so7 hso h17 c5 c6 c8
                obtain ⟨fi, q1, q2, q3⟩ := h7 c7
                exact cg_m7 l G Z x n nf ns s f af as σ hF hS hb hbl hs hf hp hso s1 hs1 h20 h18 n4 (by omega) ih c7 n5 fi q1 q2 q3
    · exact cg_plain l G Z x n nf ns s f af as σ hF hS hb hbl hs hf hp
