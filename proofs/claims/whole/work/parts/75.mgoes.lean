def PFs (σ : St) (nf ns : Nat) : Prop := ns ≤ 20 ∧ ∀ s, s < ns → (σ.1 24 s = 0 ∨ σ.1 24 s = 1) ∧ (1 ≤ sdp σ s ∧ sdp σ s ≤ 6) ∧ (σ.1 24 s = 1 → ¬ σ.2 27 s < 0) ∧ (σ.1 24 s = 0 → (σ.1 17 s = 1 ∨ σ.1 17 s = 9 ∨ (2 ≤ σ.1 17 s ∧ σ.1 17 s ≤ 8)) ∧ (σ.1 17 s = 1 → ∃ cn, cn ≤ 12 ∧ σ.2 27 s = lN cn) ∧ (σ.1 17 s = 9 → ∃ k, k < 6 ∧ σ.1 20 s = nI k) ∧ ((2 ≤ σ.1 17 s ∧ σ.1 17 s ≤ 8) → (∃ s1, s1 < s ∧ σ.1 18 s = nI s1 ∧ sdp σ s1 < sdp σ s) ∧ ((2 ≤ σ.1 17 s ∧ σ.1 17 s ≤ 4) → ∃ t1, t1 < s ∧ σ.1 19 s = nI t1 ∧ sdp σ t1 < sdp σ s) ∧ (σ.1 17 s = 6 → ∃ n, n ≤ 200 ∧ σ.1 21 s = nI n) ∧ (σ.1 17 s = 8 → ∃ n, 1 ≤ n ∧ n ≤ 200 ∧ σ.1 21 s = nI n) ∧ (σ.1 17 s = 7 → ∃ fi, fi < nf ∧ σ.1 20 s = nI fi)))
theorem PFs.kp {σ τ : St} {nf ns : Nat} (h : PFs σ nf ns) (k : kp8 σ τ) : PFs τ nf ns := by
  obtain ⟨k1, k2⟩ := k.kS
  unfold PFs sdp at h ⊢
  rw [k1 17 (by decide), k1 18 (by decide), k1 19 (by decide), k1 20 (by decide), k1 21 (by decide), k1 23 (by decide), k1 24 (by decide), k2 27 (by decide)]
  exact h
theorem CR.pfs {Z : Zt} {x nf ns : Nat} {σ : St} {af as : Nat → Nat} (h : CR Z x σ af as nf ns) : PFs σ nf ns := by
  refine ⟨h.2.2.2.2.1.2.2.2.1, fun s hs => ?_⟩
  obtain ⟨⟨-, -, -, ⟨d, d1, d2, d3, -⟩, a5⟩, b, c, f⟩ := h.2.1 s hs
  refine ⟨a5, ?_, fun hp => ?_, fun hp => ⟨(c hp).2.1, fun h1 => ?_, fun h9 => ?_, fun hm => ⟨?_, fun h4 => ?_, fun h6 => ?_, fun h8 => ?_, fun h7 => ?_⟩⟩⟩
  · unfold sdp; rw [d3, nI_clamp (by omega)]; exact ⟨d2, d1⟩
  · obtain ⟨-, q, -, -, -, f, st, cc, dd, -, -, -, -, -, e1, e2, -⟩ := b hp
    rw [← e1]; exact e2
  · obtain ⟨-, -, -, -, -, -, -, -, cn, g1, -, g3, -⟩ := (c hp).2.2.1 h1
    exact ⟨cn, g1, g3⟩
  · obtain ⟨-, k, k1, k2, -⟩ := (c hp).2.2.2 h9
    exact ⟨k, k1, k2⟩
  · obtain ⟨⟨s1, g1, g2, -, g4⟩, -⟩ := f hp hm
    exact ⟨s1, g1, g2, g4⟩
  · obtain ⟨t1, g1, g2, -, g4⟩ := (f hp hm).2.1 h4
    exact ⟨t1, g1, g2, g4⟩
  · obtain ⟨-, n, g1, g2, -⟩ := (f hp hm).2.2.2.1 h6
    exact ⟨n, g1, g2⟩
  · obtain ⟨n, g0, g1, g2, -⟩ := (f hp hm).2.2.2.2.1 h8
    exact ⟨n, g0, g1, g2⟩
  · obtain ⟨fi, g1, g2, -⟩ := (f hp hm).2.2.2.2.2 h7
    exact ⟨fi, g1, g2⟩
theorem GO_b {y : Nat} {Z0 Z1 : Zt} {row : Nat} {e : St} {q : (Int32 ⊕ List Int64) × St} {r : Int32} (h : GO y Z0 row e q r Z1) : r = 0 ∨ r = 1 := by
  obtain ⟨-, e1, -, -, h⟩ := h
  rcases q with ⟨er | L, τ⟩
  · exact Or.inl h.1
  · exact Or.inr h.1
theorem GO_tr {y : Nat} {Z0 Z Z1 : Zt} {row : Nat} {e e0 : St} {q q' : (Int32 ⊕ List Int64) × St} {r : Int32} (hF : MF y Z0 Z) (hE : EG row e0 e) (hq : q' = q) (h : GO y Z row e q r Z1) : GO y Z0 row e0 q' r Z1 := by
  subst hq
  obtain ⟨f, e1, m, g, h⟩ := h
  exact ⟨hF.tr f, e1, m, hE.tr g, h⟩
/-- a shelf as a source -/
def shS (σ : St) (k cn : Nat) : (Int32 ⊕ List Int64) × St := if σ.1 1 k = 0 then (.inl (failS σ 1 (-1)).1, (failS σ 1 (-1)).2) else if σ.1 1 k = 3 then (.inl (failS σ 5 (-1)).1, (failS σ 5 (-1)).2) else (.inr ((List.range cn).map (fun i => σ.2 4 (12 * k + i))), σ)
theorem gS_sh {n s k cn : Nat} {σ : St} (hp : σ.1 24 s = 0) (h9 : σ.1 17 s = 9) (h20 : σ.1 20 s = nI k) (hk : k < 6) (h2 : σ.1 2 k = nI cn) (hcn : cn ≤ 12) : gS (n + 1) s σ = shS σ k cn := by
  rw [gS, if_neg (by rw [hp]; decide), if_neg (by rw [h9]; decide), if_pos h9, h20, nI_clamp (by omega), h2, nI_clamp (by omega)]
  rfl
theorem gS_two {n s s1 t1 : Nat} {σ τ υ : St} {L1 L2 : List Int64} (hp : σ.1 24 s = 0) (hso : 2 ≤ σ.1 17 s ∧ σ.1 17 s ≤ 8) (h24 : 2 ≤ σ.1 17 s ∧ σ.1 17 s ≤ 4) (h18 : σ.1 18 s = nI s1) (h19 : σ.1 19 s = nI t1) (hs1 : s1 < 20) (ht1 : t1 < 20) (hq1 : gS n s1 σ = (.inr L1, τ)) (hq2 : gS n t1 τ = (.inr L2, υ)) : gS (n + 1) s σ = (twoS (σ.1 17 s) L1 L2, υ) := by
  rw [gS_made hp hso h18 hs1]
  generalize gS n s1 σ = q at hq1 ⊢
  subst hq1
  show (if 2 ≤ σ.1 17 s ∧ σ.1 17 s ≤ 4 then _ else _) = _
  rw [if_pos h24, h19, nI_clamp (by omega)]
  generalize gS n t1 τ = q at hq2 ⊢
  subst hq2
  rfl
theorem gS_twol {n s s1 t1 : Nat} {σ τ υ : St} {L1 : List Int64} {er : Int32} (hp : σ.1 24 s = 0) (hso : 2 ≤ σ.1 17 s ∧ σ.1 17 s ≤ 8) (h24 : 2 ≤ σ.1 17 s ∧ σ.1 17 s ≤ 4) (h18 : σ.1 18 s = nI s1) (h19 : σ.1 19 s = nI t1) (hs1 : s1 < 20) (ht1 : t1 < 20) (hq1 : gS n s1 σ = (.inr L1, τ)) (hq2 : gS n t1 τ = (.inl er, υ)) : gS (n + 1) s σ = (.inl er, υ) := by
  rw [gS_made hp hso h18 hs1]
  generalize gS n s1 σ = q at hq1 ⊢
  subst hq1
  show (if 2 ≤ σ.1 17 s ∧ σ.1 17 s ≤ 4 then _ else _) = _
  rw [if_pos h24, h19, nI_clamp (by omega)]
  generalize gS n t1 τ = q at hq2 ⊢
  subst hq2
  rfl
theorem gS_l {n s s1 : Nat} {σ τ : St} {er : Int32} (hp : σ.1 24 s = 0) (hso : 2 ≤ σ.1 17 s ∧ σ.1 17 s ≤ 8) (h18 : σ.1 18 s = nI s1) (hs1 : s1 < 20) (hq1 : gS n s1 σ = (.inl er, τ)) : gS (n + 1) s σ = (.inl er, τ) := by
  rw [gS_made hp hso h18 hs1]
  generalize gS n s1 σ = q at hq1 ⊢
  subst hq1
  rfl
theorem gS_one {n s s1 : Nat} {σ τ : St} {L1 : List Int64} (hp : σ.1 24 s = 0) (hso : 2 ≤ σ.1 17 s ∧ σ.1 17 s ≤ 8) (h24 : ¬ (2 ≤ σ.1 17 s ∧ σ.1 17 s ≤ 4)) (h18 : σ.1 18 s = nI s1) (hs1 : s1 < 20) (hk : kp8 σ τ) (hq1 : gS n s1 σ = (.inr L1, τ)) : gS (n + 1) s σ = oneS τ s L1 := by
  obtain ⟨k1, k2⟩ := hk.kS
  rw [gS_made hp hso h18 hs1]
  generalize gS n s1 σ = q at hq1 ⊢
  subst hq1
  show (if 2 ≤ σ.1 17 s ∧ σ.1 17 s ≤ 4 then _ else _) = _
  rw [if_neg h24, oneS, k1 17 (by decide), k1 20 (by decide), k1 21 (by decide), k2 22 (by decide)]
theorem bLe_fail {σ : St} (h : bLe σ) (e nm : Int32) : bLe (failS σ e nm).2 := by
  obtain ⟨b, m, h1, h2, h3, h4⟩ := h
  unfold failS
  split
  · exact ⟨b, m, h1, h2, h3, h4⟩
  next hc =>
    have hm : m < 20 := Nat.lt_of_not_le (fun z => hc (by rw [h2]; exact nI_le (a := 20) z (by omega)))
    refine ⟨b, m + 1, ?_, ?_, by omega, by omega⟩
    · show (pI (pI σ 15 0 _) 14 0 nm).1 32 0 = _
      rw [pI_ne (by decide), pI_ne (by decide)]; exact h1
    · show (pI (pI σ 15 0 _) 14 0 nm).1 15 0 = _
      rw [pI_ne (by decide), pI_at, h2, nI_1]
theorem bLe_pS (a : Nat) : ∀ (L : List Int64) (σ : St), bLe σ → bLe (pS a L σ).2
  | [], σ, h => h
  | c :: L, σ, h => by
    have hj := bLe_4 (n := 6) (f := a) (c := c) h rfl
    rw [pS]
    split
    · rw [cns_2]; exact bLe_pS a L _ hj
    next n1 =>
      split
      next hc =>
        obtain ⟨b0, m0, q1, q2, q3, q4⟩ := id h
        obtain ⟨m2, t1, t2, t3, t4⟩ := jOK_jS 6 a c σ m0 q2 q4
        have t5 : m0 + 1 ≤ m2 := by
          rcases t4 with e | e | e | e
          · exact absurd (by rw [e]; decide) hc.1
          · exact absurd e n1
          · exact absurd e hc.2
          · exact e.2
        have q5 : (jS 6 a c σ).2.1 32 0 = nI b0 := by rw [(kp4_jS 6 a c σ).1 32 (by decide) (by decide) (by decide) (by decide)]; exact q1
        exact bLe_pS a L _ (bLe_bar q5 t3 (by omega) t2)
      · split
        · exact hj
        · exact bLe_pS a L _ hj
theorem bLe_gS : ∀ (n s : Nat) (σ : St), bLe σ → bLe (gS n s σ).2
  | 0, s, σ, h => h
  | n + 1, s, σ, h => by
    rw [gS]
    split
    · split <;> exact h
    · split
      · exact h
      · split
        · split
          · exact bLe_fail h _ _
          · split
            · exact bLe_fail h _ _
            · exact h
        · have h1 := bLe_gS n (σ.1 18 s).toNatClampNeg σ h
          split
          next e τ he => rw [he] at h1; exact h1
          next L1 τ he =>
            rw [he] at h1
            split
            · have h2 := bLe_gS n (σ.1 19 s).toNatClampNeg τ h1
              split
              next e υ hu => rw [hu] at h2; exact h2
              next L2 υ hu => rw [hu] at h2; exact h2
            · split
              · exact h1
              · split
                · exact h1
                · split
                  · exact h1
                  · exact bLe_pS _ _ _ h1
set_option maxHeartbeats 600000 in
set_option maxRecDepth 100000 in
theorem mc_shelfOf (l : Launch) (G : Gt) (Z0 : Zt) (y : Nat) (σ e : St) (hM : MR Z0 y σ e) (row : Nat) (hrow : row < 16) (s : Nat) (hs : s < 20) (k cn : Nat) (hk : k < 6) (h20 : σ.1 20 s = nI k) (h2 : σ.1 2 k = nI cn) (hcn : cn ≤ 12) (hf : f15 σ) (h31 : e.1 31 0 = 0) (h0 : RW e row []) : Ct l G YX12_shelfOf (0 + 1, 0, 0) Z0 [.ref y, .int (nI s), .int (nI row)] (ΦI (GO y Z0 row e (shS σ k cn))) := by
  refine ct_of [some (.ref y), some (.int (nI s)), some (.int (nI row)), none, none] (by decide +kernel) (Nat.le_of_ble_eq_true rfl) rfl (fun M => ?_)
  have hF := MF.rf y Z0
  obtain ⟨nn, hnn, h15⟩ := hf
  first | refine q_aload_n dX12_shelfOf_0 rfl ?_ | refine q_aload_nN dX12_shelfOf_0 rfl ?_
  refine q_getf dX12_shelfOf_1 fk_X12_53_11 hM.K (hM.a 20 (by decide) (by decide)) ?_
  refine q_iload_n dX12_shelfOf_4 rfl ?_
  refine m_iald 20 (s) hM dX12_shelfOf_5 (by decide) rfl rfl rfl (show s < 20 by omega) ?_
  rw [h20]
  refine q_istore_n (ls' := [_, _, _, _, _]) dX12_shelfOf_6 rfl rfl (Nat.le_of_ble_eq_true rfl) (by decide) ?_
  first | refine q_aload_n dX12_shelfOf_7 rfl ?_ | refine q_aload_nN dX12_shelfOf_7 rfl ?_
  refine q_getf dX12_shelfOf_8 fk_X12_7_11 hM.K (hM.a 1 (by decide) (by decide)) ?_
  refine q_iload_n dX12_shelfOf_11 rfl ?_
  refine m_iald 1 (k) hM dX12_shelfOf_12 (by decide) rfl rfl rfl (show k < 6 by omega) ?_
  refine q_if_eq 26 dX12_shelfOf_13 (by decide) (fun c13 => ?_) (fun c13 => ?_)
  · first | refine q_aload_n dX12_shelfOf_26 rfl ?_ | refine q_aload_nN dX12_shelfOf_26 rfl ?_
    first | refine q_aload_n dX12_shelfOf_27 rfl ?_ | refine q_aload_nN dX12_shelfOf_27 rfl ?_
    refine q_getf dX12_shelfOf_28 fk_X12_7_11 hM.K (hM.a 1 (by decide) (by decide)) ?_
    refine q_iload_n dX12_shelfOf_31 rfl ?_
    refine m_iald 1 (k) hM dX12_shelfOf_32 (by decide) rfl rfl rfl (show k < 6 by omega) ?_
    refine q_if_ne 40 dX12_shelfOf_33 (by decide) (fun c33 => absurd c33 (not_not_intro c13)) (fun c33 => ?_)
    refine q_iconst (v := 1) dX12_shelfOf_36 (by decide) ?_
    refine q_goto 41 dX12_shelfOf_37 (by decide) ?_
    refine q_iconst (v := (-1)) dX12_shelfOf_41 (by decide) ?_
    refine q_callV 11 dX12_shelfOf_42 mk_X12_119 rfl hM.K (mc_fails l G Z0 y σ e hM e (e.1 13 0) (e.1 14 0) (ex_self e).symm nn hnn h15 1 (-1)) rfl np_X12_fails (by decide) (by decide) (by decide) (Nat.le_of_ble_eq_true rfl) (kI (fun rF ZF hq => ?_))
    obtain ⟨rfl, f1, m1⟩ := hq
    exact q_zreturn dX12_shelfOf_45 rfl rfl (by decide) (by decide) (GO_l (hF.tr f1) m1 ER_ex.eg (Or.inl ⟨by rw [ex_oth (by decide) (by decide)]; exact h31, by rw [ex_13, sub10]⟩) (by rw [shS, if_pos c13]))
  · first | refine q_aload_n dX12_shelfOf_16 rfl ?_ | refine q_aload_nN dX12_shelfOf_16 rfl ?_
    refine q_getf dX12_shelfOf_17 fk_X12_7_11 hM.K (hM.a 1 (by decide) (by decide)) ?_
    refine q_iload_n dX12_shelfOf_20 rfl ?_
    refine m_iald 1 (k) hM dX12_shelfOf_21 (by decide) rfl rfl rfl (show k < 6 by omega) ?_
    refine q_iconst (v := 3) dX12_shelfOf_22 (by decide) ?_
    refine q_icmp_ne 46 dX12_shelfOf_23 (by decide) (fun c23 => ?_) (fun c23 => ?_)
    · refine q_iconst (v := 0) dX12_shelfOf_46 (by decide) ?_
      refine q_istore (ls' := [_, _, _, _, _]) dX12_shelfOf_47 rfl rfl (Nat.le_of_ble_eq_true rfl) (by decide) ?_
      exact mg_shelf l G M Z0 y σ e 0 row hrow s cn k hk hcn h2 _ (fun Z1 e1 a1 a2 a3 => GO_r a1 a2 a3.1.eg (by rw [a3.1.1 31 (by decide)]; exact h31) (by have := a3.2; rw [List.nil_append] at this; exact this) (by rw [List.length_map, List.length_range]; omega) (by rw [shS, if_neg c13, if_neg c23])) cn 0 Z0 e (by omega) hM hF (LQ_0 (EX.rf _ _) h0)
    · have c23 := c23
      first | refine q_aload_n dX12_shelfOf_26 rfl ?_ | refine q_aload_nN dX12_shelfOf_26 rfl ?_
      first | refine q_aload_n dX12_shelfOf_27 rfl ?_ | refine q_aload_nN dX12_shelfOf_27 rfl ?_
      refine q_getf dX12_shelfOf_28 fk_X12_7_11 hM.K (hM.a 1 (by decide) (by decide)) ?_
      refine q_iload_n dX12_shelfOf_31 rfl ?_
      refine m_iald 1 (k) hM dX12_shelfOf_32 (by decide) rfl rfl rfl (show k < 6 by omega) ?_
      refine q_if_ne 40 dX12_shelfOf_33 (by decide) (fun c33 => ?_) (fun c33 => absurd c33 c13)
      refine q_iconst (v := 5) dX12_shelfOf_40 (by decide) ?_
      refine q_iconst (v := (-1)) dX12_shelfOf_41 (by decide) ?_
      refine q_callV 11 dX12_shelfOf_42 mk_X12_119 rfl hM.K (mc_fails l G Z0 y σ e hM e (e.1 13 0) (e.1 14 0) (ex_self e).symm nn hnn h15 5 (-1)) rfl np_X12_fails (by decide) (by decide) (by decide) (Nat.le_of_ble_eq_true rfl) (kI (fun rF ZF hq => ?_))
      obtain ⟨rfl, f1, m1⟩ := hq
      exact q_zreturn dX12_shelfOf_45 rfl rfl (by decide) (by decide) (GO_l (hF.tr f1) m1 ER_ex.eg (Or.inl ⟨by rw [ex_oth (by decide) (by decide)]; exact h31, by rw [ex_13, sub10]⟩) (by rw [shS, if_neg c13, if_pos c23]))
set_option maxHeartbeats 600000 in
set_option maxRecDepth 100000 in
theorem mc_twoOf (l : Launch) (G : Gt) (y n nf ns : Nat) (ih : ∀ (s row b : Nat) (Z : Zt) (σ e : St), s < ns → sdp σ s ≤ n → row + 2 * n ≤ 12 → 2 * n + 8 ≤ b → PFs σ nf ns → PFf σ nf → bLe σ → e.1 31 0 = 0 → MR Z y σ e → Ct l G YX12_goes (b + 1, 0, 0) Z [.ref y, .int (nI s), .int (nI row)] (ΦI (GO y Z row e (gS n s σ)))) (Z0 : Zt) (σ e : St) (hM : MR Z0 y σ e) (row : Nat) (hrow : row + 2 * (n + 1) ≤ 12) (s : Nat) (hs : s < ns) (hS : PFs σ nf ns) (hPf : PFf σ nf) (hbl : bLe σ) (h31 : e.1 31 0 = 0) (hp : σ.1 24 s = 0) (h24 : 2 ≤ σ.1 17 s ∧ σ.1 17 s ≤ 4) (hso : 2 ≤ σ.1 17 s ∧ σ.1 17 s ≤ 8) (s1 t1 : Nat) (hs1 : s1 < s) (ht1 : t1 < s) (h18 : σ.1 18 s = nI s1) (h19 : σ.1 19 s = nI t1) (hd1 : sdp σ s1 ≤ n) (hd2 : sdp σ t1 ≤ n) : Ct l G YX12_twoOf (2 * n + 9 + 1, 0, 0) Z0 [.ref y, .int (nI s), .int (nI row)] (ΦI (GO y Z0 row e (gS (n + 1) s σ))) := by
  refine ct_of [some (.ref y), some (.int (nI s)), some (.int (nI row)), none, none, none, none, none] (by decide +kernel) (Nat.le_of_ble_eq_true rfl) rfl (fun M => ?_)
  have hF := MF.rf y Z0
  have hns := hS.1
  rcases hq1 : gS n s1 σ with ⟨er | L1, τ⟩
  · skip
    refine q_iload_n dX12_twoOf_0 rfl ?_
    refine q_iconst (v := 1) dX12_twoOf_1 (by decide) ?_
    refine q_iadd dX12_twoOf_2 ?_
    rw [nI_1]
    refine q_istore_n (ls' := [_, _, _, _, _, _, _, _]) dX12_twoOf_3 rfl rfl (Nat.le_of_ble_eq_true rfl) (by decide) ?_
    refine q_iload_n dX12_twoOf_4 rfl ?_
    refine q_iconst (v := 2) dX12_twoOf_5 (by decide) ?_
    refine q_iadd dX12_twoOf_6 ?_
    rw [show (2 : Int32) = nI 2 from rfl, nI_add]
    refine q_istore (ls' := [_, _, _, _, _, _, _, _]) dX12_twoOf_7 rfl rfl (Nat.le_of_ble_eq_true rfl) (by decide) ?_
    first | refine q_aload_n dX12_twoOf_9 rfl ?_ | refine q_aload_nN dX12_twoOf_9 rfl ?_
    first | refine q_aload_n dX12_twoOf_10 rfl ?_ | refine q_aload_nN dX12_twoOf_10 rfl ?_
    refine q_getf dX12_twoOf_11 fk_X12_47_11 hM.K (hM.a 18 (by decide) (by decide)) ?_
    refine q_iload_n dX12_twoOf_14 rfl ?_
    refine m_iald 18 (s) hM dX12_twoOf_15 (by decide) rfl rfl rfl (show s < 20 by omega) ?_
    rw [h18]
    refine q_iload_n dX12_twoOf_16 rfl ?_
    refine q_callV 11 dX12_twoOf_17 mk_X12_173 rfl hM.K (ih s1 (row + 1) (2 * n + 8) Z0 σ e (by omega) hd1 (by omega) (Nat.le_refl _) hS hPf hbl h31 hM) rfl np_X12_goes (show 2 * n + 8 + 1 + 1 ≤ 2 * n + 9 + 1 by omega) (Nat.le_refl _) (Nat.le_refl _) (Nat.le_of_ble_eq_true rfl) (kI (fun r1 Z1 hg1 => ?_))
    rw [hq1] at hg1
    obtain ⟨f1, e1, m1, g1, rfl, hG⟩ := hg1
    refine q_if_eq 38 dX12_twoOf_20 (by decide) (fun c20 => ?_) (fun c20 => absurd c20 (not_not_intro rfl))
    refine q_iconst (v := 0) dX12_twoOf_38 (by decide) ?_
    exact q_zreturn dX12_twoOf_39 rfl rfl (Nat.le_refl _) (Nat.le_refl _) (GO_l (hF.tr f1) m1 (g1.mo (by omega)) hG (gS_l hp hso h18 (by omega) hq1))
  · have hkp1 : kp8 σ τ := by have := kp8_gS n s1 σ; rw [hq1] at this; exact this
    obtain ⟨k1, k2⟩ := hkp1.kS
    have hbl1 : bLe τ := by have := bLe_gS n s1 σ hbl; rw [hq1] at this; exact this
    rcases hq2 : gS n t1 τ with ⟨er | L2, υ⟩
    · skip
      refine q_iload_n dX12_twoOf_0 rfl ?_
      refine q_iconst (v := 1) dX12_twoOf_1 (by decide) ?_
      refine q_iadd dX12_twoOf_2 ?_
      rw [nI_1]
      refine q_istore_n (ls' := [_, _, _, _, _, _, _, _]) dX12_twoOf_3 rfl rfl (Nat.le_of_ble_eq_true rfl) (by decide) ?_
      refine q_iload_n dX12_twoOf_4 rfl ?_
      refine q_iconst (v := 2) dX12_twoOf_5 (by decide) ?_
      refine q_iadd dX12_twoOf_6 ?_
      rw [show (2 : Int32) = nI 2 from rfl, nI_add]
      refine q_istore (ls' := [_, _, _, _, _, _, _, _]) dX12_twoOf_7 rfl rfl (Nat.le_of_ble_eq_true rfl) (by decide) ?_
      first | refine q_aload_n dX12_twoOf_9 rfl ?_ | refine q_aload_nN dX12_twoOf_9 rfl ?_
      first | refine q_aload_n dX12_twoOf_10 rfl ?_ | refine q_aload_nN dX12_twoOf_10 rfl ?_
      refine q_getf dX12_twoOf_11 fk_X12_47_11 hM.K (hM.a 18 (by decide) (by decide)) ?_
      refine q_iload_n dX12_twoOf_14 rfl ?_
      refine m_iald 18 (s) hM dX12_twoOf_15 (by decide) rfl rfl rfl (show s < 20 by omega) ?_
      rw [h18]
      refine q_iload_n dX12_twoOf_16 rfl ?_
      refine q_callV 11 dX12_twoOf_17 mk_X12_173 rfl hM.K (ih s1 (row + 1) (2 * n + 8) Z0 σ e (by omega) hd1 (by omega) (Nat.le_refl _) hS hPf hbl h31 hM) rfl np_X12_goes (show 2 * n + 8 + 1 + 1 ≤ 2 * n + 9 + 1 by omega) (Nat.le_refl _) (Nat.le_refl _) (Nat.le_of_ble_eq_true rfl) (kI (fun r1 Z1 hg1 => ?_))
      rw [hq1] at hg1
      obtain ⟨f1, e1, m1, g1, rfl, e31, R1, l1⟩ := hg1
      have hM : MR Z1 y τ e1 := m1
      replace hF := hF.tr f1
      refine q_if_eq 38 dX12_twoOf_20 (by decide) (fun c20 => absurd c20 (by decide)) (fun c20 => ?_)
      first | refine q_aload_n dX12_twoOf_23 rfl ?_ | refine q_aload_nN dX12_twoOf_23 rfl ?_
      first | refine q_aload_n dX12_twoOf_24 rfl ?_ | refine q_aload_nN dX12_twoOf_24 rfl ?_
      refine q_getf dX12_twoOf_25 fk_X12_50_11 hM.K (hM.a 19 (by decide) (by decide)) ?_
      refine q_iload_n dX12_twoOf_28 rfl ?_
      refine m_iald 19 (s) hM dX12_twoOf_29 (by decide) rfl rfl rfl (show s < 20 by omega) ?_
      rw [k1 19 (by decide), h19]
      refine q_iload dX12_twoOf_30 rfl ?_
      refine q_callV 11 dX12_twoOf_32 mk_X12_173 rfl hM.K (ih t1 (row + 2) (2 * n + 8) Z1 τ e1 (by omega) (by unfold sdp; rw [k1 23 (by decide)]; exact hd2) (by omega) (Nat.le_refl _) (hS.kp hkp1) (hPf.kp8 hkp1) hbl1 e31 hM) rfl np_X12_goes (show 2 * n + 8 + 1 + 1 ≤ 2 * n + 9 + 1 by omega) (Nat.le_refl _) (Nat.le_refl _) (Nat.le_of_ble_eq_true rfl) (kI (fun r2 Z2 hg2 => ?_))
      rw [hq2] at hg2
      obtain ⟨f2, e2, m2, g2, rfl, hG⟩ := hg2
      refine q_if_ne 40 dX12_twoOf_35 (by decide) (fun c35 => absurd c35 (not_not_intro rfl)) (fun c35 => ?_)
      refine q_iconst (v := 0) dX12_twoOf_38 (by decide) ?_
      exact q_zreturn dX12_twoOf_39 rfl rfl (Nat.le_refl _) (Nat.le_refl _) (GO_l (hF.tr f2) m2 ((g1.mo (by omega)).tr (g2.mo (by omega))) hG (gS_twol hp hso h24 h18 h19 (by omega) (by omega) hq1 hq2))
    · have hkp2 : kp8 τ υ := by have := kp8_gS n t1 τ; rw [hq2] at this; exact this
      have h17 : υ.1 17 s = σ.1 17 s := by rw [hkp2.kS.1 17 (by decide), k1 17 (by decide)]
      refine q_iload_n dX12_twoOf_0 rfl ?_
      refine q_iconst (v := 1) dX12_twoOf_1 (by decide) ?_
      refine q_iadd dX12_twoOf_2 ?_
      rw [nI_1]
      refine q_istore_n (ls' := [_, _, _, _, _, _, _, _]) dX12_twoOf_3 rfl rfl (Nat.le_of_ble_eq_true rfl) (by decide) ?_
      refine q_iload_n dX12_twoOf_4 rfl ?_
      refine q_iconst (v := 2) dX12_twoOf_5 (by decide) ?_
      refine q_iadd dX12_twoOf_6 ?_
      rw [show (2 : Int32) = nI 2 from rfl, nI_add]
      refine q_istore (ls' := [_, _, _, _, _, _, _, _]) dX12_twoOf_7 rfl rfl (Nat.le_of_ble_eq_true rfl) (by decide) ?_
      first | refine q_aload_n dX12_twoOf_9 rfl ?_ | refine q_aload_nN dX12_twoOf_9 rfl ?_
      first | refine q_aload_n dX12_twoOf_10 rfl ?_ | refine q_aload_nN dX12_twoOf_10 rfl ?_
      refine q_getf dX12_twoOf_11 fk_X12_47_11 hM.K (hM.a 18 (by decide) (by decide)) ?_
      refine q_iload_n dX12_twoOf_14 rfl ?_
      refine m_iald 18 (s) hM dX12_twoOf_15 (by decide) rfl rfl rfl (show s < 20 by omega) ?_
      rw [h18]
      refine q_iload_n dX12_twoOf_16 rfl ?_
      refine q_callV 11 dX12_twoOf_17 mk_X12_173 rfl hM.K (ih s1 (row + 1) (2 * n + 8) Z0 σ e (by omega) hd1 (by omega) (Nat.le_refl _) hS hPf hbl h31 hM) rfl np_X12_goes (show 2 * n + 8 + 1 + 1 ≤ 2 * n + 9 + 1 by omega) (Nat.le_refl _) (Nat.le_refl _) (Nat.le_of_ble_eq_true rfl) (kI (fun r1 Z1 hg1 => ?_))
      rw [hq1] at hg1
      obtain ⟨f1, e1, m1, g1, rfl, e31, R1, l1⟩ := hg1
      have hM : MR Z1 y τ e1 := m1
      replace hF := hF.tr f1
      refine q_if_eq 38 dX12_twoOf_20 (by decide) (fun c20 => absurd c20 (by decide)) (fun c20 => ?_)
      first | refine q_aload_n dX12_twoOf_23 rfl ?_ | refine q_aload_nN dX12_twoOf_23 rfl ?_
      first | refine q_aload_n dX12_twoOf_24 rfl ?_ | refine q_aload_nN dX12_twoOf_24 rfl ?_
      refine q_getf dX12_twoOf_25 fk_X12_50_11 hM.K (hM.a 19 (by decide) (by decide)) ?_
      refine q_iload_n dX12_twoOf_28 rfl ?_
      refine m_iald 19 (s) hM dX12_twoOf_29 (by decide) rfl rfl rfl (show s < 20 by omega) ?_
      rw [k1 19 (by decide), h19]
      refine q_iload dX12_twoOf_30 rfl ?_
      refine q_callV 11 dX12_twoOf_32 mk_X12_173 rfl hM.K (ih t1 (row + 2) (2 * n + 8) Z1 τ e1 (by omega) (by unfold sdp; rw [k1 23 (by decide)]; exact hd2) (by omega) (Nat.le_refl _) (hS.kp hkp1) (hPf.kp8 hkp1) hbl1 e31 hM) rfl np_X12_goes (show 2 * n + 8 + 1 + 1 ≤ 2 * n + 9 + 1 by omega) (Nat.le_refl _) (Nat.le_refl _) (Nat.le_of_ble_eq_true rfl) (kI (fun r2 Z2 hg2 => ?_))
      rw [hq2] at hg2
      obtain ⟨f2, e2, m2, g2, rfl, d31, R2, l2⟩ := hg2
      have hM : MR Z2 y υ e2 := m2
      replace hF := hF.tr f2
      have hE2 : EG row e e2 := (g1.mo (by omega)).tr (g2.mo (by omega))
      have A1 : RW (pI e2 30 row 0) (row + 1) L1 := RW_ex (RW_eg R1 g2 (by omega) (by omega)) EX_0 (by omega) (by omega)
      have A2 : RW (pI e2 30 row 0) (row + 2) L2 := RW_ex R2 EX_0 (by omega) (by omega)
      refine q_if_ne 40 dX12_twoOf_35 (by decide) (fun c35 => ?_) (fun c35 => absurd c35 (by decide))
      first | refine q_aload_n dX12_twoOf_40 rfl ?_ | refine q_aload_nN dX12_twoOf_40 rfl ?_
      refine q_getf dX12_twoOf_41 fk_X12_84_11 hM.K (hM.a 30 (by decide) (by decide)) ?_
      refine q_iload_n dX12_twoOf_44 rfl ?_
      refine q_iconst (v := 0) dX12_twoOf_45 (by decide) ?_
      refine m_iastx 30 (row) hM dX12_twoOf_46 (by decide) rfl rfl rfl (show row < 16 by omega) (fun Z hM hF1 => ?_)
      replace hF := hF.tr hF1
      first | refine q_aload_n dX12_twoOf_47 rfl ?_ | refine q_aload_nN dX12_twoOf_47 rfl ?_
      refine q_getf dX12_twoOf_48 fk_X12_44_11 hM.K (hM.a 17 (by decide) (by decide)) ?_
      refine q_iload_n dX12_twoOf_51 rfl ?_
      refine m_iald 17 (s) hM dX12_twoOf_52 (by decide) rfl rfl rfl (show s < 20 by omega) ?_
      refine q_iconst (v := 2) dX12_twoOf_53 (by decide) ?_
      refine q_icmp_ne 164 dX12_twoOf_54 (by decide) (fun c54 => ?_) (fun c54 => ?_)
      · have h2 : ¬ σ.1 17 s = 2 := by rw [h17] at c54; exact c54
        refine q_iconst (v := 0) dX12_twoOf_164 (by decide) ?_
        refine q_istore (ls' := [_, _, _, _, _, _, _, _]) dX12_twoOf_165 rfl rfl (Nat.le_of_ble_eq_true rfl) (by decide) ?_
        exact mg_sel l G M Z0 y υ (pI e2 30 row 0) (2 * n + 9) row (by omega) s (by omega) L1 L2 A1 A2 l1 l2 _ (fun Z3 e3 a1 a2 a3 a4 => GO_r a1 a2 ((hE2.tr EX_0.eg).tr a3.eg) (by rw [a3.1 31 (by decide), pI_ne (by decide)]; exact d31) a4 (Nat.le_trans (sel_len _ _ _) l1) (by rw [gS_two hp hso h24 h18 h19 (by omega) (by omega) hq1 hq2, twoS, if_neg h2, h17])) L1.length 0 Z _ none (by omega) hM hF (EX.rf _ _) RW_0
      · have h2 : σ.1 17 s = 2 := by rw [h17] at c54; exact c54
        first | refine q_aload_n dX12_twoOf_57 rfl ?_ | refine q_aload_nN dX12_twoOf_57 rfl ?_
        refine q_getf dX12_twoOf_58 fk_X12_84_11 hM.K (hM.a 30 (by decide) (by decide)) ?_
        refine q_iload_n dX12_twoOf_61 rfl ?_
        refine m_ialdx 30 (row + 1) hM dX12_twoOf_62 (by decide) rfl rfl rfl (show row + 1 < 16 by omega) ?_
        rw [A1.1]
        first | refine q_aload_n dX12_twoOf_63 rfl ?_ | refine q_aload_nN dX12_twoOf_63 rfl ?_
        refine q_getf dX12_twoOf_64 fk_X12_84_11 hM.K (hM.a 30 (by decide) (by decide)) ?_
        refine q_iload dX12_twoOf_67 rfl ?_
        refine m_ialdx 30 (row + 2) hM dX12_twoOf_69 (by decide) rfl rfl rfl (show row + 2 < 16 by omega) ?_
        rw [A2.1]
        refine q_iadd dX12_twoOf_70 ?_
        refine q_sipush (v := 200) dX12_twoOf_71 (by decide) ?_
        rw [nI_add, show (200 : Int32) = nI 200 from rfl]
        refine q_icmp_le 84 dX12_twoOf_74 (by decide) (fun c74 => ?_) (fun c74 => ?_)
        · have hle : L1.length + L2.length ≤ 200 := (nI_leI (by omega) (by omega)).mp c74
          refine q_iconst (v := 0) dX12_twoOf_84 (by decide) ?_
          refine q_istore (ls' := [_, _, _, _, _, _, _, _]) dX12_twoOf_85 rfl rfl (Nat.le_of_ble_eq_true rfl) (by decide) ?_
          exact mg_join1 l G M Z0 y υ (pI e2 30 row 0) (2 * n + 9) row (by omega) s L1 L2 (by omega) A1 A2 hle _ (fun Z3 e3 a1 a2 a3 => GO_r a1 a2 ((hE2.tr EX_0.eg).tr a3.1.eg) (by rw [a3.1.1 31 (by decide), pI_ne (by decide)]; exact d31) (by have := a3.2; rw [getD_all] at this; exact this) (by rw [List.length_append]; exact hle) (by rw [gS_two hp hso h24 h18 h19 (by omega) (by omega) hq1 hq2, twoS, if_pos h2, if_neg (by omega)])) L1.length 0 Z _ (by omega) hM hF (LQ_0 (EX.rf _ _) RW_0)
        · have hgt : 200 < L1.length + L2.length := Nat.not_le.mp (fun z => c74 ((nI_leI (by omega) (by omega)).mpr z))
          first | refine q_aload_n dX12_twoOf_77 rfl ?_ | refine q_aload_nN dX12_twoOf_77 rfl ?_
          refine q_iconst (v := 1) dX12_twoOf_78 (by decide) ?_
          refine m_putx 31 hM dX12_twoOf_79 fk_X12_159_11 rfl (by decide) rfl rfl rfl rfl (fun Z hM hF1 => ?_)
          replace hF := hF.tr hF1
          refine q_iconst (v := 0) dX12_twoOf_82 (by decide) ?_
          exact q_zreturn dX12_twoOf_83 rfl rfl (Nat.le_refl _) (Nat.le_refl _) (GO_l hF hM ((hE2.tr EX_0.eg).tr ⟨fun r _ => by rw [pI_ne (by decide)], fun _ _ => rfl⟩) (Or.inr ⟨pI_at _ _ _ _, rfl⟩) (by rw [gS_two hp hso h24 h18 h19 (by omega) (by omega) hq1 hq2, twoS, if_pos h2, if_pos hgt]))
set_option maxHeartbeats 600000 in
set_option maxRecDepth 100000 in
theorem jg_two (l : Launch) (G : Gt) (y n nf ns : Nat) (ih : ∀ (s row b : Nat) (Z : Zt) (σ e : St), s < ns → sdp σ s ≤ n → row + 2 * n ≤ 12 → 2 * n + 8 ≤ b → PFs σ nf ns → PFf σ nf → bLe σ → e.1 31 0 = 0 → MR Z y σ e → Ct l G YX12_goes (b + 1, 0, 0) Z [.ref y, .int (nI s), .int (nI row)] (ΦI (GO y Z row e (gS n s σ)))) (M : Mt) (row : Nat) (Z0 Z : Zt) (σ e0 e : St) (hM : MR Z y σ e) (hF : MF y Z0 Z) (hE : EG row e0 e) (hrow : row + 2 * (n + 1) ≤ 12) (s b : Nat) (hb : 2 * (n + 1) + 8 ≤ b) (hs : s < ns) (hS : PFs σ nf ns) (hPf : PFf σ nf) (hbl : bLe σ) (h31 : e.1 31 0 = 0) (hp : σ.1 24 s = 0) (h24 : 2 ≤ σ.1 17 s ∧ σ.1 17 s ≤ 4) (hso : 2 ≤ σ.1 17 s ∧ σ.1 17 s ≤ 8) (s1 t1 : Nat) (hs1 : s1 < s) (ht1 : t1 < s) (h18 : σ.1 18 s = nI s1) (h19 : σ.1 19 s = nI t1) (hd1 : sdp σ s1 ≤ n) (hd2 : sdp σ t1 ≤ n) : Jd l G YX12_goes (b + 1, 0, 0) M Z 0 0 (Qm G (b + 1, 0, 0) M (ΦI (GO y Z0 row e0 (gS (n + 1) s σ)))) 180 [some (.ref y), some (.int (nI s)), some (.int (nI row)), some (.int (nI (row + 1))), none] [] := by
  have hns := hS.1
  first | refine q_aload_n dX12_goes_180 rfl ?_ | refine q_aload_nN dX12_goes_180 rfl ?_
  refine q_iload_n dX12_goes_181 rfl ?_
  refine q_iload_n dX12_goes_182 rfl ?_
  refine q_callV 11 dX12_goes_183 mk_X12_167 rfl hM.K (mc_twoOf l G y n nf ns ih Z σ e hM row hrow s hs hS hPf hbl h31 hp h24 hso s1 t1 hs1 ht1 h18 h19 hd1 hd2) rfl np_X12_twoOf (show 2 * n + 9 + 1 + 1 ≤ b + 1 by omega) (Nat.le_refl _) (Nat.le_refl _) (Nat.le_of_ble_eq_true rfl) (kI (fun r2 Z2 hg => ?_))
  exact q_zreturn dX12_goes_186 rfl (bo_z (GO_b hg)) (Nat.le_refl _) (Nat.le_refl _) (GO_tr hF hE rfl hg)
set_option maxHeartbeats 600000 in
set_option maxRecDepth 100000 in
theorem jg_shelf (l : Launch) (G : Gt) (y n nf ns : Nat) (ih : ∀ (s row b : Nat) (Z : Zt) (σ e : St), s < ns → sdp σ s ≤ n → row + 2 * n ≤ 12 → 2 * n + 8 ≤ b → PFs σ nf ns → PFf σ nf → bLe σ → e.1 31 0 = 0 → MR Z y σ e → Ct l G YX12_goes (b + 1, 0, 0) Z [.ref y, .int (nI s), .int (nI row)] (ΦI (GO y Z row e (gS n s σ)))) (M : Mt) (row : Nat) (Z0 Z : Zt) (σ e0 e : St) (hM : MR Z y σ e) (hF : MF y Z0 Z) (hE : EG row e0 e) (hrow : row + 2 * (n + 1) ≤ 12) (s b : Nat) (hb : 2 * (n + 1) + 8 ≤ b) (hs : s < ns) (hS : PFs σ nf ns) (hPf : PFf σ nf) (hbl : bLe σ) (h31 : e.1 31 0 = 0) (hp : σ.1 24 s = 0) (h9 : σ.1 17 s = 9) (k cn : Nat) (hk : k < 6) (h20 : σ.1 20 s = nI k) (h2 : σ.1 2 k = nI cn) (hcn : cn ≤ 12) (h0 : RW e row []) : Jd l G YX12_goes (b + 1, 0, 0) M Z 0 0 (Qm G (b + 1, 0, 0) M (ΦI (GO y Z0 row e0 (gS (n + 1) s σ)))) 187 [some (.ref y), some (.int (nI s)), some (.int (nI row)), some (.int (nI (row + 1))), none] [] := by
  have hns := hS.1
  first | refine q_aload_n dX12_goes_187 rfl ?_ | refine q_aload_nN dX12_goes_187 rfl ?_
  refine q_iload_n dX12_goes_188 rfl ?_
  refine q_iload_n dX12_goes_189 rfl ?_
  refine q_callV 11 dX12_goes_190 mk_X12_170 rfl hM.K (mc_shelfOf l G Z y σ e hM row (by omega) s (by omega) k cn hk h20 h2 hcn hbl.f h31 h0) rfl np_X12_shelfOf (show 0 + 1 + 1 ≤ b + 1 by omega) (Nat.le_refl _) (Nat.le_refl _) (Nat.le_of_ble_eq_true rfl) (kI (fun r2 Z2 hg => ?_))
  exact q_zreturn dX12_goes_193 rfl (bo_z (GO_b hg)) (Nat.le_refl _) (Nat.le_refl _) (GO_tr hF hE (gS_sh hp h9 h20 hk h2 hcn) hg)
set_option maxHeartbeats 600000 in
set_option maxRecDepth 100000 in
theorem jg_made (l : Launch) (G : Gt) (y n nf ns : Nat) (ih : ∀ (s row b : Nat) (Z : Zt) (σ e : St), s < ns → sdp σ s ≤ n → row + 2 * n ≤ 12 → 2 * n + 8 ≤ b → PFs σ nf ns → PFf σ nf → bLe σ → e.1 31 0 = 0 → MR Z y σ e → Ct l G YX12_goes (b + 1, 0, 0) Z [.ref y, .int (nI s), .int (nI row)] (ΦI (GO y Z row e (gS n s σ)))) (M : Mt) (row : Nat) (Z0 Z : Zt) (σ e0 e : St) (hM : MR Z y σ e) (hF : MF y Z0 Z) (hE : EG row e0 e) (hrow : row + 2 * (n + 1) ≤ 12) (s b : Nat) (hb : 2 * (n + 1) + 8 ≤ b) (hs : s < ns) (hS : PFs σ nf ns) (hPf : PFf σ nf) (hbl : bLe σ) (h31 : e.1 31 0 = 0) (hp : σ.1 24 s = 0) (h24 : ¬ (2 ≤ σ.1 17 s ∧ σ.1 17 s ≤ 4)) (hso : 2 ≤ σ.1 17 s ∧ σ.1 17 s ≤ 8) (s1 : Nat) (hs1 : s1 < s) (h18 : σ.1 18 s = nI s1) (hd1 : sdp σ s1 ≤ n) (hn6 : σ.1 17 s = 6 → ∃ n, n ≤ 200 ∧ σ.1 21 s = nI n) (hn8 : σ.1 17 s = 8 → ∃ n, 1 ≤ n ∧ n ≤ 200 ∧ σ.1 21 s = nI n) (hn7 : σ.1 17 s = 7 → ∃ fi, fi < nf ∧ σ.1 20 s = nI fi) : Jd l G YX12_goes (b + 1, 0, 0) M Z 0 0 (Qm G (b + 1, 0, 0) M (ΦI (GO y Z0 row e0 (gS (n + 1) s σ)))) 194 [some (.ref y), some (.int (nI s)), some (.int (nI row)), some (.int (nI (row + 1))), none] [] := by
  have hns := hS.1
  rcases hq1 : gS n s1 σ with ⟨er | L1, τ⟩
  · skip
    first | refine q_aload_n dX12_goes_194 rfl ?_ | refine q_aload_nN dX12_goes_194 rfl ?_
    first | refine q_aload_n dX12_goes_195 rfl ?_ | refine q_aload_nN dX12_goes_195 rfl ?_
    refine q_getf dX12_goes_196 fk_X12_47_11 hM.K (hM.a 18 (by decide) (by decide)) ?_
    refine q_iload_n dX12_goes_199 rfl ?_
    refine m_iald 18 (s) hM dX12_goes_200 (by decide) rfl rfl rfl (show s < 20 by omega) ?_
    rw [h18]
    refine q_iload_n dX12_goes_201 rfl ?_
    refine q_callV 11 dX12_goes_202 mk_X12_173 rfl hM.K (ih s1 (row + 1) (2 * n + 8) Z σ e (by omega) hd1 (by omega) (Nat.le_refl _) hS hPf hbl h31 hM) rfl np_X12_goes (show 2 * n + 8 + 1 + 1 ≤ b + 1 by omega) (Nat.le_refl _) (Nat.le_refl _) (Nat.le_of_ble_eq_true rfl) (kI (fun r1 Z1 hg1 => ?_))
    rw [hq1] at hg1
    obtain ⟨f1, e1, m1, g1, rfl, hG⟩ := hg1
    refine q_if_ne 210 dX12_goes_205 (by decide) (fun c205 => absurd c205 (not_not_intro rfl)) (fun c205 => ?_)
    refine q_iconst (v := 0) dX12_goes_208 (by decide) ?_
    exact q_zreturn dX12_goes_209 rfl rfl (Nat.le_refl _) (Nat.le_refl _) (GO_l (hF.tr f1) m1 (hE.tr (g1.mo (by omega))) hG (gS_l hp hso h18 (by omega) hq1))
  · have hkp1 : kp8 σ τ := by have := kp8_gS n s1 σ; rw [hq1] at this; exact this
    obtain ⟨k1, k2⟩ := hkp1.kS
    have hbl1 : bLe τ := by have := bLe_gS n s1 σ hbl; rw [hq1] at this; exact this
    first | refine q_aload_n dX12_goes_194 rfl ?_ | refine q_aload_nN dX12_goes_194 rfl ?_
    first | refine q_aload_n dX12_goes_195 rfl ?_ | refine q_aload_nN dX12_goes_195 rfl ?_
    refine q_getf dX12_goes_196 fk_X12_47_11 hM.K (hM.a 18 (by decide) (by decide)) ?_
    refine q_iload_n dX12_goes_199 rfl ?_
    refine m_iald 18 (s) hM dX12_goes_200 (by decide) rfl rfl rfl (show s < 20 by omega) ?_
    rw [h18]
    refine q_iload_n dX12_goes_201 rfl ?_
    refine q_callV 11 dX12_goes_202 mk_X12_173 rfl hM.K (ih s1 (row + 1) (2 * n + 8) Z σ e (by omega) hd1 (by omega) (Nat.le_refl _) hS hPf hbl h31 hM) rfl np_X12_goes (show 2 * n + 8 + 1 + 1 ≤ b + 1 by omega) (Nat.le_refl _) (Nat.le_refl _) (Nat.le_of_ble_eq_true rfl) (kI (fun r1 Z1 hg1 => ?_))
    rw [hq1] at hg1
    obtain ⟨f1, e1, m1, g1, rfl, e31, R1, l1⟩ := hg1
    have hM : MR Z1 y τ e1 := m1
    replace hF := hF.tr f1
    refine q_if_ne 210 dX12_goes_205 (by decide) (fun c205 => ?_) (fun c205 => absurd c205 (by decide))
    have hone : Ct l G YX12_one (8, 0, 0) Z1 [.ref y, .int (nI s), .int (nI row), .int (nI (row + 1))] (ΦI (GO y Z1 row e1 (oneS τ s L1))) := by
      by_cases c5 : σ.1 17 s = 5
      · exact mc_one5 l G Z1 y τ e1 hM row (by omega) s (by omega) L1 R1 l1 e31 (by rw [k1 17 (by decide)]; exact c5)
      · by_cases c6 : σ.1 17 s = 6
        · obtain ⟨m, hm, hm2⟩ := hn6 c6
          exact mc_one6 l G Z1 y τ e1 hM row (by omega) s (by omega) L1 R1 l1 e31 (by rw [k1 17 (by decide)]; exact c6) m hm (by rw [k1 21 (by decide)]; exact hm2)
        · by_cases c8 : σ.1 17 s = 8
          · obtain ⟨m, hm1, hm, hm2⟩ := hn8 c8
            exact mc_one8 l G Z1 y τ e1 hM row (by omega) s (by omega) L1 R1 l1 e31 (by rw [k1 17 (by decide)]; exact c8) m hm1 hm (by rw [k1 21 (by decide)]; exact hm2)
          · have c7 := so7 hso h24 c5 c6 c8
            obtain ⟨fi, hfi, h20⟩ := hn7 c7
            exact mc_one7 l G Z1 y τ e1 hM row (by omega) s (by omega) L1 R1 l1 e31 (by rw [k1 17 (by decide)]; exact c7) fi nf hfi (by rw [k1 20 (by decide)]; exact h20) (hPf.kp8 hkp1) hbl1
    first | refine q_aload_n dX12_goes_210 rfl ?_ | refine q_aload_nN dX12_goes_210 rfl ?_
    refine q_iload_n dX12_goes_211 rfl ?_
    refine q_iload_n dX12_goes_212 rfl ?_
    refine q_iload_n dX12_goes_213 rfl ?_
    refine q_callV 11 dX12_goes_214 mk_X12_176 rfl hM.K (hone) rfl np_X12_one (show 8 + 1 ≤ b + 1 by omega) (Nat.le_refl _) (Nat.le_refl _) (Nat.le_of_ble_eq_true rfl) (kI (fun r2 Z2 hg => ?_))
    exact q_zreturn dX12_goes_217 rfl (bo_z (GO_b hg)) (Nat.le_refl _) (Nat.le_refl _) (GO_tr hF (hE.tr (g1.mo (by omega))) (gS_one hp hso h24 h18 (by omega) hkp1 hq1) hg)
theorem so19 {k : Int32} (h : k = 1 ∨ k = 9 ∨ (2 ≤ k ∧ k ≤ 8)) : ∃ q ∈ ([(1, 140), (2, 180), (3, 180), (4, 180), (5, 194), (6, 194), (7, 194), (8, 194), (9, 187)] : List (Int32 × Nat)), k = q.1 := by
  rcases h with rfl | rfl | h
  · exact ⟨(1, 140), by decide, rfl⟩
  · exact ⟨(9, 187), by decide, rfl⟩
  · obtain ⟨j, hj, rfl⟩ := nI_of2 (x := k) (M := 8) (n := 8) (by decide) (fun z => absurd (Int32.lt_of_lt_of_le z (by decide : (0 : Int32) ≤ 2)) (Int32.not_lt.mpr h.1)) h.2
    have h2 : 2 ≤ j := (nI_leI (a := 2) (by decide) (by omega)).mp h.1
    rcases (show j = 2 ∨ j = 3 ∨ j = 4 ∨ j = 5 ∨ j = 6 ∨ j = 7 ∨ j = 8 by omega) with rfl | rfl | rfl | rfl | rfl | rfl | rfl
    · exact ⟨(2, 180), by decide, rfl⟩
    · exact ⟨(3, 180), by decide, rfl⟩
    · exact ⟨(4, 180), by decide, rfl⟩
    · exact ⟨(5, 194), by decide, rfl⟩
    · exact ⟨(6, 194), by decide, rfl⟩
    · exact ⟨(7, 194), by decide, rfl⟩
    · exact ⟨(8, 194), by decide, rfl⟩
set_option maxHeartbeats 600000 in
set_option maxRecDepth 100000 in
theorem mgoes (l : Launch) (G : Gt) (y nf ns : Nat) : ∀ (n s row b : Nat) (Z : Zt) (σ e : St), s < ns → sdp σ s ≤ n → row + 2 * n ≤ 12 → 2 * n + 8 ≤ b → PFs σ nf ns → PFf σ nf → bLe σ → e.1 31 0 = 0 → MR Z y σ e → Ct l G YX12_goes (b + 1, 0, 0) Z [.ref y, .int (nI s), .int (nI row)] (ΦI (GO y Z row e (gS n s σ))) := by
  intro n
  induction n with
  | zero =>
    intro s row b Z σ e hs hd hrow hb hS hPf hbl h31 hM
    have := (hS.2 s hs).2.1.1
    omega
  | succ n ih =>
    intro s row b Z0 σ e hs hd hrow hb hS hPf hbl h31 hM
    refine ct_of [some (.ref y), some (.int (nI s)), some (.int (nI row)), none, none] (by decide +kernel) (Nat.le_of_ble_eq_true rfl) rfl (fun M => ?_)
    have hF := MF.rf y Z0
    have hns := hS.1
    have pf := hS.2 s hs
    have h31' : (pI e 30 row 0).1 31 0 = 0 := by rw [pI_ne (by decide)]; exact h31
    first | refine q_aload_n dX12_goes_0 rfl ?_ | refine q_aload_nN dX12_goes_0 rfl ?_
    refine q_getf dX12_goes_1 fk_X12_84_11 hM.K (hM.a 30 (by decide) (by decide)) ?_
    refine q_iload_n dX12_goes_4 rfl ?_
    refine q_iconst (v := 0) dX12_goes_5 (by decide) ?_
    refine m_iastx 30 (row) hM dX12_goes_6 (by decide) rfl rfl rfl (show row < 16 by omega) (fun Z hM hF1 => ?_)
    replace hF := hF.tr hF1
    first | refine q_aload_n dX12_goes_7 rfl ?_ | refine q_aload_nN dX12_goes_7 rfl ?_
    refine q_getf dX12_goes_8 fk_X12_65_11 hM.K (hM.a 24 (by decide) (by decide)) ?_
    refine q_iload_n dX12_goes_11 rfl ?_
    refine m_zald 24 (s) hM dX12_goes_12 (by decide) rfl rfl rfl (show s < 20 by omega) ?_
    refine q_if_eq 78 dX12_goes_13 (by decide) (fun c13 => ?_) (fun c13 => ?_)
    · have hp : σ.1 24 s = 0 := c13
      obtain ⟨pf0, pf1, pf9, pfm⟩ := pf.2.2.2 hp
      refine q_iload_n dX12_goes_78 rfl ?_
      refine q_iconst (v := 1) dX12_goes_79 (by decide) ?_
      refine q_iadd dX12_goes_80 ?_
      rw [nI_1]
      refine q_istore_n (ls' := [_, _, _, _, _]) dX12_goes_81 rfl rfl (Nat.le_of_ble_eq_true rfl) (by decide) ?_
      first | refine q_aload_n dX12_goes_82 rfl ?_ | refine q_aload_nN dX12_goes_82 rfl ?_
      refine q_getf dX12_goes_83 fk_X12_44_11 hM.K (hM.a 17 (by decide) (by decide)) ?_
      refine q_iload_n dX12_goes_86 rfl ?_
      refine m_iald 17 (s) hM dX12_goes_87 (by decide) rfl rfl rfl (show s < 20 by omega) ?_
      refine q_tsw [(1, 140), (2, 180), (3, 180), (4, 180), (5, 194), (6, 194), (7, 194), (8, 194), (9, 187)] 194 dX12_goes_88 (by decide) (by decide) (by decide) (by decide) (fun q hq c88 => ?_) (fun c88 => ?_)
      · rcases List.mem_cons.mp hq with rfl | hq
        · dsimp only at c88 ⊢
          obtain ⟨cn, hcn, h27⟩ := pf1 c88
          have hso1 : σ.1 17 s = 1 := c88
          refine q_iconst (v := 0) dX12_goes_140 (by decide) ?_
          refine q_istore (ls' := [_, _, _, _, _]) dX12_goes_141 rfl rfl (Nat.le_of_ble_eq_true rfl) (by decide) ?_
          exact mg_list l G M Z0 y σ (pI e 30 row 0) b row (by omega) s cn (by omega) hcn h27 _ (fun Z1 e1 a1 a2 a3 => GO_r a1 a2 (EX_0.eg.tr a3.1.eg) (by rw [a3.1.1 31 (by decide)]; exact h31') (by have := a3.2; rw [List.nil_append] at this; exact this) (by rw [List.length_map, List.length_range]; omega) (by rw [gS, if_neg (by rw [hp]; decide), if_pos hso1, h27, uN_ofNat (by omega)])) cn 0 Z _ (by omega) hM hF (LQ_0 (EX.rf _ _) RW_0)
        rcases List.mem_cons.mp hq with rfl | hq
        · dsimp only at c88 ⊢
          have h24 : 2 ≤ σ.1 17 s ∧ σ.1 17 s ≤ 4 := by rw [c88]; decide
          have hso : 2 ≤ σ.1 17 s ∧ σ.1 17 s ≤ 8 := by rw [c88]; decide
          obtain ⟨⟨s1, hs1, h18, hd1⟩, hq4, -⟩ := pfm hso
          obtain ⟨t1, ht1, h19, hd2⟩ := hq4 h24
          exact jg_two l G y n nf ns ih M row Z0 Z σ e _ hM hF EX_0.eg hrow s b hb hs hS hPf hbl h31' hp h24 hso s1 t1 hs1 ht1 h18 h19 (by omega) (by omega)
        rcases List.mem_cons.mp hq with rfl | hq
        · dsimp only at c88 ⊢
          have h24 : 2 ≤ σ.1 17 s ∧ σ.1 17 s ≤ 4 := by rw [c88]; decide
          have hso : 2 ≤ σ.1 17 s ∧ σ.1 17 s ≤ 8 := by rw [c88]; decide
          obtain ⟨⟨s1, hs1, h18, hd1⟩, hq4, -⟩ := pfm hso
          obtain ⟨t1, ht1, h19, hd2⟩ := hq4 h24
          exact jg_two l G y n nf ns ih M row Z0 Z σ e _ hM hF EX_0.eg hrow s b hb hs hS hPf hbl h31' hp h24 hso s1 t1 hs1 ht1 h18 h19 (by omega) (by omega)
        rcases List.mem_cons.mp hq with rfl | hq
        · dsimp only at c88 ⊢
          have h24 : 2 ≤ σ.1 17 s ∧ σ.1 17 s ≤ 4 := by rw [c88]; decide
          have hso : 2 ≤ σ.1 17 s ∧ σ.1 17 s ≤ 8 := by rw [c88]; decide
          obtain ⟨⟨s1, hs1, h18, hd1⟩, hq4, -⟩ := pfm hso
          obtain ⟨t1, ht1, h19, hd2⟩ := hq4 h24
          exact jg_two l G y n nf ns ih M row Z0 Z σ e _ hM hF EX_0.eg hrow s b hb hs hS hPf hbl h31' hp h24 hso s1 t1 hs1 ht1 h18 h19 (by omega) (by omega)
        rcases List.mem_cons.mp hq with rfl | hq
        · dsimp only at c88 ⊢
          have h24 : ¬ (2 ≤ σ.1 17 s ∧ σ.1 17 s ≤ 4) := by rw [c88]; decide
          have hso : 2 ≤ σ.1 17 s ∧ σ.1 17 s ≤ 8 := by rw [c88]; decide
          obtain ⟨⟨s1, hs1, h18, hd1⟩, -, hn6, hn8, hn7⟩ := pfm hso
          exact jg_made l G y n nf ns ih M row Z0 Z σ e _ hM hF EX_0.eg hrow s b hb hs hS hPf hbl h31' hp h24 hso s1 hs1 h18 (by omega) hn6 hn8 hn7
        rcases List.mem_cons.mp hq with rfl | hq
        · dsimp only at c88 ⊢
          have h24 : ¬ (2 ≤ σ.1 17 s ∧ σ.1 17 s ≤ 4) := by rw [c88]; decide
          have hso : 2 ≤ σ.1 17 s ∧ σ.1 17 s ≤ 8 := by rw [c88]; decide
          obtain ⟨⟨s1, hs1, h18, hd1⟩, -, hn6, hn8, hn7⟩ := pfm hso
          exact jg_made l G y n nf ns ih M row Z0 Z σ e _ hM hF EX_0.eg hrow s b hb hs hS hPf hbl h31' hp h24 hso s1 hs1 h18 (by omega) hn6 hn8 hn7
        rcases List.mem_cons.mp hq with rfl | hq
        · dsimp only at c88 ⊢
          have h24 : ¬ (2 ≤ σ.1 17 s ∧ σ.1 17 s ≤ 4) := by rw [c88]; decide
          have hso : 2 ≤ σ.1 17 s ∧ σ.1 17 s ≤ 8 := by rw [c88]; decide
          obtain ⟨⟨s1, hs1, h18, hd1⟩, -, hn6, hn8, hn7⟩ := pfm hso
          exact jg_made l G y n nf ns ih M row Z0 Z σ e _ hM hF EX_0.eg hrow s b hb hs hS hPf hbl h31' hp h24 hso s1 hs1 h18 (by omega) hn6 hn8 hn7
        rcases List.mem_cons.mp hq with rfl | hq
        · dsimp only at c88 ⊢
          have h24 : ¬ (2 ≤ σ.1 17 s ∧ σ.1 17 s ≤ 4) := by rw [c88]; decide
          have hso : 2 ≤ σ.1 17 s ∧ σ.1 17 s ≤ 8 := by rw [c88]; decide
          obtain ⟨⟨s1, hs1, h18, hd1⟩, -, hn6, hn8, hn7⟩ := pfm hso
          exact jg_made l G y n nf ns ih M row Z0 Z σ e _ hM hF EX_0.eg hrow s b hb hs hS hPf hbl h31' hp h24 hso s1 hs1 h18 (by omega) hn6 hn8 hn7
        rcases List.mem_cons.mp hq with rfl | hq
        · dsimp only at c88 ⊢
          obtain ⟨k, hk, h20⟩ := pf9 c88
          obtain ⟨cn, hcn, h2⟩ := hPf.2.1 k hk
          exact jg_shelf l G y n nf ns ih M row Z0 Z σ e _ hM hF EX_0.eg hrow s b hb hs hS hPf hbl h31' hp c88 k cn hk h20 h2 hcn RW_0
        exact absurd hq List.not_mem_nil
      · exact absurd (so19 pf0) (fun z => by obtain ⟨q, hq, hz⟩ := z; exact c88 q hq hz)
    · have hp : σ.1 24 s = 1 := pf.1.resolve_left c13
      have hc0 := pf.2.2.1 hp
      first | refine q_aload_n dX12_goes_16 rfl ?_ | refine q_aload_nN dX12_goes_16 rfl ?_
      refine q_getf dX12_goes_17 fk_X12_75_11 hM.K (hM.a 27 (by decide) (by decide)) ?_
      refine q_iload_n dX12_goes_20 rfl ?_
      refine m_lald 27 (s) hM dX12_goes_21 (by decide) rfl rfl rfl (show s < 20 by omega) ?_
      refine q_ldc2 dX12_goes_22 kl_X12_157 ?_
      refine q_lcmp_le 36 dX12_goes_25 dX12_goes_26 (by decide) (fun c25 => ?_) (fun c25 => ?_)
      · have hC : σ.2 27 s = lN (uN (σ.2 27 s)) := uN_inj (uN_ofNat (uN_lt _)).symm
        have hU : uN (σ.2 27 s) ≤ 200 := by
          have h1 := (uN_pos hc0).1
          have h2 := Int64.le_iff_toInt_le.mp c25
          have h3 : (200 : Int64).toInt = 200 := by decide
          omega
        refine q_lconst (v := 0) dX12_goes_36 (by decide) ?_
        refine q_lstore_n (ls' := [_, _, _, _, _]) dX12_goes_37 rfl rfl (Nat.le_of_ble_eq_true rfl) (by decide) ?_
        exact mg_plain l G M Z0 y σ (pI e 30 row 0) b row (by omega) s (uN (σ.2 27 s)) (by omega) hU hC _ (fun Z1 e1 a1 a2 a3 => GO_r a1 a2 (EX_0.eg.tr a3.1.eg) (by rw [a3.1.1 31 (by decide)]; exact h31') (by have := a3.2; rw [List.nil_append] at this; exact this) (by rw [List.length_map, List.length_range]; exact hU) (by rw [gS, if_pos hp, if_pos c25]; rfl)) (uN (σ.2 27 s)) 0 Z _ (by omega) hM hF (LQ_0 (EX.rf _ _) RW_0)
      · first | refine q_aload_n dX12_goes_29 rfl ?_ | refine q_aload_nN dX12_goes_29 rfl ?_
        refine q_iconst (v := 1) dX12_goes_30 (by decide) ?_
        refine m_putx 31 hM dX12_goes_31 fk_X12_159_11 rfl (by decide) rfl rfl rfl rfl (fun Z hM hF1 => ?_)
        replace hF := hF.tr hF1
        refine q_iconst (v := 0) dX12_goes_34 (by decide) ?_
        exact q_zreturn dX12_goes_35 rfl rfl (Nat.le_refl _) (Nat.le_refl _) (GO_l hF hM (EX_0.eg.tr ⟨fun r _ => by rw [pI_ne (by decide)], fun _ _ => rfl⟩) (Or.inr ⟨pI_at _ _ _ _, rfl⟩) (by rw [gS, if_pos hp, if_neg c25]))
