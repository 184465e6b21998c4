/-- rows below this one are as they were -/
def EG (row : Nat) (e e1 : St) : Prop := (∀ r, r < row → e1.1 30 r = e.1 30 r) ∧ (∀ i, i < 201 * row → e1.2 29 i = e.2 29 i)
theorem EG.rf (row : Nat) (e : St) : EG row e e := ⟨fun _ _ => rfl, fun _ _ => rfl⟩
theorem EG.tr {row : Nat} {e e1 e2 : St} (h : EG row e e1) (k : EG row e1 e2) : EG row e e2 := ⟨fun a b => (k.1 a b).trans (h.1 a b), fun a b => (k.2 a b).trans (h.2 a b)⟩
theorem EG.mo {row r2 : Nat} {e e1 : St} (h : EG r2 e e1) (hr : row ≤ r2) : EG row e e1 := ⟨fun a b => h.1 a (by omega), fun a b => h.2 a (by omega)⟩
theorem RW_eg {row r : Nat} {e e1 : St} {L : List Int64} (h : RW e r L) (k : EG row e e1) (hr : r < row) (hl : L.length ≤ 201) : RW e1 r L := ⟨(k.1 r hr).trans h.1, At_same h.2 (fun j h1 h2 => k.2 j (by omega))⟩
/-- rows but this one, and isLarge, are as they were -/
def ER (row : Nat) (e e1 : St) : Prop := (∀ r, r ≠ row → e1.1 30 r = e.1 30 r) ∧ (∀ i, ¬ (201 * row ≤ i ∧ i < 201 * row + 201) → e1.2 29 i = e.2 29 i) ∧ e1.1 31 = e.1 31
theorem ER.rf (row : Nat) (e : St) : ER row e e := ⟨fun _ _ => rfl, fun _ _ => rfl, rfl⟩
theorem ER.tr {row : Nat} {e e1 e2 : St} (h : ER row e e1) (k : ER row e1 e2) : ER row e e2 := ⟨fun a b => (k.1 a b).trans (h.1 a b), fun a b => (k.2.1 a b).trans (h.2.1 a b), k.2.2.trans h.2.2⟩
theorem EX.er {row : Nat} {e e1 : St} (h : EX row e e1) : ER row e e1 := ⟨h.2.1, h.2.2, h.1 31 (by decide)⟩
theorem ER.eg {row : Nat} {e e1 : St} (h : ER row e e1) : EG row e e1 := ⟨fun r hr => h.1 r (by omega), fun i hi => h.2.1 i (by omega)⟩
theorem EX.eg {row : Nat} {e e1 : St} (h : EX row e e1) : EG row e e1 := h.er.eg
theorem ER_ex {row : Nat} {e : St} {fl wh : Int32} : ER row e (ex e fl wh) := ⟨fun r _ => by rw [ex_oth (by decide) (by decide)], fun _ _ => rfl, ex_oth (by decide) (by decide)⟩
theorem RW_er {row r : Nat} {e e1 : St} {L : List Int64} (h : RW e r L) (k : ER row e e1) (hr : r ≠ row) (hl : L.length ≤ 201) : RW e1 r L := ⟨(k.1 r hr).trans h.1, At_same h.2 (fun j h1 h2 => k.2.1 j (by omega))⟩
theorem RW_x {r : Nat} {e : St} {L : List Int64} {fl wh : Int32} (h : RW e r L) : RW (ex e fl wh) r L := ⟨by rw [ex_oth (by decide) (by decide)]; exact h.1, h.2⟩
/-- what going through a source gives in the reference -/
def GE (e1 : St) (er : Int32) : Prop := (e1.1 31 0 = 0 ∧ -10 - e1.1 13 0 = er) ∨ (e1.1 31 0 = 1 ∧ er = -4)
def GO (y : Nat) (Z0 : Zt) (row : Nat) (e : St) (q : (Int32 ⊕ List Int64) × St) (r : Int32) (Z1 : Zt) : Prop := MF y Z0 Z1 ∧ ∃ e1, MR Z1 y q.2 e1 ∧ EG row e e1 ∧ match q.1 with
  | .inl er => r = 0 ∧ GE e1 er
  | .inr L => r = 1 ∧ e1.1 31 0 = 0 ∧ RW e1 row L ∧ L.length ≤ 200
theorem GO_r {y : Nat} {Z0 Z1 : Zt} {row : Nat} {e e1 σ : St} {q : (Int32 ⊕ List Int64) × St} {L : List Int64} (hF : MF y Z0 Z1) (hM : MR Z1 y σ e1) (hE : EG row e e1) (h31 : e1.1 31 0 = 0) (hR : RW e1 row L) (hl : L.length ≤ 200) (hq : q = (.inr L, σ)) : GO y Z0 row e q 1 Z1 := by
  subst hq
  exact ⟨hF, e1, hM, hE, rfl, h31, hR, hl⟩
theorem GO_l {y : Nat} {Z0 Z1 : Zt} {row : Nat} {e e1 σ : St} {q : (Int32 ⊕ List Int64) × St} {er : Int32} (hF : MF y Z0 Z1) (hM : MR Z1 y σ e1) (hE : EG row e e1) (hG : GE e1 er) (hq : q = (.inl er, σ)) : GO y Z0 row e q 0 Z1 := by
  subst hq
  exact ⟨hF, e1, hM, hE, rfl, hG⟩
theorem bLe.f {σ : St} (h : bLe σ) : f15 σ := by
  obtain ⟨b, m, h1, h2, h3, h4⟩ := h
  exact ⟨m, h4, h2⟩
theorem rev_getD (L : List Int64) : (List.range L.length).map (fun i => L.getD (L.length - 1 - i) 0) = L.reverse := by
  refine List.ext_getElem (by simp) (fun i h1 h2 => ?_)
  have hi : i < L.length := by simpa using h1
  rw [List.getElem_map, List.getElem_range, List.getElem_reverse, gD (by omega)]
theorem vb_wild {v fl r : Int32} (hv : v ∈ vL) (ok : 0 ≤ v → fl = 0 ∧ r = v) (bad : ¬ 0 ≤ v → fl = -10 - v) (h : fl = 8) : v = -18 := by
  by_cases h0 : 0 ≤ v
  · rw [(ok h0).1] at h; exact absurd h (by decide)
  · exact (vL_8 v hv).mp ((bad h0).symm.trans h)
theorem vb_ok {v fl r : Int32} (hv : v ∈ vL) (ok : 0 ≤ v → fl = 0 ∧ r = v) (bad : ¬ 0 ≤ v → fl = -10 - v) (h : fl = 0) : 0 ≤ v ∧ r = v := by
  by_cases h0 : 0 ≤ v
  · exact ⟨h0, (ok h0).2⟩
  · exact absurd ((bad h0).symm.trans h) (vL_n v hv h0)
theorem vb_bad {v fl r : Int32} (hv : v ∈ vL) (ok : 0 ≤ v → fl = 0 ∧ r = v) (bad : ¬ 0 ≤ v → fl = -10 - v) (h : ¬ fl = 0) (h8 : ¬ fl = 8) : ¬ 0 ≤ v ∧ ¬ v = -18 ∧ fl = -10 - v := by
  by_cases h0 : 0 ≤ v
  · exact absurd (ok h0).1 h
  · exact ⟨h0, fun z => h8 (by rw [bad h0, z]; decide), bad h0⟩
theorem pS_w {fi : Nat} {c : Int64} {L : List Int64} {τ : St} (h : (jS 6 fi c τ).1 = -18) : pS fi (c :: L) τ = (.inl (-18), (jS 6 fi c τ).2) := by
  rw [pS, h, if_neg (by decide), if_neg (fun z => z.2 rfl), if_pos (by decide)]
theorem pS_1 {fi : Nat} {c : Int64} {L : List Int64} {τ : St} (h : (jS 6 fi c τ).1 = 1) : pS fi (c :: L) τ = cns c (pS fi L (jS 6 fi c τ).2) := by
  rw [pS, h, if_pos rfl]
theorem pS_0 {fi : Nat} {c : Int64} {L : List Int64} {τ : St} (h : (jS 6 fi c τ).1 = 0) : pS fi (c :: L) τ = pS fi L (jS 6 fi c τ).2 := by
  rw [pS, h, if_neg (by decide), if_neg (fun z => z.1 (by decide)), if_neg (by decide)]
theorem pS_b {fi : Nat} {c : Int64} {L : List Int64} {τ : St} (h0 : ¬ 0 ≤ (jS 6 fi c τ).1) (h : ¬ (jS 6 fi c τ).1 = -18) : pS fi (c :: L) τ = pS fi L (barS (jS 6 fi c τ).2 c (jS 6 fi c τ).1) := by
  rw [pS, if_neg (fun z => h0 (by rw [z]; decide)), if_pos ⟨h0, h⟩]
theorem bar_eq {τ : St} {b : Nat} {c : Int64} {v fl wh n1 : Int32} (hb : τ.1 32 0 = nI b) (h20 : b < 2 ^ 31) (h1 : fl = -10 - v) (h2 : wh = τ.1 14 0) (h3 : n1 = τ.1 32 0 + 1) : pI (pI (pI (pJ τ 33 b c) 34 b fl) 35 b wh) 32 0 n1 = barS τ c v := by
  unfold barS
  rw [hb, nI_clamp h20, h1, h2, h3, hb]
theorem bLe_bar {τ : St} {c : Int64} {v : Int32} {b m : Nat} (h1 : τ.1 32 0 = nI b) (h2 : τ.1 15 0 = nI m) (h3 : b + 1 ≤ m) (h4 : m ≤ 20) : bLe (barS τ c v) := by
  refine ⟨b + 1, m, ?_, ?_, h3, h4⟩
  · show (pI _ 32 0 _).1 32 0 = _
    rw [pI_at, h1, nI_1]
  · rw [barS_1 (by decide) (by decide) (by decide)]; exact h2
theorem PFf.kp8 {σ τ : St} {nf : Nat} (h : PFf σ nf) (k : kp8 σ τ) : PFf τ nf := h.cong (k.1 1 (by decide) (by decide) (by decide) (by decide) (by decide) (by decide) (by decide)) (k.1 2 (by decide) (by decide) (by decide) (by decide) (by decide) (by decide) (by decide)) (k.1 7 (by decide) (by decide) (by decide) (by decide) (by decide) (by decide) (by decide)) (k.1 8 (by decide) (by decide) (by decide) (by decide) (by decide) (by decide) (by decide)) (k.1 9 (by decide) (by decide) (by decide) (by decide) (by decide) (by decide) (by decide)) (k.1 11 (by decide) (by decide) (by decide) (by decide) (by decide) (by decide) (by decide))
set_option maxHeartbeats 600000 in
set_option maxRecDepth 100000 in
theorem mo_pass (l : Launch) (G : Gt) (M : Mt) (Z0 : Zt) (y : Nat) (σ e : St) (row : Nat) (hrow : row < 15) (s fi nf : Nat) (hs : s < 20) (hfi : fi < nf) (L : List Int64) (h1 : RW e (row + 1) L) (hl : L.length ≤ 200) (h31 : e.1 31 0 = 0) (P : Int32 → Zt → Prop) (hP : ∀ r Z1, GO y Z0 row e (pS fi L σ) r Z1 → P r Z1) : ∀ (Lr : List Int64) (k : Nat) (K : List Int64) (τ : St) (Z : Zt) (e1 : St) (o6 o8 : Option Value), L.drop k = Lr → k + Lr.length = L.length → K.length ≤ k → τ.1 20 s = nI fi → dpt τ fi ≤ 6 → PFf τ nf → bLe τ → MR Z y τ e1 → MF y Z0 Z → ER row e e1 → RW e1 row K → pS fi L σ = appK K (pS fi Lr τ) → Jd l G YX12_one (8, 0, 0) M Z 0 0 (Qm G (8, 0, 0) M (ΦI P)) 156 [some (.ref y), some (.int (nI s)), some (.int (nI row)), some (.int (nI (row + 1))), some (.int (nI L.length)), some (.int (nI k)), o6, none, o8] [] := by
  intro Lr
  induction Lr with
  | nil =>
    intro k K τ Z e1 o6 o8 hLr hkl hKk h20 hdp hPf hbl hM hF hE hR hT
    have hkl : k = L.length := by simpa using hkl
    subst hkl
    have hT : pS fi L σ = (.inr K, τ) := by rw [hT]; simp [appK, pS]
    refine q_iload dX12_one_156 rfl ?_
    refine q_iload dX12_one_158 rfl ?_
    refine q_icmp_ge 288 dX12_one_160 (by decide) (fun c160 => ?_) (fun c160 => absurd c160 (not_not_intro (Int32.le_refl _)))
    refine q_iconst (v := 1) dX12_one_288 (by decide) ?_
    exact q_zreturn dX12_one_289 rfl rfl (by decide) (by decide) (hP 1 Z (GO_r hF hM hE.eg (by rw [hE.2.2]; exact h31) hR (by omega) hT))
  | cons c Lr ih =>
    intro k K τ Z e1 o6 o8 hLr hkl hKk h20 hdp hPf hbl hM hF hE hR hT
    rw [List.length_cons] at hkl
    have hLr2 : L.drop (k + 1) = Lr := by rw [← List.drop_drop, hLr]; rfl
    have hci : L[k]? = some c := by
      have : (L.drop k)[0]? = some c := by rw [hLr]; rfl
      rw [List.getElem?_drop] at this
      simpa using this
    have hx : e1.2 29 (201 * (row + 1) + k) = c := (RW_er h1 hE (by omega) (by omega)).2 k c hci
    have hv := (jS_ok 6 fi c τ hbl.f).2
    have hj4 := kp4_jS 6 fi c τ
    have hbl2 := bLe_4 (n := 6) (f := fi) (c := c) hbl rfl
    have hk20 : (jS 6 fi c τ).2.1 20 = τ.1 20 := hj4.1 20 (by decide) (by decide) (by decide) (by decide)
    have hk8 : True ∧ dpt (jS 6 fi c τ).2 fi ≤ 6 := ⟨trivial, by unfold dpt; rw [hj4.1 11 (by decide) (by decide) (by decide) (by decide)]; exact hdp⟩
    obtain ⟨b0, m0, q1, q2, q3, q4⟩ := id hbl
    obtain ⟨m2, t1, t2, t3, t4⟩ := jOK_jS 6 fi c τ m0 q2 q4
    have q5 : (jS 6 fi c τ).2.1 32 0 = nI b0 := by rw [hj4.1 32 (by decide) (by decide) (by decide) (by decide)]; exact q1
    refine q_iload dX12_one_156 rfl ?_
    refine q_iload dX12_one_158 rfl ?_
    refine q_icmp_ge 288 dX12_one_160 (by decide) (fun c160 => absurd c160 (nI_ge (by omega) (by omega))) (fun c160 => ?_)
    first | refine q_aload_n dX12_one_163 rfl ?_ | refine q_aload_nN dX12_one_163 rfl ?_
    refine q_getf dX12_one_164 fk_X12_81_11 hM.K (hM.a 29 (by decide) (by decide)) ?_
    refine q_sipush (v := 201) dX12_one_167 (by decide) ?_
    refine q_iload_n dX12_one_170 rfl ?_
    refine q_imul dX12_one_171 ?_
    refine q_iload dX12_one_172 rfl ?_
    refine q_iadd dX12_one_174 ?_
    refine m_laldx 29 (201 * (row + 1) + k) hM dX12_one_175 (by decide) rfl rfl (by rw [show (201 : Int32) = nI 201 from rfl, pk_mul, nI_add]) (show 201 * (row + 1) + k < 3216 by omega) ?_
    rw [hx]
    refine q_lstore (ls' := [_, _, _, _, _, _, _, _, _]) dX12_one_176 rfl rfl (Nat.le_of_ble_eq_true rfl) (by decide) ?_
    first | refine q_aload_n dX12_one_178 rfl ?_ | refine q_aload_nN dX12_one_178 rfl ?_
    refine q_iconst (v := 0) dX12_one_179 (by decide) ?_
    refine m_putx 13 hM dX12_one_180 fk_X12_113_11 rfl (by decide) rfl rfl rfl rfl (fun Z hM hF1 => ?_)
    replace hF := hF.tr hF1
    rw [ex_13p] at hM
    first | refine q_aload_n dX12_one_183 rfl ?_ | refine q_aload_nN dX12_one_183 rfl ?_
    first | refine q_aload_n dX12_one_184 rfl ?_ | refine q_aload_nN dX12_one_184 rfl ?_
    refine q_getf dX12_one_185 fk_X12_53_11 hM.K (hM.a 20 (by decide) (by decide)) ?_
    refine q_iload_n dX12_one_188 rfl ?_
    refine m_iald 20 (s) hM dX12_one_189 (by decide) rfl rfl rfl (show s < 20 by omega) ?_
    rw [h20]
    refine q_lload dX12_one_190 rfl ?_
    refine q_callV 11 dX12_one_192 mk_X12_131 rfl hM.K (mpass l G y nf e1 6 fi c Z τ _ hfi hdp hPf hbl.f hM) rfl np_X12_passes (by decide) (by decide) (by decide) (Nat.le_of_ble_eq_true rfl) (kI (fun r3 Z3 hq => ?_))
    have hb3 := PP_b hq hv
    obtain ⟨f1, fl, wh1, hM, ok, bad⟩ := hq
    replace hF := hF.tr f1
    have bad1 := fun z => (bad z).1
    refine q_istore (ls' := [_, _, _, _, _, _, _, _, _]) dX12_one_195 rfl rfl (Nat.le_of_ble_eq_true rfl) (by decide) ?_
    first | refine q_aload_n dX12_one_197 rfl ?_ | refine q_aload_nN dX12_one_197 rfl ?_
    refine q_getf dX12_one_198 fk_X12_113_11 hM.K (hM.ix 13 (by decide) rfl rfl) ?_
    rw [ex_13]
    refine q_bipush (v := 8) dX12_one_201 (by decide) ?_
    refine q_icmp_ne 208 dX12_one_203 (by decide) (fun c203 => ?_) (fun c203 => ?_)
    · first | refine q_aload_n dX12_one_208 rfl ?_ | refine q_aload_nN dX12_one_208 rfl ?_
      refine q_getf dX12_one_209 fk_X12_113_11 hM.K (hM.ix 13 (by decide) rfl rfl) ?_
      rw [ex_13]
      refine q_if_eq 270 dX12_one_212 (by decide) (fun c212 => ?_) (fun c212 => ?_)
      · have hok := vb_ok hv ok bad1 c212
        refine q_iload dX12_one_270 rfl ?_
        refine q_if_eq 282 dX12_one_272 (by decide) (fun c272 => ?_) (fun c272 => ?_)
        · refine q_iinc 1 (ls' := [_, _, _, _, _, _, _, _, _]) dX12_one_282 rfl (by decide) rfl rfl (Nat.le_of_ble_eq_true rfl) (by decide) ?_
          refine q_goto 156 dX12_one_285 (by decide) ?_
          rw [nI_1]
          refine ih (k + 1) K _ _ _ _ _ hLr2 (by omega) (by omega) (by rw [hk20]; exact h20) hk8.2 (hPf.kp4 hj4) hbl2 hM hF (hE.tr ER_ex) (RW_x hR) ?_
          rw [hT, pS_0 (hok.2.symm.trans c272)]
        · first | refine q_aload_n dX12_one_275 rfl ?_ | refine q_aload_nN dX12_one_275 rfl ?_
          refine q_iload_n dX12_one_276 rfl ?_
          refine q_lload dX12_one_277 rfl ?_
          refine q_callV 11 dX12_one_279 mk_X12_163 rfl hM.K (mc_put l G Z3 y _ _ hM row K.length (by omega) (RW_x hR).1 (by omega) c) rfl np_X12_put (by decide) (by decide) (by decide) (Nat.le_of_ble_eq_true rfl) (kV (fun Z4 hp => ?_))
          obtain ⟨f4, hM⟩ := hp
          replace hF := hF.tr f4
          refine q_iinc 1 (ls' := [_, _, _, _, _, _, _, _, _]) dX12_one_282 rfl (by decide) rfl rfl (Nat.le_of_ble_eq_true rfl) (by decide) ?_
          refine q_goto 156 dX12_one_285 (by decide) ?_
          rw [nI_1]
          refine ih (k + 1) (K ++ [c]) _ _ _ _ _ hLr2 (by omega) (by rw [List.length_append, List.length_singleton]; omega) (by rw [hk20]; exact h20) hk8.2 (hPf.kp4 hj4) hbl2 hM hF ((hE.tr ER_ex).tr (EX_pE (by omega)).er) (RW_pE (RW_x hR)) ?_
          rw [hT, pS_1 (hok.2.symm.trans (hb3.resolve_left c272)), appK_cns]
      · have hbd := vb_bad hv ok bad1 c212 c203
        have hbw : ¬ (jS 6 fi c τ).1 = -18 → wh1 = (jS 6 fi c τ).2.1 14 0 := (bad hbd.1).2.2
        have t5 : m0 + 1 ≤ m2 := by
          rcases t4 with e | e | e | e
          · exact absurd (by rw [e]; decide) hbd.1
          · exact absurd (by rw [e]; decide) hbd.1
          · exact absurd e hbd.2.1
          · exact e.2
        first | refine q_aload_n dX12_one_215 rfl ?_ | refine q_aload_nN dX12_one_215 rfl ?_
        refine q_getf dX12_one_216 fk_X12_87_11 hM.K (hM.a 33 (by decide) (by decide)) ?_
        first | refine q_aload_n dX12_one_219 rfl ?_ | refine q_aload_nN dX12_one_219 rfl ?_
        refine q_getf dX12_one_220 fk_X12_187_11 hM.K (hM.i 32 (by decide) rfl rfl) ?_
        refine q_lload dX12_one_223 rfl ?_
        refine m_last 33 (b0) hM dX12_one_225 (by decide) rfl rfl q5 (show b0 < 24 by omega) (fun Z hM hF1 => ?_)
        replace hF := hF.tr hF1
        first | refine q_aload_n dX12_one_226 rfl ?_ | refine q_aload_nN dX12_one_226 rfl ?_
        refine q_getf dX12_one_227 fk_X12_90_11 hM.K (hM.a 34 (by decide) (by decide)) ?_
        first | refine q_aload_n dX12_one_230 rfl ?_ | refine q_aload_nN dX12_one_230 rfl ?_
        refine q_getf dX12_one_231 fk_X12_187_11 hM.K (hM.i 32 (by decide) rfl rfl) ?_
        first | refine q_aload_n dX12_one_234 rfl ?_ | refine q_aload_nN dX12_one_234 rfl ?_
        refine q_getf dX12_one_235 fk_X12_113_11 hM.K (hM.ix 13 (by decide) rfl rfl) ?_
        rw [ex_13]
        refine m_iast 34 (b0) hM dX12_one_238 (by decide) rfl rfl q5 (show b0 < 24 by omega) (fun Z hM hF1 => ?_)
        replace hF := hF.tr hF1
        first | refine q_aload_n dX12_one_239 rfl ?_ | refine q_aload_nN dX12_one_239 rfl ?_
        refine q_getf dX12_one_240 fk_X12_93_11 hM.K (hM.a 35 (by decide) (by decide)) ?_
        first | refine q_aload_n dX12_one_243 rfl ?_ | refine q_aload_nN dX12_one_243 rfl ?_
        refine q_getf dX12_one_244 fk_X12_187_11 hM.K (hM.i 32 (by decide) rfl rfl) ?_
        first | refine q_aload_n dX12_one_247 rfl ?_ | refine q_aload_nN dX12_one_247 rfl ?_
        refine q_getf dX12_one_248 fk_X12_116_11 hM.K (hM.ix 14 (by decide) rfl rfl) ?_
        rw [ex_14]
        refine m_iast 35 (b0) hM dX12_one_251 (by decide) rfl rfl (by rw [pI_ne (by decide)]; exact q5) (show b0 < 24 by omega) (fun Z hM hF1 => ?_)
        replace hF := hF.tr hF1
        first | refine q_aload_n dX12_one_252 rfl ?_ | refine q_aload_nN dX12_one_252 rfl ?_
        refine q_dup dX12_one_253 rfl ?_
        refine q_getf dX12_one_254 fk_X12_187_11 hM.K (hM.i 32 (by decide) rfl rfl) ?_
        refine q_iconst (v := 1) dX12_one_257 (by decide) ?_
        refine q_iadd dX12_one_258 ?_
        refine m_puti 32 hM dX12_one_259 fk_X12_187_11 rfl (by decide) rfl rfl rfl rfl (fun Z hM hF1 => ?_)
        replace hF := hF.tr hF1
        first | refine q_aload_n dX12_one_262 rfl ?_ | refine q_aload_nN dX12_one_262 rfl ?_
        refine q_iconst (v := 0) dX12_one_263 (by decide) ?_
        refine m_putx 13 hM dX12_one_264 fk_X12_113_11 rfl (by decide) rfl rfl rfl rfl (fun Z hM hF1 => ?_)
        replace hF := hF.tr hF1
        refine q_goto 282 dX12_one_267 (by decide) ?_
        refine q_iinc 1 (ls' := [_, _, _, _, _, _, _, _, _]) dX12_one_282 rfl (by decide) rfl rfl (Nat.le_of_ble_eq_true rfl) (by decide) ?_
        refine q_goto 156 dX12_one_285 (by decide) ?_
        rw [nI_1]
        rw [ex_p13, bar_eq q5 (by omega) hbd.2.2 (hbw hbd.2.1) (by rw [pI_ne (by decide), pI_ne (by decide)]; rfl)] at hM
        refine ih (k + 1) K _ _ _ _ _ hLr2 (by omega) (by omega) ?_ ?_ ((hPf.kp4 hj4).kp8 (kp8_bar _ _ _)) (bLe_bar q5 t3 (by omega) t2) hM hF (hE.tr ER_ex) (RW_x hR) ?_
        · rw [barS_1 (by decide) (by decide) (by decide), hk20]; exact h20
        · unfold dpt; rw [barS_1 (by decide) (by decide) (by decide)]; exact hk8.2
        · rw [hT, pS_b hbd.1 hbd.2.1]
    · have hw := vb_wild hv ok bad1 c203
      refine q_iconst (v := 0) dX12_one_206 (by decide) ?_
      exact q_zreturn dX12_one_207 rfl rfl (by decide) (by decide) (hP 0 Z3 (GO_l hF hM (hE.tr ER_ex).eg (Or.inl ⟨by rw [ex_oth (by decide) (by decide), hE.2.2]; exact h31, by rw [ex_13, c203]⟩) (by rw [hT, pS_w hw]; rfl)))
noncomputable def oneS (σ : St) (s : Nat) (L : List Int64) : (Int32 ⊕ List Int64) × St := if σ.1 17 s = 5 then (.inr L.reverse, σ) else if σ.1 17 s = 6 then (.inr ((srtR (σ.2 22 s) L).reverse.take (σ.1 21 s).toNatClampNeg), σ) else if σ.1 17 s = 8 then (.inr (evL (σ.1 21 s).toNatClampNeg L), σ) else pS (σ.1 20 s).toNatClampNeg L σ
set_option maxHeartbeats 600000 in
set_option maxRecDepth 100000 in
theorem mc_one5 (l : Launch) (G : Gt) (Z0 : Zt) (y : Nat) (σ e : St) (hM : MR Z0 y σ e) (row : Nat) (hrow : row < 15) (s : Nat) (hs : s < 20) (L : List Int64) (h1 : RW e (row + 1) L) (hl : L.length ≤ 200) (h31 : e.1 31 0 = 0) (hso : σ.1 17 s = 5)  : Ct l G YX12_one (8, 0, 0) Z0 [.ref y, .int (nI s), .int (nI row), .int (nI (row + 1))] (ΦI (GO y Z0 row e (oneS σ s L))) := by
  refine ct_of [some (.ref y), some (.int (nI s)), some (.int (nI row)), some (.int (nI (row + 1))), none, none, none, none, none] (by decide +kernel) (Nat.le_of_ble_eq_true rfl) rfl (fun M => ?_)
  have hF := MF.rf y Z0
  first | refine q_aload_n dX12_one_0 rfl ?_ | refine q_aload_nN dX12_one_0 rfl ?_
  refine q_getf dX12_one_1 fk_X12_84_11 hM.K (hM.a 30 (by decide) (by decide)) ?_
  refine q_iload_n dX12_one_4 rfl ?_
  refine q_iconst (v := 0) dX12_one_5 (by decide) ?_
  refine m_iastx 30 (row) hM dX12_one_6 (by decide) rfl rfl rfl (show row < 16 by omega) (fun Z hM hF1 => ?_)
  replace hF := hF.tr hF1
  first | refine q_aload_n dX12_one_7 rfl ?_ | refine q_aload_nN dX12_one_7 rfl ?_
  refine q_getf dX12_one_8 fk_X12_84_11 hM.K (hM.a 30 (by decide) (by decide)) ?_
  refine q_iload_n dX12_one_11 rfl ?_
  refine m_ialdx 30 (row + 1) hM dX12_one_12 (by decide) rfl rfl rfl (show row + 1 < 16 by omega) ?_
  rw [(RW_ex h1 (EX_0 (row := row) (v := 0)) (by omega) (by omega)).1]
  refine q_istore (ls' := [_, _, _, _, _, _, _, _, _]) dX12_one_13 rfl rfl (Nat.le_of_ble_eq_true rfl) (by decide) ?_
  first | refine q_aload_n dX12_one_15 rfl ?_ | refine q_aload_nN dX12_one_15 rfl ?_
  refine q_getf dX12_one_16 fk_X12_44_11 hM.K (hM.a 17 (by decide) (by decide)) ?_
  refine q_iload_n dX12_one_19 rfl ?_
  refine m_iald 17 (s) hM dX12_one_20 (by decide) rfl rfl rfl (show s < 20 by omega) ?_
  rw [hso]
  refine q_tsw [(5, 52), (6, 89), (7, 153), (8, 109)] 153 dX12_one_21 (by decide) (by decide) (by decide) (by decide) (fun q hq c21 => ?_) (fun c21 => absurd rfl (c21 (5, 52) (by decide)))
  rcases List.mem_cons.mp hq with rfl | hq
  · refine q_iload dX12_one_52 rfl ?_
    refine q_iconst (v := 1) dX12_one_54 (by decide) ?_
    refine q_isub dX12_one_55 ?_
    refine q_istore (ls' := [_, _, _, _, _, _, _, _, _]) dX12_one_56 rfl rfl (Nat.le_of_ble_eq_true rfl) (by decide) ?_
    exact mg_turn l G M Z0 y σ e 7 row (by omega) s L hrow h1 hl _ (fun Z1 e1 a1 a2 a3 => GO_r a1 a2 a3.1.eg (by rw [a3.1.1 31 (by decide)]; exact h31) (by have := a3.2; rw [List.nil_append, rev_getD] at this; exact this) (by rw [List.length_reverse]; exact hl) (by rw [oneS, if_pos hso])) L.length 0 Z _ (by omega) hM hF (LQ_0 EX_0 RW_0)
  rcases List.mem_cons.mp hq with rfl | hq
  · exact absurd c21 (by decide)
  rcases List.mem_cons.mp hq with rfl | hq
  · exact absurd c21 (by decide)
  rcases List.mem_cons.mp hq with rfl | hq
  · exact absurd c21 (by decide)
  exact absurd hq List.not_mem_nil
set_option maxHeartbeats 600000 in
set_option maxRecDepth 100000 in
theorem mc_one6 (l : Launch) (G : Gt) (Z0 : Zt) (y : Nat) (σ e : St) (hM : MR Z0 y σ e) (row : Nat) (hrow : row < 15) (s : Nat) (hs : s < 20) (L : List Int64) (h1 : RW e (row + 1) L) (hl : L.length ≤ 200) (h31 : e.1 31 0 = 0) (hso : σ.1 17 s = 6) (n : Nat) (hn : n ≤ 200) (hn21 : σ.1 21 s = nI n) : Ct l G YX12_one (8, 0, 0) Z0 [.ref y, .int (nI s), .int (nI row), .int (nI (row + 1))] (ΦI (GO y Z0 row e (oneS σ s L))) := by
  refine ct_of [some (.ref y), some (.int (nI s)), some (.int (nI row)), some (.int (nI (row + 1))), none, none, none, none, none] (by decide +kernel) (Nat.le_of_ble_eq_true rfl) rfl (fun M => ?_)
  have hF := MF.rf y Z0
  first | refine q_aload_n dX12_one_0 rfl ?_ | refine q_aload_nN dX12_one_0 rfl ?_
  refine q_getf dX12_one_1 fk_X12_84_11 hM.K (hM.a 30 (by decide) (by decide)) ?_
  refine q_iload_n dX12_one_4 rfl ?_
  refine q_iconst (v := 0) dX12_one_5 (by decide) ?_
  refine m_iastx 30 (row) hM dX12_one_6 (by decide) rfl rfl rfl (show row < 16 by omega) (fun Z hM hF1 => ?_)
  replace hF := hF.tr hF1
  first | refine q_aload_n dX12_one_7 rfl ?_ | refine q_aload_nN dX12_one_7 rfl ?_
  refine q_getf dX12_one_8 fk_X12_84_11 hM.K (hM.a 30 (by decide) (by decide)) ?_
  refine q_iload_n dX12_one_11 rfl ?_
  refine m_ialdx 30 (row + 1) hM dX12_one_12 (by decide) rfl rfl rfl (show row + 1 < 16 by omega) ?_
  rw [(RW_ex h1 (EX_0 (row := row) (v := 0)) (by omega) (by omega)).1]
  refine q_istore (ls' := [_, _, _, _, _, _, _, _, _]) dX12_one_13 rfl rfl (Nat.le_of_ble_eq_true rfl) (by decide) ?_
  first | refine q_aload_n dX12_one_15 rfl ?_ | refine q_aload_nN dX12_one_15 rfl ?_
  refine q_getf dX12_one_16 fk_X12_44_11 hM.K (hM.a 17 (by decide) (by decide)) ?_
  refine q_iload_n dX12_one_19 rfl ?_
  refine m_iald 17 (s) hM dX12_one_20 (by decide) rfl rfl rfl (show s < 20 by omega) ?_
  rw [hso]
  refine q_tsw [(5, 52), (6, 89), (7, 153), (8, 109)] 153 dX12_one_21 (by decide) (by decide) (by decide) (by decide) (fun q hq c21 => ?_) (fun c21 => absurd rfl (c21 (6, 89) (by decide)))
  rcases List.mem_cons.mp hq with rfl | hq
  · exact absurd c21 (by decide)
  rcases List.mem_cons.mp hq with rfl | hq
  · first | refine q_aload_n dX12_one_89 rfl ?_ | refine q_aload_nN dX12_one_89 rfl ?_
    refine q_iload_n dX12_one_90 rfl ?_
    refine q_iload_n dX12_one_91 rfl ?_
    first | refine q_aload_n dX12_one_92 rfl ?_ | refine q_aload_nN dX12_one_92 rfl ?_
    refine q_getf dX12_one_93 fk_X12_59_11 hM.K (hM.a 22 (by decide) (by decide)) ?_
    refine q_iload_n dX12_one_96 rfl ?_
    refine m_lald 22 (s) hM dX12_one_97 (by decide) rfl rfl rfl (show s < 20 by omega) ?_
    first | refine q_aload_n dX12_one_98 rfl ?_ | refine q_aload_nN dX12_one_98 rfl ?_
    refine q_getf dX12_one_99 fk_X12_56_11 hM.K (hM.a 21 (by decide) (by decide)) ?_
    refine q_iload_n dX12_one_102 rfl ?_
    refine m_iald 21 (s) hM dX12_one_103 (by decide) rfl rfl rfl (show s < 20 by omega) ?_
    rw [hn21]
    refine q_callV 11 dX12_one_104 mk_X12_183 rfl hM.K (mc_near l G Z y σ _ hM 0 row n hrow hn _ L RW_0 (RW_ex h1 (EX_0 (row := row) (v := 0)) (by omega) (by omega)) hl) rfl np_X12_near (by decide) (by decide) (by decide) (Nat.le_of_ble_eq_true rfl) (kV (fun Z2 h2 => ?_))
    obtain ⟨f2, e2, hM, hX, hR⟩ := h2
    replace hF := hF.tr f2
    replace hX := EX_0.tr hX
    refine q_iconst (v := 1) dX12_one_107 (by decide) ?_
    exact q_zreturn dX12_one_108 rfl rfl (by decide) (by decide) (GO_r hF hM hX.eg (by rw [hX.1 31 (by decide)]; exact h31) hR (Nat.le_trans (List.length_take_le _ _) hn) (by rw [oneS, if_neg (by rw [hso]; decide), if_pos hso, hn21, nI_clamp (by omega)]))
  rcases List.mem_cons.mp hq with rfl | hq
  · exact absurd c21 (by decide)
  rcases List.mem_cons.mp hq with rfl | hq
  · exact absurd c21 (by decide)
  exact absurd hq List.not_mem_nil
set_option maxHeartbeats 600000 in
set_option maxRecDepth 100000 in
theorem mc_one8 (l : Launch) (G : Gt) (Z0 : Zt) (y : Nat) (σ e : St) (hM : MR Z0 y σ e) (row : Nat) (hrow : row < 15) (s : Nat) (hs : s < 20) (L : List Int64) (h1 : RW e (row + 1) L) (hl : L.length ≤ 200) (h31 : e.1 31 0 = 0) (hso : σ.1 17 s = 8) (n : Nat) (hn1 : 1 ≤ n) (hn : n ≤ 200) (hn21 : σ.1 21 s = nI n) : Ct l G YX12_one (8, 0, 0) Z0 [.ref y, .int (nI s), .int (nI row), .int (nI (row + 1))] (ΦI (GO y Z0 row e (oneS σ s L))) := by
  refine ct_of [some (.ref y), some (.int (nI s)), some (.int (nI row)), some (.int (nI (row + 1))), none, none, none, none, none] (by decide +kernel) (Nat.le_of_ble_eq_true rfl) rfl (fun M => ?_)
  have hF := MF.rf y Z0
  first | refine q_aload_n dX12_one_0 rfl ?_ | refine q_aload_nN dX12_one_0 rfl ?_
  refine q_getf dX12_one_1 fk_X12_84_11 hM.K (hM.a 30 (by decide) (by decide)) ?_
  refine q_iload_n dX12_one_4 rfl ?_
  refine q_iconst (v := 0) dX12_one_5 (by decide) ?_
  refine m_iastx 30 (row) hM dX12_one_6 (by decide) rfl rfl rfl (show row < 16 by omega) (fun Z hM hF1 => ?_)
  replace hF := hF.tr hF1
  first | refine q_aload_n dX12_one_7 rfl ?_ | refine q_aload_nN dX12_one_7 rfl ?_
  refine q_getf dX12_one_8 fk_X12_84_11 hM.K (hM.a 30 (by decide) (by decide)) ?_
  refine q_iload_n dX12_one_11 rfl ?_
  refine m_ialdx 30 (row + 1) hM dX12_one_12 (by decide) rfl rfl rfl (show row + 1 < 16 by omega) ?_
  rw [(RW_ex h1 (EX_0 (row := row) (v := 0)) (by omega) (by omega)).1]
  refine q_istore (ls' := [_, _, _, _, _, _, _, _, _]) dX12_one_13 rfl rfl (Nat.le_of_ble_eq_true rfl) (by decide) ?_
  first | refine q_aload_n dX12_one_15 rfl ?_ | refine q_aload_nN dX12_one_15 rfl ?_
  refine q_getf dX12_one_16 fk_X12_44_11 hM.K (hM.a 17 (by decide) (by decide)) ?_
  refine q_iload_n dX12_one_19 rfl ?_
  refine m_iald 17 (s) hM dX12_one_20 (by decide) rfl rfl rfl (show s < 20 by omega) ?_
  rw [hso]
  refine q_tsw [(5, 52), (6, 89), (7, 153), (8, 109)] 153 dX12_one_21 (by decide) (by decide) (by decide) (by decide) (fun q hq c21 => ?_) (fun c21 => absurd rfl (c21 (8, 109) (by decide)))
  rcases List.mem_cons.mp hq with rfl | hq
  · exact absurd c21 (by decide)
  rcases List.mem_cons.mp hq with rfl | hq
  · exact absurd c21 (by decide)
  rcases List.mem_cons.mp hq with rfl | hq
  · exact absurd c21 (by decide)
  rcases List.mem_cons.mp hq with rfl | hq
  · refine q_iconst (v := 0) dX12_one_109 (by decide) ?_
    refine q_istore (ls' := [_, _, _, _, _, _, _, _, _]) dX12_one_110 rfl rfl (Nat.le_of_ble_eq_true rfl) (by decide) ?_
    have h0n : nI (0 * n) = 0 := by rw [Nat.zero_mul]; rfl
    have hev := mg_every l G M Z0 y σ e 7 row (by omega) s n hs hn1 hn hn21 L hrow h1 hl (GO y Z0 row e (oneS σ s L)) (fun Z1 e1 a1 a2 a3 => GO_r (L := evL n L) a1 a2 a3.1.eg (by rw [a3.1.1 31 (by decide)]; exact h31) (by have := a3.2; rw [List.nil_append] at this; exact this) (by rw [evL, List.length_map, List.length_range]; exact Nat.le_trans (evN_le hn1) hl) (by rw [oneS, if_neg (by rw [hso]; decide), if_neg (by rw [hso]; decide), if_pos hso, hn21, nI_clamp (by omega)])) (evN n L.length) 0 Z _ (by omega) hM hF (LQ_0 EX_0 RW_0)
    rw [h0n] at hev
    exact hev
  exact absurd hq List.not_mem_nil
set_option maxHeartbeats 600000 in
set_option maxRecDepth 100000 in
theorem mc_one7 (l : Launch) (G : Gt) (Z0 : Zt) (y : Nat) (σ e : St) (hM : MR Z0 y σ e) (row : Nat) (hrow : row < 15) (s : Nat) (hs : s < 20) (L : List Int64) (h1 : RW e (row + 1) L) (hl : L.length ≤ 200) (h31 : e.1 31 0 = 0) (hso : σ.1 17 s = 7) (fi nf : Nat) (hfi : fi < nf) (h20 : σ.1 20 s = nI fi) (hPf : PFf σ nf) (hbl : bLe σ) : Ct l G YX12_one (8, 0, 0) Z0 [.ref y, .int (nI s), .int (nI row), .int (nI (row + 1))] (ΦI (GO y Z0 row e (oneS σ s L))) := by
  refine ct_of [some (.ref y), some (.int (nI s)), some (.int (nI row)), some (.int (nI (row + 1))), none, none, none, none, none] (by decide +kernel) (Nat.le_of_ble_eq_true rfl) rfl (fun M => ?_)
  have hF := MF.rf y Z0
  have hnf := hPf.1
  first | refine q_aload_n dX12_one_0 rfl ?_ | refine q_aload_nN dX12_one_0 rfl ?_
  refine q_getf dX12_one_1 fk_X12_84_11 hM.K (hM.a 30 (by decide) (by decide)) ?_
  refine q_iload_n dX12_one_4 rfl ?_
  refine q_iconst (v := 0) dX12_one_5 (by decide) ?_
  refine m_iastx 30 (row) hM dX12_one_6 (by decide) rfl rfl rfl (show row < 16 by omega) (fun Z hM hF1 => ?_)
  replace hF := hF.tr hF1
  first | refine q_aload_n dX12_one_7 rfl ?_ | refine q_aload_nN dX12_one_7 rfl ?_
  refine q_getf dX12_one_8 fk_X12_84_11 hM.K (hM.a 30 (by decide) (by decide)) ?_
  refine q_iload_n dX12_one_11 rfl ?_
  refine m_ialdx 30 (row + 1) hM dX12_one_12 (by decide) rfl rfl rfl (show row + 1 < 16 by omega) ?_
  rw [(RW_ex h1 (EX_0 (row := row) (v := 0)) (by omega) (by omega)).1]
  refine q_istore (ls' := [_, _, _, _, _, _, _, _, _]) dX12_one_13 rfl rfl (Nat.le_of_ble_eq_true rfl) (by decide) ?_
  first | refine q_aload_n dX12_one_15 rfl ?_ | refine q_aload_nN dX12_one_15 rfl ?_
  refine q_getf dX12_one_16 fk_X12_44_11 hM.K (hM.a 17 (by decide) (by decide)) ?_
  refine q_iload_n dX12_one_19 rfl ?_
  refine m_iald 17 (s) hM dX12_one_20 (by decide) rfl rfl rfl (show s < 20 by omega) ?_
  rw [hso]
  refine q_tsw [(5, 52), (6, 89), (7, 153), (8, 109)] 153 dX12_one_21 (by decide) (by decide) (by decide) (by decide) (fun q hq c21 => ?_) (fun c21 => absurd rfl (c21 (7, 153) (by decide)))
  rcases List.mem_cons.mp hq with rfl | hq
  · exact absurd c21 (by decide)
  rcases List.mem_cons.mp hq with rfl | hq
  · exact absurd c21 (by decide)
  rcases List.mem_cons.mp hq with rfl | hq
  · refine q_iconst (v := 0) dX12_one_153 (by decide) ?_
    refine q_istore (ls' := [_, _, _, _, _, _, _, _, _]) dX12_one_154 rfl rfl (Nat.le_of_ble_eq_true rfl) (by decide) ?_
    exact mo_pass l G M Z0 y σ e row hrow s fi nf hs hfi L h1 hl h31 _ (fun r Z1 a => by rw [oneS, if_neg (by rw [hso]; decide), if_neg (by rw [hso]; decide), if_neg (by rw [hso]; decide), h20, nI_clamp (by omega)]; exact a) L 0 [] σ Z _ none none (by rw [List.drop_zero]) (by omega) (by simp) h20 ((hPf.2.2.2 fi hfi).2.1.2) hPf hbl hM hF EX_0.er RW_0 (by rw [appK_nil])
  rcases List.mem_cons.mp hq with rfl | hq
  · exact absurd c21 (by decide)
  exact absurd hq List.not_mem_nil
