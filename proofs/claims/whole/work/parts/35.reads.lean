def atS (σ : St) (k : Int64) : Int64 := if σ.1 36 0 = 1 then σ.2 37 0 + k * σ.2 38 0 else σ.2 40 (uN k)
def plcP (σ : St) (v r : Int64) : Prop := fstP (if σ.1 36 0 = 1 then fun i => σ.2 37 0 + lN i * σ.2 38 0 else σ.2 40) (uN (σ.2 39 0)) v r
theorem in200L {k : Int64} {n : Nat} (h0 : ¬ k < 0) (h : k < lN n) (hn : n ≤ 200) : vp_in k.toInt32 200 ∧ k.toInt32.toNatClampNeg = uN k ∧ uN k < n := by
  obtain ⟨h1, h2⟩ := uN_pos h0
  have h3 := Int64.lt_iff_toInt_lt.mp h
  have h3' := uN_int (lN n)
  rw [uN_ofNat (by omega), if_pos (by omega)] at h3'
  have h4 : uN k < n := by omega
  have h5 : k = lN (uN k) := uN_inj (by rw [uN_ofNat (uN_lt k)])
  have h6 : k.toInt32 = nI (uN k) := by rw [h5, lN_i, ← h5]
  rw [h6]
  exact ⟨vp_in_nI (by omega) (by decide), nI_clamp (by omega), h4⟩
theorem cc_many (l : Launch) (G : Gt) (Z : Zt) (x nf ns : Nat) (af as : Nat → Nat) (σ : St) (h : CR Z x σ af as nf ns) : Ct l G YX5_many (0, 0, 0) Z [.ref (x + 9)] (ΦL (fun r Z1 => Z1 = Z ∧ r = σ.2 39 0)) := by
  have hc := h.1.1.2.2.2.1
  rcases h.2.2.2.1 with ⟨e, h0, n, hn, hs, h2, hr⟩ | ⟨e, q, h0, a, b, f, st, c, d, q0, q1, q2, q3, qd, qc, -⟩
  · refine (c_X5_many_g l G Z (x + 9) (nI n) hc.1 h0 h2).mono (fun v Z' hv => ?_)
    obtain ⟨r, e1, e2, e3⟩ := hv
    exact ⟨r, e1, e2, by rw [e3, hs, nI_l (by omega)]⟩
  · refine (c_X5_many_p l G Z (x + 9) q c hc.1 h0 b q3).mono (fun v Z' hv => ?_)
    obtain ⟨r, e1, e2, e3⟩ := hv
    exact ⟨r, e1, e2, by rw [e3, qc]⟩
theorem cc_nat (l : Launch) (G : Gt) (Z : Zt) (x nf ns : Nat) (af as : Nat → Nat) (σ : St) (h : CR Z x σ af as nf ns) (k : Int64) (hk : ¬ k < 0) (hs : k < σ.2 39 0) : Ct l G YX5_numberAt (1, 0, 0) Z [.ref (x + 9), .long k] (ΦL (fun r Z1 => Z1 = Z ∧ r = atS σ k)) := by
  have hc := h.1.1.2.2.2.1
  rcases h.2.2.2.1 with ⟨e, h0, n, hn, hsz, h2, hr⟩ | ⟨e, q, h0, a, b, f, st, c, d, q0, q1, q2, q3, qd, qc, qn, qf, qw⟩
  · rw [hsz] at hs
    obtain ⟨i1, i2, i3⟩ := in200L hk hs hn
    refine (c_X5_numberAt_g l G Z (x + 9) (x + 10) (nI n) k hc.1 h0 hc.2.1 h2 hc.2.2.1 hk (by rw [nI_l (by omega)]; exact hs) (by rw [hc.2.2.2.1]; exact i1)).mono (fun v Z' hv => ?_)
    obtain ⟨r, e1, e2, e3⟩ := hv
    exact ⟨r, e1, e2, by rw [e3, i2, atS, if_neg (by rw [e]; decide), hr _ i3]⟩
  · refine (c_X5_numberAt_p l G Z (x + 9) q f st c d k hc.1 h0 b q0 q1 q2 q3).mono (fun v Z' hv => ?_)
    obtain ⟨r, e1, e2, e3⟩ := hv
    obtain ⟨f1, f2⟩ := qf (fun z => hk (Int64.lt_iff_toInt_lt.mpr (by
      have a1 := Int64.lt_iff_toInt_lt.mp z
      have a2 := Int64.lt_iff_toInt_lt.mp hs
      have a3 : (1 : Int64).toInt = 1 := by decide
      have a4 : (0 : Int64).toInt = 0 := by decide
      rw [← qc] at a2
      omega)))
    exact ⟨r, e1, e2, by rw [e3, atS, if_pos e]; exact stAt_F qd f1 f2⟩
set_option maxHeartbeats 600000 in
set_option maxRecDepth 100000 in
theorem cc_size (l : Launch) (G : Gt) (Z : Zt) (x nf ns : Nat) (af as : Nat → Nat) (σ : St) (h : CR Z x σ af as nf ns) : Ct l G YX11_size (1, 0, 0) Z [.ref x] (ΦL (fun r Z1 => Z1 = Z ∧ r = σ.2 39 0)) := by
  refine ct_of [some (.ref x)] (by decide +kernel) (Nat.le_of_ble_eq_true rfl) rfl (fun M => ?_)
  have hx := h.1.1.1
  have hr := h.1.1.2.2.2.1
  have ht := h.1.1.2.2.1
  first | refine q_aload_n dX11_size_0 rfl ?_ | refine q_aload_nN dX11_size_0 rfl ?_
  refine q_getf dX11_size_1 fk_X11_43_10 hx.1 hx.2.2.2.2.2.2.1 ?_
  refine q_callV 4 dX11_size_4 mk_X11_184 rfl hr.1 (cc_many l G Z x nf ns af as σ h) rfl np_X5_many (by decide) (by decide) (by decide) (Nat.le_of_ble_eq_true rfl) (kL (fun r4 Z4 h4 => ?_))
  exact q_lreturn dX11_size_7 rfl (by decide) (by decide) h4
set_option maxHeartbeats 600000 in
set_option maxRecDepth 100000 in
theorem cc_at (l : Launch) (G : Gt) (Z : Zt) (x nf ns : Nat) (af as : Nat → Nat) (σ : St) (h : CR Z x σ af as nf ns) (k : Int64) (hk : ¬ k < 0) (hs : k < σ.2 39 0) : Ct l G YX11_at (2, 0, 0) Z [.ref x, .long k] (ΦL (fun r Z1 => Z1 = Z ∧ r = atS σ k)) := by
  refine ct_of [some (.ref x), some (.long k), none] (by decide +kernel) (Nat.le_of_ble_eq_true rfl) rfl (fun M => ?_)
  have hx := h.1.1.1
  have hr := h.1.1.2.2.2.1
  have ht := h.1.1.2.2.1
  refine q_lload_n dX11_at_0 rfl ?_
  refine q_lconst (v := 0) dX11_at_1 (by decide) ?_
  refine q_lcmp_lt 18 dX11_at_2 dX11_at_3 (by decide) (fun c2 => absurd c2 hk) (fun c2 => ?_)
  refine q_lload_n dX11_at_6 rfl ?_
  first | refine q_aload_n dX11_at_7 rfl ?_ | refine q_aload_nN dX11_at_7 rfl ?_
  refine q_getf dX11_at_8 fk_X11_43_10 hx.1 hx.2.2.2.2.2.2.1 ?_
  refine q_callV 4 dX11_at_11 mk_X11_184 rfl hr.1 (cc_many l G Z x nf ns af as σ h) rfl np_X5_many (by decide) (by decide) (by decide) (Nat.le_of_ble_eq_true rfl) (kL (fun r11 Z11 h11 => ?_))
  obtain ⟨rfl, rfl⟩ := h11
  refine q_lcmp_lt 28 dX11_at_14 dX11_at_15 (by decide) (fun c14 => ?_) (fun c14 => absurd c14 (not_not_intro hs))
  first | refine q_aload_n dX11_at_28 rfl ?_ | refine q_aload_nN dX11_at_28 rfl ?_
  refine q_getf dX11_at_29 fk_X11_43_10 hx.1 hx.2.2.2.2.2.2.1 ?_
  refine q_lload_n dX11_at_32 rfl ?_
  refine q_callV 4 dX11_at_33 mk_X11_195 rfl hr.1 (cc_nat l G Z11 x nf ns af as σ h k hk hs) rfl np_X5_numberAt (by decide) (by decide) (by decide) (Nat.le_of_ble_eq_true rfl) (kL (fun r33 Z33 h33 => ?_))
  exact q_lreturn dX11_at_36 rfl (by decide) (by decide) h33
theorem plc_g {σ : St} {n : Nat} {g : Nat → Int64} {v r : Int64} {i : Int32} (e : σ.1 36 0 = 0) (hsz : σ.2 39 0 = lN n) (hn : n ≤ 200) (hr : ∀ i, i < n → g i = σ.2 40 i) (e2 : r = i.toInt64) (e3 : fnd g 0 n v i) : plcP σ v r := by
  unfold plcP
  rw [if_neg (by rw [e]; decide), hsz, uN_ofNat (by omega)]
  refine fstP_congr hr ?_
  rcases e3 with ⟨j, a1, a2, a3, a4, rfl⟩ | ⟨a1, rfl⟩
  · exact Or.inl ⟨j, a2, a3, fun k hk => a4 k (by omega) hk, by rw [e2, nI_l (by omega)]⟩
  · exact Or.inr ⟨fun k hk => a1 k (by omega) hk, e2⟩
theorem plc_p {σ : St} {f st c v r : Int64} {d : Int32} (e : σ.1 36 0 = 1) (qd : d = 0 ∨ d = 1) (qc : c = σ.2 39 0) (qn : ¬ c < 0) (qf : ¬ c < 1 → f = σ.2 37 0 ∧ σ.2 38 0 = (if d = 0 then st else -st)) (qw : wfSt f st d c) (e2 : r = stIx f st d c v) : plcP σ v r := by
  unfold plcP
  rw [if_pos e, ← qc, e2]
  refine fstP_congr (fun i hi => ?_) (stIx_fst qd qn qw)
  obtain ⟨f1, f2⟩ := qf (fun z => by
    have a1 := Int64.lt_iff_toInt_lt.mp z
    have a3 : (1 : Int64).toInt = 1 := by decide
    obtain ⟨c1, c2⟩ := uN_pos qn
    omega)
  exact stAt_F qd f1 f2
set_option maxHeartbeats 600000 in
set_option maxRecDepth 100000 in
theorem cc_place (l : Launch) (G : Gt) (Z : Zt) (x nf ns : Nat) (af as : Nat → Nat) (σ : St) (h : CR Z x σ af as nf ns) (v : Int64) : Ct l G YX11_place (5, 0, 0) Z [.ref x, .long v] (ΦL (fun r Z1 => Z1 = Z ∧ plcP σ v r)) := by
  refine ct_of [some (.ref x), some (.long v), none] (by decide +kernel) (Nat.le_of_ble_eq_true rfl) rfl (fun M => ?_)
  have hx := h.1.1.1
  have hr := h.1.1.2.2.2.1
  have ht := h.1.1.2.2.1
  rcases h.2.2.2.1 with ⟨e, h0, n, hn, hsz, h2, hr3⟩ | ⟨e, q, h0, a, b, f, st, c, d, q0, q1, q2, q3, qd, qc, qn, qf, qw⟩
  · first | refine q_aload_n dX11_place_0 rfl ?_ | refine q_aload_nN dX11_place_0 rfl ?_
    refine q_getf dX11_place_1 fk_X11_43_10 hx.1 hx.2.2.2.2.2.2.1 ?_
    refine q_lload_n dX11_place_4 rfl ?_
    refine q_callV 4 dX11_place_5 mk_X11_199 rfl hr.1 (c_X5_indexOf_g l G Z (x + 9) (x + 10) n v hr.1 h0 hr.2.1 h2 hr.2.2.1 hr.2.2.2.1 hn) rfl np_X5_indexOf (by decide) (by decide) (by decide) (Nat.le_of_ble_eq_true rfl) (kL (fun r5 Z5 h5 => ?_))
    exact q_lreturn dX11_place_8 rfl (by decide) (by decide) (by obtain ⟨e1, i, e2, e3⟩ := h5; exact ⟨e1, plc_g e hsz hn hr3 e2 e3⟩)
  · first | refine q_aload_n dX11_place_0 rfl ?_ | refine q_aload_nN dX11_place_0 rfl ?_
    refine q_getf dX11_place_1 fk_X11_43_10 hx.1 hx.2.2.2.2.2.2.1 ?_
    refine q_lload_n dX11_place_4 rfl ?_
    refine q_callV 4 dX11_place_5 mk_X11_199 rfl hr.1 (c_X5_indexOf_p l G Z (x + 9) q f st c d v hr.1 h0 b q0 q1 q2 q3) rfl np_X5_indexOf (by decide) (by decide) (by decide) (Nat.le_of_ble_eq_true rfl) (kL (fun r5 Z5 h5 => ?_))
    exact q_lreturn dX11_place_8 rfl (by decide) (by decide) (by obtain ⟨e1, e2⟩ := h5; exact ⟨e1, plc_p e qd qc qn qf qw e2⟩)
theorem pos_of {c : Int64} (h : ¬ c ≤ 0) (n : Int64) : ¬ uR n c < 0 ∧ uR n c < c := by
  have a1 : ¬ c.toInt ≤ (0 : Int64).toInt := fun z => h (Int64.le_iff_toInt_le.mpr z)
  have a4 : (0 : Int64).toInt = 0 := by decide
  obtain ⟨c1, c2⟩ := uN_pos (x := c) (fun z => by have := Int64.lt_iff_toInt_lt.mp z; omega)
  have b := uN_uR n c
  have b2 := Nat.mod_lt (uN n) (show 0 < uN c by omega)
  have b3 := uN_int (uR n c)
  rw [b, if_pos (by omega)] at b3
  exact ⟨fun z => by have := Int64.lt_iff_toInt_lt.mp z; omega, Int64.lt_iff_toInt_lt.mpr (by omega)⟩
set_option maxHeartbeats 600000 in
set_option maxRecDepth 100000 in
theorem cc_draw (l : Launch) (G : Gt) (Z : Zt) (x nf ns : Nat) (af as : Nat → Nat) (σ : St) (h : CR Z x σ af as nf ns) (n : Int64) (hs : ¬ σ.2 39 0 ≤ 0) : Ct l G YX11_draw (3, 0, 0) Z [.ref x, .long n] (ΦL (fun r Z1 => Z1 = Z ∧ r = atS σ (uR n (σ.2 39 0)))) := by
  refine ct_of [some (.ref x), some (.long n), none, none, none] (by decide +kernel) (Nat.le_of_ble_eq_true rfl) rfl (fun M => ?_)
  have hx := h.1.1.1
  have hr := h.1.1.2.2.2.1
  have ht := h.1.1.2.2.1
  first | refine q_aload_n dX11_draw_0 rfl ?_ | refine q_aload_nN dX11_draw_0 rfl ?_
  refine q_getf dX11_draw_1 fk_X11_43_10 hx.1 hx.2.2.2.2.2.2.1 ?_
  refine q_callV 4 dX11_draw_4 mk_X11_184 rfl hr.1 (cc_many l G Z x nf ns af as σ h) rfl np_X5_many (by decide) (by decide) (by decide) (Nat.le_of_ble_eq_true rfl) (kL (fun r4 Z4 h4 => ?_))
  obtain ⟨rfl, rfl⟩ := h4
  refine q_lstore_n (ls' := [_, _, _, _, _]) dX11_draw_7 rfl rfl (Nat.le_of_ble_eq_true rfl) (by decide) ?_
  refine q_lload_n dX11_draw_8 rfl ?_
  refine q_lconst (v := 0) dX11_draw_9 (by decide) ?_
  refine q_lcmp_gt 24 dX11_draw_10 dX11_draw_11 (by decide) (fun c10 => ?_) (fun c10 => absurd c10 (not_not_intro (Int64.not_le.mp hs)))
  first | refine q_aload_n dX11_draw_24 rfl ?_ | refine q_aload_nN dX11_draw_24 rfl ?_
  refine q_getf dX11_draw_25 fk_X11_43_10 hx.1 hx.2.2.2.2.2.2.1 ?_
  refine q_lload_n dX11_draw_28 rfl ?_
  refine q_lload_n dX11_draw_29 rfl ?_
  refine q_callS dX11_draw_30 mk_X11_204 (c_X11_unsignedRest l G Z4 n (σ.2 39 0)) rfl np_X11_unsignedRest (by decide) (by decide) (by decide) (Nat.le_of_ble_eq_true rfl) (kL (fun r30 Z30 h30 => ?_))
  obtain ⟨rfl, rfl⟩ := h30
  refine q_callV 4 dX11_draw_33 mk_X11_195 rfl hr.1 (cc_nat l G Z30 x nf ns af as σ h _ (pos_of hs n).1 (pos_of hs n).2) rfl np_X5_numberAt (by decide) (by decide) (by decide) (Nat.le_of_ble_eq_true rfl) (kL (fun r33 Z33 h33 => ?_))
  exact q_lreturn dX11_draw_36 rfl (by decide) (by decide) h33
set_option maxHeartbeats 600000 in
set_option maxRecDepth 100000 in
theorem cc_barred (l : Launch) (G : Gt) (Z : Zt) (x nf ns : Nat) (af as : Nat → Nat) (σ : St) (h : CR Z x σ af as nf ns) : Ct l G YX11_barred (0, 0, 0) Z [.ref x] (ΦI (fun r Z1 => Z1 = Z ∧ r = σ.1 32 0)) := by
  refine ct_of [some (.ref x)] (by decide +kernel) (Nat.le_of_ble_eq_true rfl) rfl (fun M => ?_)
  have hx := h.1.1.1
  have hr := h.1.1.2.2.2.1
  have ht := h.1.1.2.2.1
  obtain ⟨b, hb20, hb, h3, hbr⟩ := h.2.2.1
  first | refine q_aload_n dX11_barred_0 rfl ?_ | refine q_aload_nN dX11_barred_0 rfl ?_
  refine q_getf dX11_barred_1 fk_X11_36_10 hx.1 hx.2.2.2.2.2.1 ?_
  refine q_getf dX11_barred_4 fk_X11_207_9 ht.1 h3 ?_
  exact q_ireturn dX11_barred_7 rfl (by decide) (by decide) ⟨rfl, hb.symm⟩
def barR (σ : St) (i w : Int32) : Int32 := if ¬ i < 0 ∧ ¬ σ.1 32 0 ≤ i then (if w = 0 then σ.1 34 i.toNatClampNeg else if w = 1 then σ.1 35 i.toNatClampNeg else -2) else -1
theorem barIn {i : Int32} {b : Nat} (hb : b ≤ 20) : (¬ i < 0 ∧ ¬ nI b ≤ i ∧ ¬ 20 ≤ i) ↔ (¬ i < 0 ∧ ¬ nI b ≤ i) := by
  refine ⟨fun z => ⟨z.1, z.2.1⟩, fun z => ⟨z.1, z.2, fun y => z.2 (Int32.le_trans (nI_le (show b ≤ 20 by omega) (by omega)) y)⟩⟩
theorem barIx {i : Int32} {b : Nat} (hb : b ≤ 20) (h0 : ¬ i < 0) (h1 : ¬ nI b ≤ i) : i.toNatClampNeg < b ∧ vp_in i 20 := by
  have a0 : ¬ i.toInt < (0 : Int32).toInt := fun z => h0 (Int32.lt_iff_toInt_lt.mpr z)
  have a1 : ¬ (nI b).toInt ≤ i.toInt := fun z => h1 (Int32.le_iff_toInt_le.mpr z)
  have a2 : (0 : Int32).toInt = 0 := by decide
  have a3 : (nI b).toInt = b := toInt_of rfl (by omega)
  have a4 : i.toNatClampNeg = i.toInt.toNat := rfl
  have a5 : (nI i.toNatClampNeg).toInt = i.toNatClampNeg := toInt_of rfl (by omega)
  have e : i = nI i.toNatClampNeg := Int32.toInt_inj.mp (by omega)
  refine ⟨by omega, ?_⟩
  rw [e]; exact vp_in_nI (by omega) (by decide)
set_option maxHeartbeats 600000 in
set_option maxRecDepth 100000 in
theorem cc_bar (l : Launch) (G : Gt) (Z : Zt) (x nf ns : Nat) (af as : Nat → Nat) (σ : St) (h : CR Z x σ af as nf ns) (i w : Int32) : Ct l G YX11_bar (1, 0, 0) Z [.ref x, .int i, .int w] (ΦI (fun r Z1 => Z1 = Z ∧ r = barR σ i w)) := by
  refine ct_of [some (.ref x), some (.int i), some (.int w)] (by decide +kernel) (Nat.le_of_ble_eq_true rfl) rfl (fun M => ?_)
  have hx := h.1.1.1
  have hr := h.1.1.2.2.2.1
  have ht := h.1.1.2.2.1
  obtain ⟨b, hb20, hb, h3, hbr⟩ := h.2.2.1
  first | refine q_aload_n dX11_bar_0 rfl ?_ | refine q_aload_nN dX11_bar_0 rfl ?_
  refine q_getf dX11_bar_1 fk_X11_36_10 hx.1 hx.2.2.2.2.2.1 ?_
  refine q_iload_n dX11_bar_4 rfl ?_
  refine q_callV 9 dX11_bar_5 mk_X11_210 rfl ht.1 (c_X10_hasBarred l G Z (x + 5) (nI b) i ht.1 h3) rfl np_X10_hasBarred (by decide) (by decide) (by decide) (Nat.le_of_ble_eq_true rfl) (kI (fun r5 Z5 h5 => ?_))
  obtain ⟨e5, h5⟩ := h5
  rw [e5]
  refine q_if_ne 13 dX11_bar_8 (by decide) (fun c8 => ?_) (fun c8 => ?_)
  · have hp := (barIn hb20).mp (rb_t h5 c8)
    obtain ⟨i1, i2⟩ := barIx hb20 hp.1 hp.2
    obtain ⟨-, r2, r3⟩ := hbr _ i1
    refine q_iload_n dX11_bar_13 rfl ?_
    refine q_lsw [(0, 40), (1, 50)] 60 dX11_bar_14 (by decide) (by decide) (by decide) (fun q hq c14 => ?_) (fun c14 => ?_)
    · rcases List.mem_cons.mp hq with rfl | hq
      · dsimp only at c14 ⊢
        subst c14
        first | refine q_aload_n dX11_bar_40 rfl ?_ | refine q_aload_nN dX11_bar_40 rfl ?_
        refine q_getf dX11_bar_41 fk_X11_36_10 hx.1 hx.2.2.2.2.2.1 ?_
        refine q_getf dX11_bar_44 fk_X11_214_9 ht.1 ht.2.2.1 ?_
        refine q_iload_n dX11_bar_47 rfl ?_
        refine q_iald dX11_bar_48 ht.2.2.2.2.2.2.1 (by rw [ht.2.2.2.2.2.2.2.1]; exact i2) ?_
        exact q_ireturn dX11_bar_49 rfl (by decide) (by decide) ⟨rfl, by unfold barR; rw [hb, if_pos hp, if_pos rfl]; exact r2⟩
      rcases List.mem_cons.mp hq with rfl | hq
      · dsimp only at c14 ⊢
        subst c14
        first | refine q_aload_n dX11_bar_50 rfl ?_ | refine q_aload_nN dX11_bar_50 rfl ?_
        refine q_getf dX11_bar_51 fk_X11_36_10 hx.1 hx.2.2.2.2.2.1 ?_
        refine q_getf dX11_bar_54 fk_X11_217_9 ht.1 ht.2.2.2.1 ?_
        refine q_iload_n dX11_bar_57 rfl ?_
        refine q_iald dX11_bar_58 ht.2.2.2.2.2.2.2.2.1 (by rw [ht.2.2.2.2.2.2.2.2.2]; exact i2) ?_
        exact q_ireturn dX11_bar_59 rfl (by decide) (by decide) ⟨rfl, by unfold barR; rw [hb, if_pos hp, if_neg (by decide), if_pos rfl]; exact r3⟩
      exact absurd hq List.not_mem_nil
    · have n0 : ¬ w = 0 := c14 (0, 40) (by simp)
      have n1 : ¬ w = 1 := c14 (1, 50) (by simp)
      refine q_bipush (v := (-2)) dX11_bar_60 (by decide) ?_
      exact q_ireturn dX11_bar_62 rfl (by decide) (by decide) ⟨rfl, by unfold barR; rw [hb, if_pos hp, if_neg n0, if_neg n1]⟩
  · have hp : ¬ (¬ i < 0 ∧ ¬ nI b ≤ i) := fun z => rb_f h5 c8 ((barIn hb20).mpr z)
    refine q_iconst (v := (-1)) dX11_bar_11 (by decide) ?_
    exact q_ireturn dX11_bar_12 rfl (by decide) (by decide) ⟨rfl, by unfold barR; rw [hb, if_neg hp]⟩
set_option maxHeartbeats 600000 in
set_option maxRecDepth 100000 in
theorem cc_barredAt (l : Launch) (G : Gt) (Z : Zt) (x nf ns : Nat) (af as : Nat → Nat) (σ : St) (h : CR Z x σ af as nf ns) (i : Int32) (h0 : ¬ i < 0) (h1 : ¬ σ.1 32 0 ≤ i) : Ct l G YX11_barredAt (1, 0, 0) Z [.ref x, .int i] (ΦL (fun r Z1 => Z1 = Z ∧ r = σ.2 33 i.toNatClampNeg)) := by
  refine ct_of [some (.ref x), some (.int i)] (by decide +kernel) (Nat.le_of_ble_eq_true rfl) rfl (fun M => ?_)
  have hx := h.1.1.1
  have hr := h.1.1.2.2.2.1
  have ht := h.1.1.2.2.1
  obtain ⟨b, hb20, hb, h3, hbr⟩ := h.2.2.1
  first | refine q_aload_n dX11_barredAt_0 rfl ?_ | refine q_aload_nN dX11_barredAt_0 rfl ?_
  refine q_getf dX11_barredAt_1 fk_X11_36_10 hx.1 hx.2.2.2.2.2.1 ?_
  refine q_iload_n dX11_barredAt_4 rfl ?_
  refine q_callV 9 dX11_barredAt_5 mk_X11_210 rfl ht.1 (c_X10_hasBarred l G Z (x + 5) (nI b) i ht.1 h3) rfl np_X10_hasBarred (by decide) (by decide) (by decide) (Nat.le_of_ble_eq_true rfl) (kI (fun r5 Z5 h5 => ?_))
  obtain ⟨e5, h5⟩ := h5
  rw [e5]
  rw [hb] at h1
  obtain ⟨i1, i2⟩ := barIx hb20 h0 h1
  obtain ⟨r1, -, -⟩ := hbr _ i1
  refine q_if_ne 21 dX11_barredAt_8 (by decide) (fun c8 => ?_) (fun c8 => absurd c8 (by rw [h5.1 ((barIn hb20).mpr ⟨h0, h1⟩)]; decide))
  first | refine q_aload_n dX11_barredAt_21 rfl ?_ | refine q_aload_nN dX11_barredAt_21 rfl ?_
  refine q_getf dX11_barredAt_22 fk_X11_36_10 hx.1 hx.2.2.2.2.2.1 ?_
  refine q_getf dX11_barredAt_25 fk_X11_222_9 ht.1 ht.2.1 ?_
  refine q_iload_n dX11_barredAt_28 rfl ?_
  refine q_lald dX11_barredAt_29 ht.2.2.2.2.1 (by rw [ht.2.2.2.2.2.1]; exact i2) ?_
  exact q_lreturn dX11_barredAt_30 rfl (by decide) (by decide) ⟨rfl, r1⟩
set_option maxHeartbeats 600000 in
set_option maxRecDepth 100000 in
theorem cc_distance (l : Launch) (G : Gt) (Z : Zt) (x : Nat) (p q : Int64) : Ct l G YX11_distance (1, 0, 0) Z [.ref x, .long p, .long q] (ΦL (fun r Z1 => Z1 = Z ∧ r = gpf p q)) := by
  refine ct_of [some (.ref x), some (.long p), none, some (.long q), none] (by decide +kernel) (Nat.le_of_ble_eq_true rfl) rfl (fun M => ?_)
  refine q_lload_n dX11_distance_0 rfl ?_
  refine q_lload_n dX11_distance_1 rfl ?_
  refine q_callS dX11_distance_2 mk_X11_225 (c_X11_gap l G Z p q) rfl np_X11_gap (by decide) (by decide) (by decide) (Nat.le_of_ble_eq_true rfl) (kL (fun r2 Z2 h2 => ?_))
  exact q_lreturn dX11_distance_5 rfl (by decide) (by decide) h2
def toldR (σ : St) (w : Int32) : Int32 := if w = 0 then σ.1 6 0 else if w = 1 then σ.1 16 0 else if w = 2 then σ.1 15 0 else if w = 3 then σ.1 36 0 else -2
set_option maxHeartbeats 600000 in
set_option maxRecDepth 100000 in
theorem cc_told (l : Launch) (G : Gt) (Z : Zt) (x nf ns : Nat) (af as : Nat → Nat) (σ : St) (h : CR Z x σ af as nf ns) (w : Int32) : Ct l G YX11_told (0, 0, 0) Z [.ref x, .int w] (ΦI (fun r Z1 => Z1 = Z ∧ r = toldR σ w)) := by
  refine ct_of [some (.ref x), some (.int w)] (by decide +kernel) (Nat.le_of_ble_eq_true rfl) rfl (fun M => ?_)
  have hx := h.1.1.1
  have hr := h.1.1.2.2.2.1
  have ht := h.1.1.2.2.1
  have hT := h.2.2.2.2.1
  rcases h.2.2.2.1 with ⟨e, h0, -⟩ | ⟨e, q, h0, -⟩
  · refine q_iload_n dX11_told_0 rfl ?_
    refine q_tsw [(0, 32), (1, 37), (2, 42), (3, 50)] 66 dX11_told_1 (by decide) (by decide) (by decide) (by decide) (fun q hq c1 => ?_) (fun c1 => ?_)
    · rcases List.mem_cons.mp hq with rfl | hq
      · dsimp only at c1 ⊢
        subst c1
        first | refine q_aload_n dX11_told_32 rfl ?_ | refine q_aload_nN dX11_told_32 rfl ?_
        refine q_getf dX11_told_33 fk_X11_97_10 hx.1 hT.1 ?_
        exact q_ireturn dX11_told_36 rfl (by decide) (by decide) ⟨rfl, by unfold toldR; rw [if_pos rfl]; exact h.1.2.2.2.2.1.symm⟩
      rcases List.mem_cons.mp hq with rfl | hq
      · dsimp only at c1 ⊢
        subst c1
        first | refine q_aload_n dX11_told_37 rfl ?_ | refine q_aload_nN dX11_told_37 rfl ?_
        refine q_getf dX11_told_38 fk_X11_228_10 hx.1 hT.2.1 ?_
        exact q_ireturn dX11_told_41 rfl (by decide) (by decide) ⟨rfl, by unfold toldR; rw [if_neg (by decide), if_pos rfl]; exact hT.2.2.1.symm⟩
      rcases List.mem_cons.mp hq with rfl | hq
      · dsimp only at c1 ⊢
        subst c1
        first | refine q_aload_n dX11_told_42 rfl ?_ | refine q_aload_nN dX11_told_42 rfl ?_
        refine q_getf dX11_told_43 fk_X11_36_10 hx.1 hx.2.2.2.2.2.1 ?_
        refine q_getf dX11_told_46 fk_X11_231_9 ht.1 h.1.2.2.2.1.1 ?_
        exact q_ireturn dX11_told_49 rfl (by decide) (by decide) ⟨rfl, by unfold toldR; rw [if_neg (by decide), if_neg (by decide), if_pos rfl]⟩
      rcases List.mem_cons.mp hq with rfl | hq
      · dsimp only at c1 ⊢
        subst c1
        first | refine q_aload_n dX11_told_50 rfl ?_ | refine q_aload_nN dX11_told_50 rfl ?_
        refine q_getf dX11_told_51 fk_X11_43_10 hx.1 hx.2.2.2.2.2.2.1 ?_
        refine q_getf dX11_told_54 fk_X11_234_4 hr.1 h0 ?_
        refine q_ifnonnullN dX11_told_57 ?_
        refine q_iconst (v := 0) dX11_told_60 (by decide) ?_
        refine q_goto 65 dX11_told_61 (by decide) ?_
        exact q_ireturn dX11_told_65 rfl (by decide) (by decide) ⟨rfl, by unfold toldR; rw [if_neg (by decide), if_neg (by decide), if_neg (by decide), if_pos rfl]; exact e.symm⟩
      exact absurd hq List.not_mem_nil
    · have n0 : ¬ w = 0 := c1 (0, 32) (by simp)
      have n1 : ¬ w = 1 := c1 (1, 37) (by simp)
      have n2 : ¬ w = 2 := c1 (2, 42) (by simp)
      have n3 : ¬ w = 3 := c1 (3, 50) (by simp)
      refine q_bipush (v := (-2)) dX11_told_66 (by decide) ?_
      exact q_ireturn dX11_told_68 rfl (by decide) (by decide) ⟨rfl, by unfold toldR; rw [if_neg n0, if_neg n1, if_neg n2, if_neg n3]⟩
  · refine q_iload_n dX11_told_0 rfl ?_
    refine q_tsw [(0, 32), (1, 37), (2, 42), (3, 50)] 66 dX11_told_1 (by decide) (by decide) (by decide) (by decide) (fun q hq c1 => ?_) (fun c1 => ?_)
    · rcases List.mem_cons.mp hq with rfl | hq
      · dsimp only at c1 ⊢
        subst c1
        first | refine q_aload_n dX11_told_32 rfl ?_ | refine q_aload_nN dX11_told_32 rfl ?_
        refine q_getf dX11_told_33 fk_X11_97_10 hx.1 hT.1 ?_
        exact q_ireturn dX11_told_36 rfl (by decide) (by decide) ⟨rfl, by unfold toldR; rw [if_pos rfl]; exact h.1.2.2.2.2.1.symm⟩
      rcases List.mem_cons.mp hq with rfl | hq
      · dsimp only at c1 ⊢
        subst c1
        first | refine q_aload_n dX11_told_37 rfl ?_ | refine q_aload_nN dX11_told_37 rfl ?_
        refine q_getf dX11_told_38 fk_X11_228_10 hx.1 hT.2.1 ?_
        exact q_ireturn dX11_told_41 rfl (by decide) (by decide) ⟨rfl, by unfold toldR; rw [if_neg (by decide), if_pos rfl]; exact hT.2.2.1.symm⟩
      rcases List.mem_cons.mp hq with rfl | hq
      · dsimp only at c1 ⊢
        subst c1
        first | refine q_aload_n dX11_told_42 rfl ?_ | refine q_aload_nN dX11_told_42 rfl ?_
        refine q_getf dX11_told_43 fk_X11_36_10 hx.1 hx.2.2.2.2.2.1 ?_
        refine q_getf dX11_told_46 fk_X11_231_9 ht.1 h.1.2.2.2.1.1 ?_
        exact q_ireturn dX11_told_49 rfl (by decide) (by decide) ⟨rfl, by unfold toldR; rw [if_neg (by decide), if_neg (by decide), if_pos rfl]⟩
      rcases List.mem_cons.mp hq with rfl | hq
      · dsimp only at c1 ⊢
        subst c1
        first | refine q_aload_n dX11_told_50 rfl ?_ | refine q_aload_nN dX11_told_50 rfl ?_
        refine q_getf dX11_told_51 fk_X11_43_10 hx.1 hx.2.2.2.2.2.2.1 ?_
        refine q_getf dX11_told_54 fk_X11_234_4 hr.1 h0 ?_
        refine q_ifnonnull 64 dX11_told_57 (by decide) ?_
        refine q_iconst (v := 1) dX11_told_64 (by decide) ?_
        exact q_ireturn dX11_told_65 rfl (by decide) (by decide) ⟨rfl, by unfold toldR; rw [if_neg (by decide), if_neg (by decide), if_neg (by decide), if_pos rfl]; exact e.symm⟩
      exact absurd hq List.not_mem_nil
    · have n0 : ¬ w = 0 := c1 (0, 32) (by simp)
      have n1 : ¬ w = 1 := c1 (1, 37) (by simp)
      have n2 : ¬ w = 2 := c1 (2, 42) (by simp)
      have n3 : ¬ w = 3 := c1 (3, 50) (by simp)
      refine q_bipush (v := (-2)) dX11_told_66 (by decide) ?_
      exact q_ireturn dX11_told_68 rfl (by decide) (by decide) ⟨rfl, by unfold toldR; rw [if_neg n0, if_neg n1, if_neg n2, if_neg n3]⟩
