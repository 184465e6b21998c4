theorem lN_uN (x : Int64) : lN (uN x) = x := uN_inj (uN_ofNat (uN_lt x))
theorem mp_g {F S C st : Int64} {d : Int32} (hd : d = 0 ∨ d = 1) (hS : S = if d = 0 then st else -st) (hw : wfSt F st d C) {i : Nat} (hi : i < uN C) : (F + lN i * S).toInt = if d = 0 then F.toInt + (i * uN st : Nat) else F.toInt - (i * uN st : Nat) := by
  rw [← stAt_F hd rfl hS]; exact stAt_int hd hw hi
theorem mp_l {C : Int64} (h2 : 2 ≤ uN C) : C - 1 = lN (uN C - 1) := uN_inj (by
  have := uN_lt C
  rw [uN_sub, uN_ofNat (by omega), show uN 1 = 1 from by decide]; omega)
theorem mp_in {F S C st v q : Int64} {d : Int32} (hd : d = 0 ∨ d = 1) (hS : S = if d = 0 then st else -st) (hw : wfSt F st d C) (h2 : 2 ≤ uN C) (hq : uN q = uN (gpf v F) / uN st) (hin : (d = 0 → F ≤ v ∧ v ≤ F + (C - 1) * S) ∧ (d = 1 → F + (C - 1) * S ≤ v ∧ v ≤ F)) : (F + q * S = v → fstP (fun i => F + lN i * S) (uN C) v q) ∧ (¬ F + q * S = v → fstP (fun i => F + lN i * S) (uN C) v (-1)) := by
  have hst : 0 < uN st := (hw h2).1
  have hlast := mp_g hd hS hw (i := uN C - 1) (by omega)
  rw [← mp_l h2] at hlast
  have hg := gpf_abs v F
  have hle : uN (gpf v F) ≤ uN st * (uN C - 1) := by
    rw [Nat.mul_comm]
    rcases hd with rfl | rfl
    · obtain ⟨a, b⟩ := hin.1 rfl
      rw [if_pos rfl] at hlast
      have := hg.1 a
      have := Int64.le_iff_toInt_le.mp b
      generalize (uN C - 1) * uN st = t at *
      omega
    · obtain ⟨a, b⟩ := hin.2 rfl
      rw [if_neg (by decide)] at hlast
      have := hg.2 b
      have := Int64.le_iff_toInt_le.mp a
      generalize (uN C - 1) * uN st = t at *
      omega
  have hqc : uN q < uN C := by
    have := Nat.div_le_of_le_mul hle
    omega
  have key : ∀ j, j < uN C → F + lN j * S = v → uN (gpf v F) = j * uN st := by
    intro j hj z
    have h1 := mp_g hd hS hw hj
    rw [z] at h1
    rcases hd with rfl | rfl
    · rw [if_pos rfl] at h1
      have := hg.1 (hin.1 rfl).1
      generalize j * uN st = t at *
      omega
    · rw [if_neg (by decide)] at h1
      have := hg.2 (hin.2 rfl).2
      generalize j * uN st = t at *
      omega
  refine ⟨fun e => Or.inl ⟨uN q, hqc, ?_, fun j hj z => ?_, (lN_uN q).symm⟩, fun e => Or.inr ⟨fun j hj z => e ?_, rfl⟩⟩
  · show F + lN (uN q) * S = v
    rw [lN_uN]; exact e
  · have k1 := key j (by omega) z
    rw [hq, k1, Nat.mul_div_cancel _ hst] at hj
    exact Nat.lt_irrefl _ hj
  · have k1 := key j hj z
    have k2 : q = lN j := by rw [← lN_uN q, hq, k1, Nat.mul_div_cancel _ hst]
    rw [k2]; exact z
theorem mp_out {F S C st v : Int64} {d : Int32} (hd : d = 0 ∨ d = 1) (hS : S = if d = 0 then st else -st) (hw : wfSt F st d C) (h2 : 2 ≤ uN C) (hout : (d = 0 → v < F ∨ F + (C - 1) * S < v) ∧ (d = 1 → v < F + (C - 1) * S ∨ F < v)) : fstP (fun i => F + lN i * S) (uN C) v (-1) := by
  have hlast := mp_g hd hS hw (i := uN C - 1) (by omega)
  rw [← mp_l h2] at hlast
  refine Or.inr ⟨fun j hj z => ?_, rfl⟩
  have h1 := mp_g hd hS hw hj
  have hm : j * uN st ≤ (uN C - 1) * uN st := Nat.mul_le_mul_right _ (by omega)
  dsimp only at z
  rw [z] at h1
  generalize j * uN st = t at *
  generalize (uN C - 1) * uN st = t' at *
  rcases hd with rfl | rfl
  · rw [if_pos rfl] at h1 hlast
    rcases hout.1 rfl with a | a
    · have := Int64.lt_iff_toInt_lt.mp a; omega
    · have := Int64.lt_iff_toInt_lt.mp a; omega
  · rw [if_neg (by decide)] at h1 hlast
    rcases hout.2 rfl with a | a
    · have := Int64.lt_iff_toInt_lt.mp a; omega
    · have := Int64.lt_iff_toInt_lt.mp a; omega
theorem mp_up {F S C st : Int64} {d : Int32} (hd : d = 0 ∨ d = 1) (hS : S = if d = 0 then st else -st) (hw : wfSt F st d C) (h2 : 2 ≤ uN C) : (d = 0 → ¬ F + (C - 1) * S ≤ F) ∧ (d = 1 → F + (C - 1) * S ≤ F) := by
  have hlast := mp_g hd hS hw (i := uN C - 1) (by omega)
  rw [← mp_l h2] at hlast
  have hp : 0 < (uN C - 1) * uN st := Nat.mul_pos (by omega) (hw h2).1
  generalize (uN C - 1) * uN st = t' at *
  refine ⟨fun e z => ?_, fun e => Int64.le_iff_toInt_le.mpr ?_⟩
  · rw [if_pos e] at hlast
    have := Int64.le_iff_toInt_le.mp z
    omega
  · rw [if_neg (by rw [e]; decide)] at hlast
    omega
theorem mq_0 {w b : Int64} (hb : b ≤ 0) (h1 : 1 ≤ uN b) : (¬ (w ^^^ (-9223372036854775808)) < (b ^^^ (-9223372036854775808)) → uN (1 : Int64) = uN w / uN b) ∧ ((w ^^^ (-9223372036854775808)) < (b ^^^ (-9223372036854775808)) → uN (0 : Int64) = uN w / uN b) := by
  have hw := uN_lt w
  have h2 : 9223372036854775808 ≤ uN b := (uN_neg_iff b).mp (Int64.lt_of_le_of_ne hb (fun z => by rw [z] at h1; exact absurd h1 (by decide)))
  rw [xr_lt, show uN (1 : Int64) = 1 from by decide, show uN (0 : Int64) = 0 from by decide]
  refine ⟨fun z => ?_, fun z => (Nat.div_eq_of_lt z).symm⟩
  rw [Nat.div_eq_sub_div (by omega) (by omega), Nat.div_eq_of_lt (by omega)]
theorem plc_1 {σ : St} {v r : Int64} (h36 : σ.1 36 0 = 1) (h : fstP (fun i => σ.2 37 0 + lN i * σ.2 38 0) (uN (σ.2 39 0)) v r) : plcP σ v r := by
  unfold plcP; rw [if_pos h36]; exact h
theorem plc_0 {σ : St} {v r : Int64} {n : Nat} (h36 : σ.1 36 0 = 0) (h39 : σ.2 39 0 = lN n) (hn : n ≤ 200) (h : fstP (σ.2 40) n v r) : plcP σ v r := by
  unfold plcP; rw [if_neg (by rw [h36]; decide), h39, uN_ofNat (by omega)]; exact h
theorem one_0 {F S : Int64} : F + lN 0 * S = F := by
  rw [show lN 0 = 0 from rfl, Int64.zero_mul, Int64.add_zero]
theorem c_12 {c : Int64} (h0 : ¬ c < 0) (h1 : ¬ c = 0) (h2 : ¬ c = 1) : 2 ≤ uN c ∧ ¬ c < 1 := by
  have a := (uN_pos h0).1
  have b : ¬ c.toInt = 0 := fun z => h1 (Int64.toInt_inj.mp z)
  have d : ¬ c.toInt = 1 := fun z => h2 (Int64.toInt_inj.mp z)
  refine ⟨by omega, fun z => ?_⟩
  have := Int64.lt_iff_toInt_lt.mp z
  have e : (1 : Int64).toInt = 1 := by decide
  omega
theorem by_pos {b : Int64} (h : ¬ b ≤ 0) : ¬ b < 0 ∧ ¬ b = 0 := ⟨fun z => h (Int64.le_of_lt z), fun z => h (by rw [z]; exact Int64.le_refl _)⟩
/-- the range, whatever the heap -/
def PL (σ : St) : Prop := (σ.1 36 0 = 0 ∧ ∃ n, n ≤ 200 ∧ σ.2 39 0 = lN n) ∨ (σ.1 36 0 = 1 ∧ ∃ (f st : Int64) (d : Int32), (d = 0 ∨ d = 1) ∧ ¬ σ.2 39 0 < 0 ∧ (¬ σ.2 39 0 < 1 → f = σ.2 37 0 ∧ σ.2 38 0 = (if d = 0 then st else -st)) ∧ wfSt f st d (σ.2 39 0))
theorem CR.pl {Z : Zt} {x nf ns : Nat} {σ : St} {af as : Nat → Nat} (h : CR Z x σ af as nf ns) : PL σ := by
  rcases h.2.2.2.1 with ⟨a, -, n, b, c, -⟩ | ⟨a, q, -, -, -, f, st, c, d, -, -, -, -, e1, e2, e3, e4, e5⟩
  · exact Or.inl ⟨a, n, b, c⟩
  · subst e2
    exact Or.inr ⟨a, f, st, d, e1, e3, e4, e5⟩
theorem PL.a {σ : St} (h : PL σ) : (σ.1 36 0 = 0 ∧ ∃ n, n ≤ 200 ∧ σ.2 39 0 = lN n) ∨ σ.1 36 0 = 1 := h.elim Or.inl (fun z => Or.inr z.1)
theorem PL.b {σ : St} (h : PL σ) : ¬ σ.2 39 0 < 0 := by
  rcases h with ⟨-, n, hn, h⟩ | ⟨-, f, st, d, -, h, -⟩
  · rw [h, uN_neg_iff, uN_ofNat (by omega)]; omega
  · exact h
set_option maxHeartbeats 600000 in
set_option maxRecDepth 100000 in
theorem mpl_loop (l : Launch) (G : Gt) (M : Mt) (Z0 Z : Zt) (y : Nat) (σ e : St) (hM : MR Z y σ (pI e 0 0 0)) (hF : MF y Z0 Z) (v : Int64) (n : Nat) (hn : n ≤ 200) (h36 : σ.1 36 0 = 0) (h39 : σ.2 39 0 = lN n) : ∀ (m k : Nat), k + m = n → (∀ j, j < k → σ.2 40 j ≠ v) → Jd l G YX12_place (1, 0, 0) M Z 0 0 (Qm G (1, 0, 0) M (ΦL (fun r Z1 => plcP σ v r ∧ MF y Z0 Z1 ∧ MR Z1 y σ (pI e 0 0 0)))) 14 [some (.ref y), some (.long v), none, some (.int (nI k)), none, none, none, none, none, none, none, none] [] := by
  intro m
  induction m with
  | zero =>
    intro k hk hk2
    obtain rfl : n = k := by omega
    refine q_iload_n dX12_place_14 rfl ?_
    first | refine q_aload_n dX12_place_15 rfl ?_ | refine q_aload_nN dX12_place_15 rfl ?_
    refine q_getf dX12_place_16 fk_X12_209_11 hM.K (hM.j 39 (by decide) rfl rfl) ?_
    rw [h39]
    refine q_l2i dX12_place_19 ?_
    rw [lN_i]
    refine q_icmp_ge 43 dX12_place_20 (by decide) (fun c20 => ?_) (fun c20 => absurd c20 (not_not_intro (Int32.le_refl _)))
    refine q_ldc2 dX12_place_43 kl_X12_123 ?_
    exact q_lreturn dX12_place_46 rfl (by decide) (by decide) ⟨plc_0 h36 h39 hn (Or.inr ⟨hk2, rfl⟩), hF, hM⟩
  | succ m ih =>
    intro k hk hk2
    refine q_iload_n dX12_place_14 rfl ?_
    first | refine q_aload_n dX12_place_15 rfl ?_ | refine q_aload_nN dX12_place_15 rfl ?_
    refine q_getf dX12_place_16 fk_X12_209_11 hM.K (hM.j 39 (by decide) rfl rfl) ?_
    rw [h39]
    refine q_l2i dX12_place_19 ?_
    rw [lN_i]
    refine q_icmp_ge 43 dX12_place_20 (by decide) (fun c20 => absurd c20 (nI_ge (by omega) (by omega))) (fun c20 => ?_)
    first | refine q_aload_n dX12_place_23 rfl ?_ | refine q_aload_nN dX12_place_23 rfl ?_
    refine q_getf dX12_place_24 fk_X12_96_11 hM.K (hM.a 40 (by decide) (by decide)) ?_
    refine q_iload_n dX12_place_27 rfl ?_
    refine m_lald 40 (k) hM dX12_place_28 (by decide) rfl rfl rfl (show k < 200 by omega) ?_
    refine q_lload_n dX12_place_29 rfl ?_
    refine q_lcmp_ne 37 dX12_place_30 dX12_place_31 (by decide) (fun c30 => ?_) (fun c30 => ?_)
    · refine q_iinc 1 (ls' := [_, _, _, _, _, _, _, _, _, _, _, _]) dX12_place_37 rfl (by decide) rfl rfl (Nat.le_of_ble_eq_true rfl) (by decide) ?_
      refine q_goto 14 dX12_place_40 (by decide) ?_
      rw [nI_1]
      exact ih (k + 1) (by omega) (fun j hj => (Nat.lt_succ_iff_lt_or_eq.mp hj).elim (hk2 j) (fun z => by rw [z]; exact c30))
    · refine q_iload_n dX12_place_34 rfl ?_
      refine q_i2l dX12_place_35 ?_
      rw [nI_l (by omega)]
      exact q_lreturn dX12_place_36 rfl (by decide) (by decide) ⟨plc_0 h36 h39 hn (Or.inl ⟨k, by omega, c30, hk2, rfl⟩), hF, hM⟩
theorem fst_n1 {F S v : Int64} (h : ¬ F = v) : fstP (fun i => F + lN i * S) (uN (1 : Int64)) v (-1) := by
  refine Or.inr ⟨fun j hj z => h ?_, rfl⟩
  have e1 : uN (1 : Int64) = 1 := by decide
  have e : j = 0 := by omega
  subst e
  exact one_0.symm.trans z
set_option maxHeartbeats 600000 in
set_option maxRecDepth 100000 in
theorem mc_place (l : Launch) (G : Gt) (Z0 : Zt) (y : Nat) (σ e : St) (hM : MR Z0 y σ e) (hr : PL σ) (v : Int64) : Ct l G YX12_place (1, 0, 0) Z0 [.ref y, .long v] (ΦL (fun r Z1 => plcP σ v r ∧ MF y Z0 Z1 ∧ MR Z1 y σ (pI e 0 0 0))) := by
  refine ct_of [some (.ref y), some (.long v), none, none, none, none, none, none, none, none, none, none] (by decide +kernel) (Nat.le_of_ble_eq_true rfl) rfl (fun M => ?_)
  have hF := MF.rf y Z0
  rcases hr with ⟨h36, n, hn, h39⟩ | ⟨h36, f, st, d, hd, h0, hfs, hw⟩
  · skip
    first | refine q_aload_n dX12_place_0 rfl ?_ | refine q_aload_nN dX12_place_0 rfl ?_
    refine q_iconst (v := 0) dX12_place_1 (by decide) ?_
    refine m_putx 0 hM dX12_place_2 fk_X12_99_11 rfl (by decide) rfl rfl rfl rfl (fun Z hM hF1 => ?_)
    replace hF := hF.tr hF1
    first | refine q_aload_n dX12_place_5 rfl ?_ | refine q_aload_nN dX12_place_5 rfl ?_
    refine q_getf dX12_place_6 fk_X12_199_11 hM.K (hM.i 36 (by decide) rfl rfl) ?_
    refine q_if_ne 47 dX12_place_9 (by decide) (fun c9 => absurd c9 (not_not_intro h36)) (fun c9 => ?_)
    refine q_iconst (v := 0) dX12_place_12 (by decide) ?_
    refine q_istore_n (ls' := [_, _, _, _, _, _, _, _, _, _, _, _]) dX12_place_13 rfl rfl (Nat.le_of_ble_eq_true rfl) (by decide) ?_
    exact mpl_loop l G M Z0 Z y σ e hM hF v n hn h36 h39 n 0 (by omega) (fun j hj => by omega)
  · skip
    first | refine q_aload_n dX12_place_0 rfl ?_ | refine q_aload_nN dX12_place_0 rfl ?_
    refine q_iconst (v := 0) dX12_place_1 (by decide) ?_
    refine m_putx 0 hM dX12_place_2 fk_X12_99_11 rfl (by decide) rfl rfl rfl rfl (fun Z hM hF1 => ?_)
    replace hF := hF.tr hF1
    first | refine q_aload_n dX12_place_5 rfl ?_ | refine q_aload_nN dX12_place_5 rfl ?_
    refine q_getf dX12_place_6 fk_X12_199_11 hM.K (hM.i 36 (by decide) rfl rfl) ?_
    refine q_if_ne 47 dX12_place_9 (by decide) (fun c9 => ?_) (fun c9 => absurd c9 (by rw [h36]; decide))
    first | refine q_aload_n dX12_place_47 rfl ?_ | refine q_aload_nN dX12_place_47 rfl ?_
    refine q_getf dX12_place_48 fk_X12_209_11 hM.K (hM.j 39 (by decide) rfl rfl) ?_
    refine q_lconst (v := 0) dX12_place_51 (by decide) ?_
    refine q_lcmp_ne 60 dX12_place_52 dX12_place_53 (by decide) (fun c52 => ?_) (fun c52 => ?_)
    · first | refine q_aload_n dX12_place_60 rfl ?_ | refine q_aload_nN dX12_place_60 rfl ?_
      refine q_getf dX12_place_61 fk_X12_209_11 hM.K (hM.j 39 (by decide) rfl rfl) ?_
      refine q_lconst (v := 1) dX12_place_64 (by decide) ?_
      refine q_lcmp_ne 86 dX12_place_65 dX12_place_66 (by decide) (fun c65 => ?_) (fun c65 => ?_)
      · obtain ⟨h2, h1c⟩ := c_12 h0 c52 c65
        obtain ⟨rfl, hS⟩ := hfs h1c
        have hst := (hw h2).1
        rcases id hd with rfl | rfl
        · have hby : σ.2 38 0 = st := by rw [hS, if_pos rfl]
          first | refine q_aload_n dX12_place_86 rfl ?_ | refine q_aload_nN dX12_place_86 rfl ?_
          refine q_getf dX12_place_87 fk_X12_202_11 hM.K (hM.j 37 (by decide) rfl rfl) ?_
          first | refine q_aload_n dX12_place_90 rfl ?_ | refine q_aload_nN dX12_place_90 rfl ?_
          refine q_getf dX12_place_91 fk_X12_209_11 hM.K (hM.j 39 (by decide) rfl rfl) ?_
          refine q_lconst (v := 1) dX12_place_94 (by decide) ?_
          refine q_lsub dX12_place_95 ?_
          first | refine q_aload_n dX12_place_96 rfl ?_ | refine q_aload_nN dX12_place_96 rfl ?_
          refine q_getf dX12_place_97 fk_X12_206_11 hM.K (hM.j 38 (by decide) rfl rfl) ?_
          refine q_lmul dX12_place_100 ?_
          refine q_ladd dX12_place_101 ?_
          refine q_lstore_n (ls' := [_, _, _, _, _, _, _, _, _, _, _, _]) dX12_place_102 rfl rfl (Nat.le_of_ble_eq_true rfl) (by decide) ?_
          refine q_lload_n dX12_place_103 rfl ?_
          first | refine q_aload_n dX12_place_104 rfl ?_ | refine q_aload_nN dX12_place_104 rfl ?_
          refine q_getf dX12_place_105 fk_X12_202_11 hM.K (hM.j 37 (by decide) rfl rfl) ?_
          refine q_lcmp_le 116 dX12_place_108 dX12_place_109 (by decide) (fun c108 => absurd c108 ((mp_up hd hS hw h2).1 rfl)) (fun c108 => ?_)
          refine q_iconst (v := 1) dX12_place_112 (by decide) ?_
          refine q_goto 117 dX12_place_113 (by decide) ?_
          refine q_istore (ls' := [_, _, _, _, _, _, _, _, _, _, _, _]) dX12_place_117 rfl rfl (Nat.le_of_ble_eq_true rfl) (by decide) ?_
          refine q_lload_n dX12_place_119 rfl ?_
          refine q_iload dX12_place_120 rfl ?_
          refine q_if_eq 132 dX12_place_122 (by decide) (fun c122 => absurd c122 (by decide)) (fun c122 => ?_)
          first | refine q_aload_n dX12_place_125 rfl ?_ | refine q_aload_nN dX12_place_125 rfl ?_
          refine q_getf dX12_place_126 fk_X12_202_11 hM.K (hM.j 37 (by decide) rfl rfl) ?_
          refine q_goto 133 dX12_place_129 (by decide) ?_
          refine q_lcmp_lt 155 dX12_place_133 dX12_place_134 (by decide) (fun c133 => ?_) (fun c133 => ?_)
          · refine q_ldc2 dX12_place_155 kl_X12_123 ?_
            exact q_lreturn dX12_place_158 rfl (by decide) (by decide) ⟨plc_1 h36 (mp_out hd hS hw h2 ⟨fun _ => Or.inl c133, fun z => absurd z (by decide)⟩), hF, hM⟩
          · refine q_lload_n dX12_place_137 rfl ?_
            refine q_iload dX12_place_138 rfl ?_
            refine q_if_eq 147 dX12_place_140 (by decide) (fun c140 => absurd c140 (by decide)) (fun c140 => ?_)
            refine q_lload_n dX12_place_143 rfl ?_
            refine q_goto 151 dX12_place_144 (by decide) ?_
            refine q_lcmp_le 159 dX12_place_151 dX12_place_152 (by decide) (fun c151 => ?_) (fun c151 => ?_)
            · refine q_iload dX12_place_159 rfl ?_
              refine q_if_eq 171 dX12_place_161 (by decide) (fun c161 => absurd c161 (by decide)) (fun c161 => ?_)
              first | refine q_aload_n dX12_place_164 rfl ?_ | refine q_aload_nN dX12_place_164 rfl ?_
              refine q_getf dX12_place_165 fk_X12_206_11 hM.K (hM.j 38 (by decide) rfl rfl) ?_
              refine q_goto 176 dX12_place_168 (by decide) ?_
              rw [hby]
              refine q_lstore (ls' := [_, _, _, _, _, _, _, _, _, _, _, _]) dX12_place_176 rfl rfl (Nat.le_of_ble_eq_true rfl) (by decide) ?_
              refine q_lload_n dX12_place_178 rfl ?_
              first | refine q_aload_n dX12_place_179 rfl ?_ | refine q_aload_nN dX12_place_179 rfl ?_
              refine q_getf dX12_place_180 fk_X12_202_11 hM.K (hM.j 37 (by decide) rfl rfl) ?_
              refine q_callS dX12_place_183 mk_X12_190 (mc_far l G Z v (σ.2 37 0)) rfl np_X12_far (by decide) (by decide) (by decide) (Nat.le_of_ble_eq_true rfl) (kL (fun rf Zf hf => ?_))
              obtain ⟨ef, hf⟩ := hf
              rw [ef, hf]
              refine q_lstore (ls' := [_, _, _, _, _, _, _, _, _, _, _, _]) dX12_place_186 rfl rfl (Nat.le_of_ble_eq_true rfl) (by decide) ?_
              refine q_lload dX12_place_188 rfl ?_
              refine q_lconst (v := 0) dX12_place_190 (by decide) ?_
              refine q_lcmp_le 205 dX12_place_191 dX12_place_192 (by decide) (fun c191 => ?_) (fun c191 => ?_)
              · refine q_lload dX12_place_205 rfl ?_
                refine q_ldc2 dX12_place_207 kl_X12_193 ?_
                refine q_lxor dX12_place_210 ?_
                refine q_lload dX12_place_211 rfl ?_
                refine q_ldc2 dX12_place_213 kl_X12_193 ?_
                refine q_lxor dX12_place_216 ?_
                refine q_lcmp_lt 225 dX12_place_217 dX12_place_218 (by decide) (fun c217 => ?_) (fun c217 => ?_)
                · refine q_lconst (v := 0) dX12_place_225 (by decide) ?_
                  refine q_lstore (ls' := [_, _, _, _, _, _, _, _, _, _, _, _]) dX12_place_226 rfl rfl (Nat.le_of_ble_eq_true rfl) (by decide) ?_
                  first | refine q_aload_n dX12_place_228 rfl ?_ | refine q_aload_nN dX12_place_228 rfl ?_
                  refine q_getf dX12_place_229 fk_X12_202_11 hM.K (hM.j 37 (by decide) rfl rfl) ?_
                  refine q_lload dX12_place_232 rfl ?_
                  first | refine q_aload_n dX12_place_234 rfl ?_ | refine q_aload_nN dX12_place_234 rfl ?_
                  refine q_getf dX12_place_235 fk_X12_206_11 hM.K (hM.j 38 (by decide) rfl rfl) ?_
                  refine q_lmul dX12_place_238 ?_
                  refine q_ladd dX12_place_239 ?_
                  refine q_lload_n dX12_place_240 rfl ?_
                  refine q_lcmp_ne 250 dX12_place_241 dX12_place_242 (by decide) (fun c241 => ?_) (fun c241 => ?_)
                  · refine q_ldc2 dX12_place_250 kl_X12_123 ?_
                    exact q_lreturn dX12_place_253 rfl (by decide) (by decide) ⟨plc_1 h36 ((mp_in hd hS hw h2 ((mq_0 c191 hst).2 c217) ⟨fun _ => ⟨Int64.not_lt.mp c133, c151⟩, fun z => absurd z (by decide)⟩).2 c241), hF, hM⟩
                  · refine q_lload dX12_place_245 rfl ?_
                    refine q_goto 253 dX12_place_247 (by decide) ?_
                    exact q_lreturn dX12_place_253 rfl (by decide) (by decide) ⟨plc_1 h36 ((mp_in hd hS hw h2 ((mq_0 c191 hst).2 c217) ⟨fun _ => ⟨Int64.not_lt.mp c133, c151⟩, fun z => absurd z (by decide)⟩).1 c241), hF, hM⟩
                · refine q_lconst (v := 1) dX12_place_221 (by decide) ?_
                  refine q_goto 226 dX12_place_222 (by decide) ?_
                  refine q_lstore (ls' := [_, _, _, _, _, _, _, _, _, _, _, _]) dX12_place_226 rfl rfl (Nat.le_of_ble_eq_true rfl) (by decide) ?_
                  first | refine q_aload_n dX12_place_228 rfl ?_ | refine q_aload_nN dX12_place_228 rfl ?_
                  refine q_getf dX12_place_229 fk_X12_202_11 hM.K (hM.j 37 (by decide) rfl rfl) ?_
                  refine q_lload dX12_place_232 rfl ?_
                  first | refine q_aload_n dX12_place_234 rfl ?_ | refine q_aload_nN dX12_place_234 rfl ?_
                  refine q_getf dX12_place_235 fk_X12_206_11 hM.K (hM.j 38 (by decide) rfl rfl) ?_
                  refine q_lmul dX12_place_238 ?_
                  refine q_ladd dX12_place_239 ?_
                  refine q_lload_n dX12_place_240 rfl ?_
                  refine q_lcmp_ne 250 dX12_place_241 dX12_place_242 (by decide) (fun c241 => ?_) (fun c241 => ?_)
                  · refine q_ldc2 dX12_place_250 kl_X12_123 ?_
                    exact q_lreturn dX12_place_253 rfl (by decide) (by decide) ⟨plc_1 h36 ((mp_in hd hS hw h2 ((mq_0 c191 hst).1 c217) ⟨fun _ => ⟨Int64.not_lt.mp c133, c151⟩, fun z => absurd z (by decide)⟩).2 c241), hF, hM⟩
                  · refine q_lload dX12_place_245 rfl ?_
                    refine q_goto 253 dX12_place_247 (by decide) ?_
                    exact q_lreturn dX12_place_253 rfl (by decide) (by decide) ⟨plc_1 h36 ((mp_in hd hS hw h2 ((mq_0 c191 hst).1 c217) ⟨fun _ => ⟨Int64.not_lt.mp c133, c151⟩, fun z => absurd z (by decide)⟩).1 c241), hF, hM⟩
              · refine q_lload dX12_place_195 rfl ?_
                refine q_lload dX12_place_197 rfl ?_
                refine q_callS dX12_place_199 mk_X12_142 (mc_divided l G Z _ _ (by_pos c191).1 (by_pos c191).2) rfl np_X12_divided (by decide) (by decide) (by decide) (Nat.le_of_ble_eq_true rfl) (kL (fun rd Zd hdv => ?_))
                obtain ⟨ed, hdv⟩ := hdv
                rw [ed, hdv]
                refine q_goto 226 dX12_place_202 (by decide) ?_
                refine q_lstore (ls' := [_, _, _, _, _, _, _, _, _, _, _, _]) dX12_place_226 rfl rfl (Nat.le_of_ble_eq_true rfl) (by decide) ?_
                first | refine q_aload_n dX12_place_228 rfl ?_ | refine q_aload_nN dX12_place_228 rfl ?_
                refine q_getf dX12_place_229 fk_X12_202_11 hM.K (hM.j 37 (by decide) rfl rfl) ?_
                refine q_lload dX12_place_232 rfl ?_
                first | refine q_aload_n dX12_place_234 rfl ?_ | refine q_aload_nN dX12_place_234 rfl ?_
                refine q_getf dX12_place_235 fk_X12_206_11 hM.K (hM.j 38 (by decide) rfl rfl) ?_
                refine q_lmul dX12_place_238 ?_
                refine q_ladd dX12_place_239 ?_
                refine q_lload_n dX12_place_240 rfl ?_
                refine q_lcmp_ne 250 dX12_place_241 dX12_place_242 (by decide) (fun c241 => ?_) (fun c241 => ?_)
                · refine q_ldc2 dX12_place_250 kl_X12_123 ?_
                  exact q_lreturn dX12_place_253 rfl (by decide) (by decide) ⟨plc_1 h36 ((mp_in hd hS hw h2 (uN_uQ _ _) ⟨fun _ => ⟨Int64.not_lt.mp c133, c151⟩, fun z => absurd z (by decide)⟩).2 c241), hF, hM⟩
                · refine q_lload dX12_place_245 rfl ?_
                  refine q_goto 253 dX12_place_247 (by decide) ?_
                  exact q_lreturn dX12_place_253 rfl (by decide) (by decide) ⟨plc_1 h36 ((mp_in hd hS hw h2 (uN_uQ _ _) ⟨fun _ => ⟨Int64.not_lt.mp c133, c151⟩, fun z => absurd z (by decide)⟩).1 c241), hF, hM⟩
            · refine q_ldc2 dX12_place_155 kl_X12_123 ?_
              exact q_lreturn dX12_place_158 rfl (by decide) (by decide) ⟨plc_1 h36 (mp_out hd hS hw h2 ⟨fun _ => Or.inr (Int64.not_le.mp c151), fun z => absurd z (by decide)⟩), hF, hM⟩
        · have hby : -σ.2 38 0 = st := by rw [hS, if_neg (by decide), Int64.neg_neg]
          first | refine q_aload_n dX12_place_86 rfl ?_ | refine q_aload_nN dX12_place_86 rfl ?_
          refine q_getf dX12_place_87 fk_X12_202_11 hM.K (hM.j 37 (by decide) rfl rfl) ?_
          first | refine q_aload_n dX12_place_90 rfl ?_ | refine q_aload_nN dX12_place_90 rfl ?_
          refine q_getf dX12_place_91 fk_X12_209_11 hM.K (hM.j 39 (by decide) rfl rfl) ?_
          refine q_lconst (v := 1) dX12_place_94 (by decide) ?_
          refine q_lsub dX12_place_95 ?_
          first | refine q_aload_n dX12_place_96 rfl ?_ | refine q_aload_nN dX12_place_96 rfl ?_
          refine q_getf dX12_place_97 fk_X12_206_11 hM.K (hM.j 38 (by decide) rfl rfl) ?_
          refine q_lmul dX12_place_100 ?_
          refine q_ladd dX12_place_101 ?_
          refine q_lstore_n (ls' := [_, _, _, _, _, _, _, _, _, _, _, _]) dX12_place_102 rfl rfl (Nat.le_of_ble_eq_true rfl) (by decide) ?_
          refine q_lload_n dX12_place_103 rfl ?_
          first | refine q_aload_n dX12_place_104 rfl ?_ | refine q_aload_nN dX12_place_104 rfl ?_
          refine q_getf dX12_place_105 fk_X12_202_11 hM.K (hM.j 37 (by decide) rfl rfl) ?_
          refine q_lcmp_le 116 dX12_place_108 dX12_place_109 (by decide) (fun c108 => ?_) (fun c108 => absurd c108 (not_not_intro ((mp_up hd hS hw h2).2 rfl)))
          refine q_iconst (v := 0) dX12_place_116 (by decide) ?_
          refine q_istore (ls' := [_, _, _, _, _, _, _, _, _, _, _, _]) dX12_place_117 rfl rfl (Nat.le_of_ble_eq_true rfl) (by decide) ?_
          refine q_lload_n dX12_place_119 rfl ?_
          refine q_iload dX12_place_120 rfl ?_
          refine q_if_eq 132 dX12_place_122 (by decide) (fun c122 => ?_) (fun c122 => absurd c122 (not_not_intro rfl))
          refine q_lload_n dX12_place_132 rfl ?_
          refine q_lcmp_lt 155 dX12_place_133 dX12_place_134 (by decide) (fun c133 => ?_) (fun c133 => ?_)
          · refine q_ldc2 dX12_place_155 kl_X12_123 ?_
            exact q_lreturn dX12_place_158 rfl (by decide) (by decide) ⟨plc_1 h36 (mp_out hd hS hw h2 ⟨fun z => absurd z (by decide), fun _ => Or.inl c133⟩), hF, hM⟩
          · refine q_lload_n dX12_place_137 rfl ?_
            refine q_iload dX12_place_138 rfl ?_
            refine q_if_eq 147 dX12_place_140 (by decide) (fun c140 => ?_) (fun c140 => absurd c140 (not_not_intro rfl))
            first | refine q_aload_n dX12_place_147 rfl ?_ | refine q_aload_nN dX12_place_147 rfl ?_
            refine q_getf dX12_place_148 fk_X12_202_11 hM.K (hM.j 37 (by decide) rfl rfl) ?_
            refine q_lcmp_le 159 dX12_place_151 dX12_place_152 (by decide) (fun c151 => ?_) (fun c151 => ?_)
            · refine q_iload dX12_place_159 rfl ?_
              refine q_if_eq 171 dX12_place_161 (by decide) (fun c161 => ?_) (fun c161 => absurd c161 (not_not_intro rfl))
              first | refine q_aload_n dX12_place_171 rfl ?_ | refine q_aload_nN dX12_place_171 rfl ?_
              refine q_getf dX12_place_172 fk_X12_206_11 hM.K (hM.j 38 (by decide) rfl rfl) ?_
              refine q_lneg dX12_place_175 ?_
              rw [hby]
              refine q_lstore (ls' := [_, _, _, _, _, _, _, _, _, _, _, _]) dX12_place_176 rfl rfl (Nat.le_of_ble_eq_true rfl) (by decide) ?_
              refine q_lload_n dX12_place_178 rfl ?_
              first | refine q_aload_n dX12_place_179 rfl ?_ | refine q_aload_nN dX12_place_179 rfl ?_
              refine q_getf dX12_place_180 fk_X12_202_11 hM.K (hM.j 37 (by decide) rfl rfl) ?_
              refine q_callS dX12_place_183 mk_X12_190 (mc_far l G Z v (σ.2 37 0)) rfl np_X12_far (by decide) (by decide) (by decide) (Nat.le_of_ble_eq_true rfl) (kL (fun rf Zf hf => ?_))
              obtain ⟨ef, hf⟩ := hf
              rw [ef, hf]
              refine q_lstore (ls' := [_, _, _, _, _, _, _, _, _, _, _, _]) dX12_place_186 rfl rfl (Nat.le_of_ble_eq_true rfl) (by decide) ?_
              refine q_lload dX12_place_188 rfl ?_
              refine q_lconst (v := 0) dX12_place_190 (by decide) ?_
              refine q_lcmp_le 205 dX12_place_191 dX12_place_192 (by decide) (fun c191 => ?_) (fun c191 => ?_)
              · refine q_lload dX12_place_205 rfl ?_
                refine q_ldc2 dX12_place_207 kl_X12_193 ?_
                refine q_lxor dX12_place_210 ?_
                refine q_lload dX12_place_211 rfl ?_
                refine q_ldc2 dX12_place_213 kl_X12_193 ?_
                refine q_lxor dX12_place_216 ?_
                refine q_lcmp_lt 225 dX12_place_217 dX12_place_218 (by decide) (fun c217 => ?_) (fun c217 => ?_)
                · refine q_lconst (v := 0) dX12_place_225 (by decide) ?_
                  refine q_lstore (ls' := [_, _, _, _, _, _, _, _, _, _, _, _]) dX12_place_226 rfl rfl (Nat.le_of_ble_eq_true rfl) (by decide) ?_
                  first | refine q_aload_n dX12_place_228 rfl ?_ | refine q_aload_nN dX12_place_228 rfl ?_
                  refine q_getf dX12_place_229 fk_X12_202_11 hM.K (hM.j 37 (by decide) rfl rfl) ?_
                  refine q_lload dX12_place_232 rfl ?_
                  first | refine q_aload_n dX12_place_234 rfl ?_ | refine q_aload_nN dX12_place_234 rfl ?_
                  refine q_getf dX12_place_235 fk_X12_206_11 hM.K (hM.j 38 (by decide) rfl rfl) ?_
                  refine q_lmul dX12_place_238 ?_
                  refine q_ladd dX12_place_239 ?_
                  refine q_lload_n dX12_place_240 rfl ?_
                  refine q_lcmp_ne 250 dX12_place_241 dX12_place_242 (by decide) (fun c241 => ?_) (fun c241 => ?_)
                  · refine q_ldc2 dX12_place_250 kl_X12_123 ?_
                    exact q_lreturn dX12_place_253 rfl (by decide) (by decide) ⟨plc_1 h36 ((mp_in hd hS hw h2 ((mq_0 c191 hst).2 c217) ⟨fun z => absurd z (by decide), fun _ => ⟨Int64.not_lt.mp c133, c151⟩⟩).2 c241), hF, hM⟩
                  · refine q_lload dX12_place_245 rfl ?_
                    refine q_goto 253 dX12_place_247 (by decide) ?_
                    exact q_lreturn dX12_place_253 rfl (by decide) (by decide) ⟨plc_1 h36 ((mp_in hd hS hw h2 ((mq_0 c191 hst).2 c217) ⟨fun z => absurd z (by decide), fun _ => ⟨Int64.not_lt.mp c133, c151⟩⟩).1 c241), hF, hM⟩
                · refine q_lconst (v := 1) dX12_place_221 (by decide) ?_
                  refine q_goto 226 dX12_place_222 (by decide) ?_
                  refine q_lstore (ls' := [_, _, _, _, _, _, _, _, _, _, _, _]) dX12_place_226 rfl rfl (Nat.le_of_ble_eq_true rfl) (by decide) ?_
                  first | refine q_aload_n dX12_place_228 rfl ?_ | refine q_aload_nN dX12_place_228 rfl ?_
                  refine q_getf dX12_place_229 fk_X12_202_11 hM.K (hM.j 37 (by decide) rfl rfl) ?_
                  refine q_lload dX12_place_232 rfl ?_
                  first | refine q_aload_n dX12_place_234 rfl ?_ | refine q_aload_nN dX12_place_234 rfl ?_
                  refine q_getf dX12_place_235 fk_X12_206_11 hM.K (hM.j 38 (by decide) rfl rfl) ?_
                  refine q_lmul dX12_place_238 ?_
                  refine q_ladd dX12_place_239 ?_
                  refine q_lload_n dX12_place_240 rfl ?_
                  refine q_lcmp_ne 250 dX12_place_241 dX12_place_242 (by decide) (fun c241 => ?_) (fun c241 => ?_)
                  · refine q_ldc2 dX12_place_250 kl_X12_123 ?_
                    exact q_lreturn dX12_place_253 rfl (by decide) (by decide) ⟨plc_1 h36 ((mp_in hd hS hw h2 ((mq_0 c191 hst).1 c217) ⟨fun z => absurd z (by decide), fun _ => ⟨Int64.not_lt.mp c133, c151⟩⟩).2 c241), hF, hM⟩
                  · refine q_lload dX12_place_245 rfl ?_
                    refine q_goto 253 dX12_place_247 (by decide) ?_
                    exact q_lreturn dX12_place_253 rfl (by decide) (by decide) ⟨plc_1 h36 ((mp_in hd hS hw h2 ((mq_0 c191 hst).1 c217) ⟨fun z => absurd z (by decide), fun _ => ⟨Int64.not_lt.mp c133, c151⟩⟩).1 c241), hF, hM⟩
              · refine q_lload dX12_place_195 rfl ?_
                refine q_lload dX12_place_197 rfl ?_
                refine q_callS dX12_place_199 mk_X12_142 (mc_divided l G Z _ _ (by_pos c191).1 (by_pos c191).2) rfl np_X12_divided (by decide) (by decide) (by decide) (Nat.le_of_ble_eq_true rfl) (kL (fun rd Zd hdv => ?_))
                obtain ⟨ed, hdv⟩ := hdv
                rw [ed, hdv]
                refine q_goto 226 dX12_place_202 (by decide) ?_
                refine q_lstore (ls' := [_, _, _, _, _, _, _, _, _, _, _, _]) dX12_place_226 rfl rfl (Nat.le_of_ble_eq_true rfl) (by decide) ?_
                first | refine q_aload_n dX12_place_228 rfl ?_ | refine q_aload_nN dX12_place_228 rfl ?_
                refine q_getf dX12_place_229 fk_X12_202_11 hM.K (hM.j 37 (by decide) rfl rfl) ?_
                refine q_lload dX12_place_232 rfl ?_
                first | refine q_aload_n dX12_place_234 rfl ?_ | refine q_aload_nN dX12_place_234 rfl ?_
                refine q_getf dX12_place_235 fk_X12_206_11 hM.K (hM.j 38 (by decide) rfl rfl) ?_
                refine q_lmul dX12_place_238 ?_
                refine q_ladd dX12_place_239 ?_
                refine q_lload_n dX12_place_240 rfl ?_
                refine q_lcmp_ne 250 dX12_place_241 dX12_place_242 (by decide) (fun c241 => ?_) (fun c241 => ?_)
                · refine q_ldc2 dX12_place_250 kl_X12_123 ?_
                  exact q_lreturn dX12_place_253 rfl (by decide) (by decide) ⟨plc_1 h36 ((mp_in hd hS hw h2 (uN_uQ _ _) ⟨fun z => absurd z (by decide), fun _ => ⟨Int64.not_lt.mp c133, c151⟩⟩).2 c241), hF, hM⟩
                · refine q_lload dX12_place_245 rfl ?_
                  refine q_goto 253 dX12_place_247 (by decide) ?_
                  exact q_lreturn dX12_place_253 rfl (by decide) (by decide) ⟨plc_1 h36 ((mp_in hd hS hw h2 (uN_uQ _ _) ⟨fun z => absurd z (by decide), fun _ => ⟨Int64.not_lt.mp c133, c151⟩⟩).1 c241), hF, hM⟩
            · refine q_ldc2 dX12_place_155 kl_X12_123 ?_
              exact q_lreturn dX12_place_158 rfl (by decide) (by decide) ⟨plc_1 h36 (mp_out hd hS hw h2 ⟨fun z => absurd z (by decide), fun _ => Or.inr (Int64.not_le.mp c151)⟩), hF, hM⟩
      · refine q_lload_n dX12_place_69 rfl ?_
        first | refine q_aload_n dX12_place_70 rfl ?_ | refine q_aload_nN dX12_place_70 rfl ?_
        refine q_getf dX12_place_71 fk_X12_202_11 hM.K (hM.j 37 (by decide) rfl rfl) ?_
        refine q_lcmp_ne 82 dX12_place_74 dX12_place_75 (by decide) (fun c74 => ?_) (fun c74 => ?_)
        · refine q_ldc2 dX12_place_82 kl_X12_123 ?_
          exact q_lreturn dX12_place_85 rfl (by decide) (by decide) ⟨plc_1 h36 (by rw [c65]; exact fst_n1 (fun z => c74 z.symm)), hF, hM⟩
        · refine q_lconst (v := 0) dX12_place_78 (by decide) ?_
          refine q_goto 85 dX12_place_79 (by decide) ?_
          exact q_lreturn dX12_place_85 rfl (by decide) (by decide) ⟨plc_1 h36 (by rw [c65]; exact Or.inl ⟨0, by decide, one_0.trans c74.symm, fun j hj => absurd hj (Nat.not_lt_zero _), rfl⟩), hF, hM⟩
    · refine q_ldc2 dX12_place_56 kl_X12_123 ?_
      exact q_lreturn dX12_place_59 rfl (by decide) (by decide) ⟨plc_1 h36 (by rw [c52]; exact Or.inr ⟨fun j hj => absurd hj (Nat.not_lt_zero _), rfl⟩), hF, hM⟩
set_option maxHeartbeats 600000 in
set_option maxRecDepth 100000 in
theorem mc_draw (l : Launch) (G : Gt) (Z0 : Zt) (y : Nat) (σ e : St) (hM : MR Z0 y σ e) (hr : PL σ) (n : Int64) : Ct l G YX12_draw (1, 0, 0) Z0 [.ref y, .long n] (ΦL (fun r Z1 => MF y Z0 Z1 ∧ ∃ e1, MR Z1 y σ e1 ∧ (¬ σ.2 39 0 = 0 → e1.1 0 0 = 0 ∧ r = atS σ (uR n (σ.2 39 0))) ∧ (σ.2 39 0 = 0 → e1.1 0 0 = 1))) := by
  refine ct_of [some (.ref y), some (.long n), none, none, none] (by decide +kernel) (Nat.le_of_ble_eq_true rfl) rfl (fun M => ?_)
  have hF := MF.rf y Z0
  first | refine q_aload_n dX12_draw_0 rfl ?_ | refine q_aload_nN dX12_draw_0 rfl ?_
  refine q_iconst (v := 0) dX12_draw_1 (by decide) ?_
  refine m_putx 0 hM dX12_draw_2 fk_X12_99_11 rfl (by decide) rfl rfl rfl rfl (fun Z hM hF1 => ?_)
  replace hF := hF.tr hF1
  first | refine q_aload_n dX12_draw_5 rfl ?_ | refine q_aload_nN dX12_draw_5 rfl ?_
  refine q_getf dX12_draw_6 fk_X12_209_11 hM.K (hM.j 39 (by decide) rfl rfl) ?_
  refine q_lconst (v := 0) dX12_draw_9 (by decide) ?_
  refine q_lcmp_ne 21 dX12_draw_10 dX12_draw_11 (by decide) (fun c10 => ?_) (fun c10 => ?_)
  · refine q_lload_n dX12_draw_21 rfl ?_
    first | refine q_aload_n dX12_draw_22 rfl ?_ | refine q_aload_nN dX12_draw_22 rfl ?_
    refine q_getf dX12_draw_23 fk_X12_209_11 hM.K (hM.j 39 (by decide) rfl rfl) ?_
    refine q_callS dX12_draw_26 mk_X12_142 (mc_divided l G Z n _ hr.b c10) rfl np_X12_divided (by decide) (by decide) (by decide) (Nat.le_of_ble_eq_true rfl) (kL (fun r2 Z2 h2 => ?_))
    obtain ⟨e2, h2⟩ := h2
    rw [e2, h2]
    refine q_lstore_n (ls' := [_, _, _, _, _]) dX12_draw_29 rfl rfl (Nat.le_of_ble_eq_true rfl) (by decide) ?_
    first | refine q_aload_n dX12_draw_30 rfl ?_ | refine q_aload_nN dX12_draw_30 rfl ?_
    refine q_lload_n dX12_draw_31 rfl ?_
    refine q_lload_n dX12_draw_32 rfl ?_
    first | refine q_aload_n dX12_draw_33 rfl ?_ | refine q_aload_nN dX12_draw_33 rfl ?_
    refine q_getf dX12_draw_34 fk_X12_209_11 hM.K (hM.j 39 (by decide) rfl rfl) ?_
    refine q_lmul dX12_draw_37 ?_
    refine q_lsub dX12_draw_38 ?_
    rw [uN_uR_eq]
    refine q_callV 11 dX12_draw_39 mk_X12_216 rfl hM.K (mc_at l G Z y σ _ hM hr.a _) rfl np_X12_at (by decide) (by decide) (by decide) (Nat.le_of_ble_eq_true rfl) (kL (fun r3 Z3 h3 => ?_))
    obtain ⟨f3, e3, m3, ok, -⟩ := h3
    exact q_lreturn dX12_draw_42 rfl (by decide) (by decide) ⟨hF.tr f3, e3, m3, fun z => ok (pos_of (Int64.not_le.mpr (Int64.lt_of_le_of_ne (Int64.not_lt.mp hr.b) (fun u => z u.symm))) n), fun z => absurd z c10⟩
  · first | refine q_aload_n dX12_draw_14 rfl ?_ | refine q_aload_nN dX12_draw_14 rfl ?_
    refine q_iconst (v := 1) dX12_draw_15 (by decide) ?_
    refine m_putx 0 hM dX12_draw_16 fk_X12_99_11 rfl (by decide) rfl rfl rfl rfl (fun Z hM hF1 => ?_)
    replace hF := hF.tr hF1
    refine q_lconst (v := 0) dX12_draw_19 (by decide) ?_
    exact q_lreturn dX12_draw_20 rfl (by decide) (by decide) ⟨hF, _, hM, fun z => absurd c10 z, fun _ => pI_at _ _ _ _⟩
theorem gth_nil (τ : St) : pJ (pI τ 36 0 0) 39 0 0 = gthS τ [] := by
  refine Prod.ext rfl (funext fun k => funext fun i => ?_)
  rw [pJ_2, gth_2]
  by_cases h : k = 39 ∧ i = 0
  · rw [if_pos h, if_pos h]; rfl
  · rw [if_neg h, if_neg h, if_neg (fun z => Nat.not_lt_zero _ z.2)]; rfl
theorem gth_snoc (τ : St) (D : List Int64) (v : Int64) : pJ (pJ (gthS τ D) 40 D.length v) 39 0 (lN (D.length + 1)) = gthS τ (D ++ [v]) := by
  refine Prod.ext rfl (funext fun k => funext fun i => ?_)
  rw [pJ_2, pJ_2, gth_2, gth_2, List.length_append, List.length_singleton]
  by_cases h : k = 39 ∧ i = 0
  · rw [if_pos h, if_pos h]
  · rw [if_neg h, if_neg h, if_neg h]
    by_cases h2 : k = 40 ∧ i = D.length
    · obtain ⟨rfl, rfl⟩ := h2
      rw [if_pos ⟨rfl, rfl⟩, if_pos ⟨rfl, by omega⟩, List.getD_eq_getElem?_getD, List.getElem?_append_right (Nat.le_refl _), Nat.sub_self]
      rfl
    · rw [if_neg h2]
      by_cases h3 : k = 40 ∧ i < D.length
      · rw [if_pos h3, if_pos ⟨h3.1, by omega⟩, List.getD_eq_getElem?_getD, List.getD_eq_getElem?_getD, List.getElem?_append_left h3.2]
      · rw [if_neg h3, if_neg (by omega)]
theorem gth_PL {τ : St} {D : List Int64} (h : D.length ≤ 200) : PL (gthS τ D) := Or.inl ⟨by rw [gth_1, if_pos ⟨rfl, rfl⟩], D.length, h, by rw [gth_2, if_pos ⟨rfl, rfl⟩]⟩
theorem gth_plc {τ : St} {D : List Int64} {v r : Int64} (h : D.length ≤ 200) (hp : plcP (gthS τ D) v r) : (r < 0 → D.contains v = false) ∧ (¬ r < 0 → D.contains v = true) := by
  unfold plcP at hp
  rw [if_neg (by rw [gth_1, if_pos ⟨rfl, rfl⟩]; decide), show (gthS τ D).2 39 0 = lN D.length from by rw [gth_2, if_pos ⟨rfl, rfl⟩], uN_ofNat (by omega)] at hp
  have hg : ∀ i, i < D.length → (gthS τ D).2 40 i = D.getD i 0 := fun i hi => by rw [gth_2, if_neg (by omega), if_pos ⟨rfl, hi⟩]
  rcases hp with ⟨i, h1, h2, -, rfl⟩ | ⟨h1, rfl⟩
  · refine ⟨fun z => absurd z ?_, fun _ => ?_⟩
    · rw [uN_neg_iff, uN_ofNat (by omega)]; omega
    · rw [List.contains_iff_mem, ← h2, hg i h1, gD h1]
      exact List.getElem_mem _
  · refine ⟨fun _ => ?_, fun z => absurd (by decide) z⟩
    rw [← Bool.not_eq_true, List.contains_iff_mem, List.mem_iff_getElem]
    rintro ⟨i, hi, e⟩
    exact h1 i hi (by rw [hg i hi, gD hi]; exact e)
theorem RW_c {row : Nat} {e : St} {L : List Int64} (h : RW e row L) : RW (pI e 0 0 0) row L := ⟨by rw [pI_ne (by decide)]; exact h.1, h.2⟩
theorem pln_eq (σ : St) (s : Nat) : pJ (pJ (pJ (pI σ 36 0 1) 37 0 (σ.2 25 s)) 38 0 (σ.2 26 s)) 39 0 (σ.2 27 s) = plnS σ s := by
  refine Prod.ext rfl (funext fun k => funext fun i => ?_)
  rw [pJ_2, pJ_2, pJ_2, pln_2]
  by_cases a : k = 39 ∧ i = 0
  · rw [if_pos a, if_neg (by omega), if_neg (by omega), if_pos a]
  · rw [if_neg a]
    by_cases b : k = 38 ∧ i = 0
    · rw [if_pos b, if_neg (by omega), if_pos b]
    · rw [if_neg b]
      by_cases c : k = 37 ∧ i = 0
      · rw [if_pos c, if_pos c]
      · rw [if_neg c, if_neg c, if_neg b, if_neg a]; rfl
set_option maxHeartbeats 600000 in
set_option maxRecDepth 100000 in
theorem mrg_loop (l : Launch) (G : Gt) (M : Mt) (Z0 : Zt) (y : Nat) (τ : St) (s : Int32) (L : List Int64) (hl : L.length ≤ 200) (P : Int32 → Zt → Prop) (hP : ∀ Z1 e1, MF y Z0 Z1 → MR Z1 y (gthS τ (ddS [] L)) e1 → P 1 Z1) : ∀ (Lr : List Int64) (k : Nat) (D : List Int64) (Z : Zt) (e1 : St) (o3 : Option Value), L.drop k = Lr → k + Lr.length = L.length → D.length ≤ k → MR Z y (gthS τ D) e1 → MF y Z0 Z → RW e1 0 L → ddS [] L = ddS D Lr → Jd l G YX12_range (22, 0, 0) M Z 0 0 (Qm G (22, 0, 0) M (ΦI P)) 122 [some (.ref y), some (.int s), some (.int (nI k)), o3, none] [] := by
  intro Lr
  induction Lr with
  | nil =>
    intro k D Z e1 o3 hLr hkl hDk hM hF hR hT
    have hkl : k = L.length := by simpa using hkl
    subst hkl
    have hT : ddS [] L = D := by rw [hT, ddS]
    refine q_iload_n dX12_range_122 rfl ?_
    first | refine q_aload_n dX12_range_123 rfl ?_ | refine q_aload_nN dX12_range_123 rfl ?_
    refine q_getf dX12_range_124 fk_X12_84_11 hM.K (hM.a 30 (by decide) (by decide)) ?_
    refine q_iconst (v := 0) dX12_range_127 (by decide) ?_
    refine m_ialdx 30 (0) hM dX12_range_128 (by decide) rfl rfl rfl (show 0 < 16 by omega) ?_
    rw [hR.1]
    refine q_icmp_ge 176 dX12_range_129 (by decide) (fun c129 => ?_) (fun c129 => absurd c129 (not_not_intro (Int32.le_refl _)))
    refine q_iconst (v := 1) dX12_range_176 (by decide) ?_
    exact q_ireturn dX12_range_177 rfl (by decide) (by decide) (hP Z e1 hF (by rw [hT]; exact hM))
  | cons c Lr ih =>
    intro k D Z e1 o3 hLr hkl hDk hM hF hR hT
    rw [List.length_cons] at hkl
    have hLr2 : L.drop (k + 1) = Lr := by rw [← List.drop_drop, hLr]; rfl
    have hci : L[k]? = some c := by
      have : (L.drop k)[0]? = some c := by rw [hLr]; rfl
      rw [List.getElem?_drop] at this
      simpa using this
    have hx : e1.2 29 k = c := by
      have := hR.2 k c hci
      rw [Nat.mul_zero, Nat.zero_add] at this
      exact this
    refine q_iload_n dX12_range_122 rfl ?_
    first | refine q_aload_n dX12_range_123 rfl ?_ | refine q_aload_nN dX12_range_123 rfl ?_
    refine q_getf dX12_range_124 fk_X12_84_11 hM.K (hM.a 30 (by decide) (by decide)) ?_
    refine q_iconst (v := 0) dX12_range_127 (by decide) ?_
    refine m_ialdx 30 (0) hM dX12_range_128 (by decide) rfl rfl rfl (show 0 < 16 by omega) ?_
    rw [hR.1]
    refine q_icmp_ge 176 dX12_range_129 (by decide) (fun c129 => absurd c129 (nI_ge (by omega) (by omega))) (fun c129 => ?_)
    first | refine q_aload_n dX12_range_132 rfl ?_ | refine q_aload_nN dX12_range_132 rfl ?_
    refine q_getf dX12_range_133 fk_X12_81_11 hM.K (hM.a 29 (by decide) (by decide)) ?_
    refine q_iload_n dX12_range_136 rfl ?_
    refine m_laldx 29 (k) hM dX12_range_137 (by decide) rfl rfl rfl (show k < 3216 by omega) ?_
    rw [hx]
    refine q_lstore_n (ls' := [_, _, _, _, _]) dX12_range_138 rfl rfl (Nat.le_of_ble_eq_true rfl) (by decide) ?_
    first | refine q_aload_n dX12_range_139 rfl ?_ | refine q_aload_nN dX12_range_139 rfl ?_
    refine q_lload_n dX12_range_140 rfl ?_
    refine q_callV 11 dX12_range_141 mk_X12_212 rfl hM.K (mc_place l G Z y (gthS τ D) e1 hM (gth_PL (by omega)) c) rfl np_X12_place (by decide) (by decide) (by decide) (Nat.le_of_ble_eq_true rfl) (kL (fun r2 Z2 hp => ?_))
    obtain ⟨hpl, f2, hM⟩ := hp
    replace hF := hF.tr f2
    refine q_lconst (v := 0) dX12_range_144 (by decide) ?_
    refine q_lcmp_ge 170 dX12_range_145 dX12_range_146 (by decide) (fun c145 => ?_) (fun c145 => ?_)
    · refine q_iinc 1 (ls' := [_, _, _, _, _]) dX12_range_170 rfl (by decide) rfl rfl (Nat.le_of_ble_eq_true rfl) (by decide) ?_
      refine q_goto 122 dX12_range_173 (by decide) ?_
      rw [nI_1]
      refine ih (k + 1) D Z2 _ _ hLr2 (by omega) (by omega) hM hF (RW_c hR) ?_
      rw [hT, ddS, if_pos ((gth_plc (by omega) hpl).2 (Int64.not_lt.mpr c145))]
    · first | refine q_aload_n dX12_range_149 rfl ?_ | refine q_aload_nN dX12_range_149 rfl ?_
      refine q_getf dX12_range_150 fk_X12_96_11 hM.K (hM.a 40 (by decide) (by decide)) ?_
      first | refine q_aload_n dX12_range_153 rfl ?_ | refine q_aload_nN dX12_range_153 rfl ?_
      refine q_getf dX12_range_154 fk_X12_209_11 hM.K (hM.j 39 (by decide) rfl rfl) ?_
      refine q_l2i dX12_range_157 ?_
      refine q_lload_n dX12_range_158 rfl ?_
      refine m_last 40 (D.length) hM dX12_range_159 (by decide) rfl rfl (by rw [gth_2, if_pos ⟨rfl, rfl⟩, lN_i]) (show D.length < 200 by omega) (fun Z hM hF1 => ?_)
      replace hF := hF.tr hF1
      first | refine q_aload_n dX12_range_160 rfl ?_ | refine q_aload_nN dX12_range_160 rfl ?_
      refine q_dup dX12_range_161 rfl ?_
      refine q_getf dX12_range_162 fk_X12_209_11 hM.K (hM.j 39 (by decide) rfl rfl) ?_
      refine q_lconst (v := 1) dX12_range_165 (by decide) ?_
      refine q_ladd dX12_range_166 ?_
      refine m_putj 39 hM dX12_range_167 fk_X12_209_11 rfl (by decide) rfl rfl rfl rfl (fun Z hM hF1 => ?_)
      replace hF := hF.tr hF1
      refine q_iinc 1 (ls' := [_, _, _, _, _]) dX12_range_170 rfl (by decide) rfl rfl (Nat.le_of_ble_eq_true rfl) (by decide) ?_
      refine q_goto 122 dX12_range_173 (by decide) ?_
      rw [nI_1]
      rw [show (pJ (gthS τ D) 40 D.length c).2 39 0 = lN D.length from by rw [pJ_2, if_neg (by omega), gth_2, if_pos ⟨rfl, rfl⟩], lN_1, gth_snoc] at hM
      refine ih (k + 1) (D ++ [c]) Z _ _ hLr2 (by omega) (by rw [List.length_append, List.length_singleton]; omega) hM hF (RW_c hR) ?_
      rw [hT, ddS, if_neg (by rw [(gth_plc (by omega) hpl).1 (Int64.not_le.mp c145)]; decide)]
theorem rng_none {y : Nat} {Z0 Z : Zt} {σ e : St} {s : Int32} (q0 : ¬ (¬ s < 0 ∧ s < σ.1 16 0)) (hF : MF y Z0 Z) (hM : MR Z y σ e) : (-1 : Int32) = (rangeR σ s).1 ∧ MF y Z0 Z ∧ ∃ e1, MR Z y (rangeR σ s).2 e1 := by
  have e1 : rangeR σ s = (-1, σ) := if_pos (Classical.byContradiction fun z => q0 ⟨fun u => z (Or.inl u), Classical.byContradiction fun u => z (Or.inr u)⟩)
  rw [e1]; exact ⟨rfl, hF, _, hM⟩
theorem PFs.cong15 {σ τ : St} {nf ns : Nat} (h : PFs σ nf ns) (k1 : ∀ k, k ≠ 15 → k ≠ 32 → τ.1 k = σ.1 k) (k2 : τ.2 = σ.2) : PFs τ nf ns := by
  unfold PFs sdp at h ⊢
  rw [k1 17 (by decide) (by decide), k1 18 (by decide) (by decide), k1 19 (by decide) (by decide), k1 20 (by decide) (by decide), k1 21 (by decide) (by decide), k1 23 (by decide) (by decide), k1 24 (by decide) (by decide), k2]
  exact h
set_option maxHeartbeats 600000 in
set_option maxRecDepth 100000 in
theorem mc_range (l : Launch) (G : Gt) (Z0 : Zt) (y : Nat) (σ e : St) (hM : MR Z0 y σ e) (ns nf : Nat) (h16 : σ.1 16 0 = nI ns) (hS : PFs σ nf ns) (hPf : PFf σ nf) (s : Int32) : Ct l G YX12_range (22, 0, 0) Z0 [.ref y, .int s] (ΦI (fun r Z1 => r = (rangeR σ s).1 ∧ MF y Z0 Z1 ∧ ∃ e1, MR Z1 y (rangeR σ s).2 e1)) := by
  refine ct_of [some (.ref y), some (.int s), none, none, none] (by decide +kernel) (Nat.le_of_ble_eq_true rfl) rfl (fun M => ?_)
  have hF := MF.rf y Z0
  have hns := hS.1
  first | refine q_aload_n dX12_range_0 rfl ?_ | refine q_aload_nN dX12_range_0 rfl ?_
  refine q_iconst (v := 0) dX12_range_1 (by decide) ?_
  refine m_putx 0 hM dX12_range_2 fk_X12_99_11 rfl (by decide) rfl rfl rfl rfl (fun Z hM hF1 => ?_)
  replace hF := hF.tr hF1
  first | refine q_aload_n dX12_range_5 rfl ?_ | refine q_aload_nN dX12_range_5 rfl ?_
  refine q_iload_n dX12_range_6 rfl ?_
  refine q_callV 11 dX12_range_7 mk_X12_154 rfl hM.K (mc_isSource l G Z y _ _ hM s) rfl np_X12_isSource (by decide) (by decide) (by decide) (Nat.le_of_ble_eq_true rfl) (kI (fun r10 Z2 h10 => ?_))
  obtain ⟨e2, h10⟩ := h10
  rw [e2]
  refine q_if_ne 15 dX12_range_10 (by decide) (fun c10 => ?_) (fun c10 => ?_)
  · obtain ⟨q1, q2⟩ := rb_t h10 c10
    rw [h16] at q2
    obtain ⟨p, hp, rfl⟩ := ix_of (by omega) q1 q2
    have hRR : rangeR σ (nI p) = rngS (pI (pI σ 15 0 0) 32 0 0) p := by unfold rangeR; rw [h16, if_neg (fun z => z.elim q1 (fun u => u q2)), nI_clamp (by omega)]
    first | refine q_aload_n dX12_range_15 rfl ?_ | refine q_aload_nN dX12_range_15 rfl ?_
    refine q_iconst (v := 0) dX12_range_16 (by decide) ?_
    refine m_puti 15 hM dX12_range_17 fk_X12_110_11 rfl (by decide) rfl rfl rfl rfl (fun Z hM hF1 => ?_)
    replace hF := hF.tr hF1
    first | refine q_aload_n dX12_range_20 rfl ?_ | refine q_aload_nN dX12_range_20 rfl ?_
    refine q_iconst (v := 0) dX12_range_21 (by decide) ?_
    refine m_putx 13 hM dX12_range_22 fk_X12_113_11 rfl (by decide) rfl rfl rfl rfl (fun Z hM hF1 => ?_)
    replace hF := hF.tr hF1
    first | refine q_aload_n dX12_range_25 rfl ?_ | refine q_aload_nN dX12_range_25 rfl ?_
    refine q_iconst (v := 0) dX12_range_26 (by decide) ?_
    refine m_puti 32 hM dX12_range_27 fk_X12_187_11 rfl (by decide) rfl rfl rfl rfl (fun Z hM hF1 => ?_)
    replace hF := hF.tr hF1
    first | refine q_aload_n dX12_range_30 rfl ?_ | refine q_aload_nN dX12_range_30 rfl ?_
    refine q_iconst (v := 0) dX12_range_31 (by decide) ?_
    refine m_putx 31 hM dX12_range_32 fk_X12_159_11 rfl (by decide) rfl rfl rfl rfl (fun Z hM hF1 => ?_)
    replace hF := hF.tr hF1
    first | refine q_aload_n dX12_range_35 rfl ?_ | refine q_aload_nN dX12_range_35 rfl ?_
    refine q_getf dX12_range_36 fk_X12_65_11 hM.K (hM.a 24 (by decide) (by decide)) ?_
    refine q_iload_n dX12_range_39 rfl ?_
    have s24 : (pI (pI σ 15 0 0) 32 0 0).1 24 = σ.1 24 := by rw [pI_ne (by decide), pI_ne (by decide)]
    have hk15 : ∀ k, k ≠ 15 → k ≠ 32 → (pI (pI σ 15 0 0) 32 0 0).1 k = σ.1 k := fun k a b => by rw [pI_ne b, pI_ne a]
    refine m_zald 24 (p) hM dX12_range_40 (by decide) rfl rfl rfl (show p < 20 by omega) ?_
    refine q_if_eq 81 dX12_range_41 (by decide) (fun c41 => ?_) (fun c41 => ?_)
    · have hn24 : ¬ (pI (pI σ 15 0 0) 32 0 0).1 24 p = 1 := by rw [c41]; decide
      have hSs : PFs (pI (pI σ 15 0 0) 32 0 0) nf ns := hS.cong15 hk15 rfl
      have hPs : PFf (pI (pI σ 15 0 0) 32 0 0) nf := hPf.cong (hk15 1 (by decide) (by decide)) (hk15 2 (by decide) (by decide)) (hk15 7 (by decide) (by decide)) (hk15 8 (by decide) (by decide)) (hk15 9 (by decide) (by decide)) (hk15 11 (by decide) (by decide))
      have hbl : bLe (pI (pI σ 15 0 0) 32 0 0) := ⟨0, 0, pI_at _ _ _ _, by rw [pI_ne (by decide), pI_at]; rfl, by omega, by omega⟩
      have hd6 : sdp (pI (pI σ 15 0 0) 32 0 0) p ≤ 6 := (hSs.2 p hp).2.1.2
      have h31 : (pI (pI (pI e 0 0 0) 13 0 0) 31 0 0).1 31 0 = 0 := pI_at _ _ _ _
      rcases hq : gS 6 p (pI (pI σ 15 0 0) 32 0 0) with ⟨er | L, τ⟩
      · first | refine q_aload_n dX12_range_81 rfl ?_ | refine q_aload_nN dX12_range_81 rfl ?_
        refine q_iload_n dX12_range_82 rfl ?_
        refine q_iconst (v := 0) dX12_range_83 (by decide) ?_
        refine q_callV 11 dX12_range_84 mk_X12_173 rfl hM.K (mgoes l G y nf ns 6 p 0 20 Z (pI (pI σ 15 0 0) 32 0 0) _ hp hd6 (by omega) (by omega) hSs hPs hbl h31 hM) rfl np_X12_goes (by decide) (by decide) (by decide) (Nat.le_of_ble_eq_true rfl) (kI (fun r2 Z2 hg => ?_))
        rw [hq] at hg
        obtain ⟨f2, e2, m2, g2, rfl, hG⟩ := hg
        replace hF := hF.tr f2
        have hM : MR Z2 y τ e2 := m2
        refine q_if_ne 110 dX12_range_87 (by decide) (fun c87 => absurd c87 (not_not_intro rfl)) (fun c87 => ?_)
        rcases hG with ⟨u1, u2⟩ | ⟨u1, u2⟩
        · first | refine q_aload_n dX12_range_90 rfl ?_ | refine q_aload_nN dX12_range_90 rfl ?_
          refine q_getf dX12_range_91 fk_X12_159_11 hM.K (hM.ix 31 (by decide) rfl rfl) ?_
          refine q_if_eq 102 dX12_range_94 (by decide) (fun c94 => ?_) (fun c94 => absurd c94 (not_not_intro u1))
          refine q_bipush (v := (-10)) dX12_range_102 (by decide) ?_
          first | refine q_aload_n dX12_range_104 rfl ?_ | refine q_aload_nN dX12_range_104 rfl ?_
          refine q_getf dX12_range_105 fk_X12_113_11 hM.K (hM.ix 13 (by decide) rfl rfl) ?_
          refine q_isub dX12_range_108 ?_
          exact q_ireturn dX12_range_109 rfl (by decide) (by decide) ⟨by rw [hRR, rngS_l hn24 hq]; exact u2, hF, e2, by rw [hRR, rngS_l hn24 hq]; exact hM⟩
        · first | refine q_aload_n dX12_range_90 rfl ?_ | refine q_aload_nN dX12_range_90 rfl ?_
          refine q_getf dX12_range_91 fk_X12_159_11 hM.K (hM.ix 31 (by decide) rfl rfl) ?_
          refine q_if_eq 102 dX12_range_94 (by decide) (fun c94 => absurd c94 (by rw [u1]; decide)) (fun c94 => ?_)
          refine q_bipush (v := (-4)) dX12_range_97 (by decide) ?_
          refine q_goto 109 dX12_range_99 (by decide) ?_
          exact q_ireturn dX12_range_109 rfl (by decide) (by decide) ⟨by rw [hRR, rngS_l hn24 hq]; exact u2.symm, hF, e2, by rw [hRR, rngS_l hn24 hq]; exact hM⟩
      · first | refine q_aload_n dX12_range_81 rfl ?_ | refine q_aload_nN dX12_range_81 rfl ?_
        refine q_iload_n dX12_range_82 rfl ?_
        refine q_iconst (v := 0) dX12_range_83 (by decide) ?_
        refine q_callV 11 dX12_range_84 mk_X12_173 rfl hM.K (mgoes l G y nf ns 6 p 0 20 Z (pI (pI σ 15 0 0) 32 0 0) _ hp hd6 (by omega) (by omega) hSs hPs hbl h31 hM) rfl np_X12_goes (by decide) (by decide) (by decide) (Nat.le_of_ble_eq_true rfl) (kI (fun r2 Z2 hg => ?_))
        rw [hq] at hg
        obtain ⟨f2, e2, m2, g2, rfl, e31, hR, hl⟩ := hg
        replace hF := hF.tr f2
        have hM : MR Z2 y τ e2 := m2
        refine q_if_ne 110 dX12_range_87 (by decide) (fun c87 => ?_) (fun c87 => absurd c87 (by decide))
        first | refine q_aload_n dX12_range_110 rfl ?_ | refine q_aload_nN dX12_range_110 rfl ?_
        refine q_iconst (v := 0) dX12_range_111 (by decide) ?_
        refine m_puti 36 hM dX12_range_112 fk_X12_199_11 rfl (by decide) rfl rfl rfl rfl (fun Z hM hF1 => ?_)
        replace hF := hF.tr hF1
        first | refine q_aload_n dX12_range_115 rfl ?_ | refine q_aload_nN dX12_range_115 rfl ?_
        refine q_lconst (v := 0) dX12_range_116 (by decide) ?_
        refine m_putj 39 hM dX12_range_117 fk_X12_209_11 rfl (by decide) rfl rfl rfl rfl (fun Z hM hF1 => ?_)
        replace hF := hF.tr hF1
        refine q_iconst (v := 0) dX12_range_120 (by decide) ?_
        refine q_istore_n (ls' := [_, _, _, _, _]) dX12_range_121 rfl rfl (Nat.le_of_ble_eq_true rfl) (by decide) ?_
        rw [gth_nil] at hM
        exact mrg_loop l G M Z0 y τ _ L hl _ (fun Z1 e1 a b => ⟨by rw [hRR, rngS_r hn24 hq], a, e1, by rw [hRR, rngS_r hn24 hq]; exact b⟩) L 0 [] Z _ none (by rw [List.drop_zero]) (by omega) (Nat.le_refl _) hM hF hR rfl
    · have h24 : (pI (pI σ 15 0 0) 32 0 0).1 24 p = 1 := by rw [s24]; exact ((hS.2 p hp).1.resolve_left (by rw [s24] at c41; exact c41))
      first | refine q_aload_n dX12_range_44 rfl ?_ | refine q_aload_nN dX12_range_44 rfl ?_
      refine q_iconst (v := 1) dX12_range_45 (by decide) ?_
      refine m_puti 36 hM dX12_range_46 fk_X12_199_11 rfl (by decide) rfl rfl rfl rfl (fun Z hM hF1 => ?_)
      replace hF := hF.tr hF1
      first | refine q_aload_n dX12_range_49 rfl ?_ | refine q_aload_nN dX12_range_49 rfl ?_
      first | refine q_aload_n dX12_range_50 rfl ?_ | refine q_aload_nN dX12_range_50 rfl ?_
      refine q_getf dX12_range_51 fk_X12_69_11 hM.K (hM.a 25 (by decide) (by decide)) ?_
      refine q_iload_n dX12_range_54 rfl ?_
      refine m_lald 25 (p) hM dX12_range_55 (by decide) rfl rfl rfl (show p < 20 by omega) ?_
      refine m_putj 37 hM dX12_range_56 fk_X12_202_11 rfl (by decide) rfl rfl rfl rfl (fun Z hM hF1 => ?_)
      replace hF := hF.tr hF1
      first | refine q_aload_n dX12_range_59 rfl ?_ | refine q_aload_nN dX12_range_59 rfl ?_
      first | refine q_aload_n dX12_range_60 rfl ?_ | refine q_aload_nN dX12_range_60 rfl ?_
      refine q_getf dX12_range_61 fk_X12_72_11 hM.K (hM.a 26 (by decide) (by decide)) ?_
      refine q_iload_n dX12_range_64 rfl ?_
      refine m_lald 26 (p) hM dX12_range_65 (by decide) rfl rfl rfl (show p < 20 by omega) ?_
      rw [pJ_2, if_neg (by omega)]
      refine m_putj 38 hM dX12_range_66 fk_X12_206_11 rfl (by decide) rfl rfl rfl rfl (fun Z hM hF1 => ?_)
      replace hF := hF.tr hF1
      first | refine q_aload_n dX12_range_69 rfl ?_ | refine q_aload_nN dX12_range_69 rfl ?_
      first | refine q_aload_n dX12_range_70 rfl ?_ | refine q_aload_nN dX12_range_70 rfl ?_
      refine q_getf dX12_range_71 fk_X12_75_11 hM.K (hM.a 27 (by decide) (by decide)) ?_
      refine q_iload_n dX12_range_74 rfl ?_
      refine m_lald 27 (p) hM dX12_range_75 (by decide) rfl rfl rfl (show p < 20 by omega) ?_
      rw [pJ_2, if_neg (by omega), pJ_2, if_neg (by omega)]
      refine m_putj 39 hM dX12_range_76 fk_X12_209_11 rfl (by decide) rfl rfl rfl rfl (fun Z hM hF1 => ?_)
      replace hF := hF.tr hF1
      refine q_iconst (v := 1) dX12_range_79 (by decide) ?_
      exact q_ireturn dX12_range_80 rfl (by decide) (by decide) ⟨by rw [hRR, rngS_p h24], hF, _, by rw [hRR, rngS_p h24, ← pln_eq]; exact hM⟩
  · have q0 := rb_f h10 c10
    refine q_iconst (v := (-1)) dX12_range_13 (by decide) ?_
    exact q_ireturn dX12_range_14 rfl (by decide) (by decide) (rng_none q0 hF hM)
