set_option maxHeartbeats 600000 in
set_option maxRecDepth 100000 in
theorem c_dep_nn (l : Launch) (G : Gt) (Z : Zt)  : Ct l G YX8_depthOver (1, 0, 0) Z [.null, .null] (ΦI (fun r Z1 => Z1 = Z ∧ r = 1 + (if 0 < 0 then 0 else 0))) := by
  refine ct_of [some (.null), some (.null)] (by decide +kernel) (Nat.le_of_ble_eq_true rfl) rfl (fun M => ?_)
  refine q_iconst (v := 1) dX8_depthOver_0 (by decide) ?_
  first | refine q_aload_n dX8_depthOver_1 rfl ?_ | refine q_aload_nN dX8_depthOver_1 rfl ?_
  refine q_ifnonnullN dX8_depthOver_2 ?_
  refine q_iconst (v := 0) dX8_depthOver_5 (by decide) ?_
  refine q_goto 13 dX8_depthOver_6 (by decide) ?_
  first | refine q_aload_n dX8_depthOver_13 rfl ?_ | refine q_aload_nN dX8_depthOver_13 rfl ?_
  refine q_ifnonnullN dX8_depthOver_14 ?_
  refine q_iconst (v := 0) dX8_depthOver_17 (by decide) ?_
  refine q_goto 25 dX8_depthOver_18 (by decide) ?_
  refine q_mmax dX8_depthOver_25 mk_X8_52 (by decide) (Nat.le_of_ble_eq_true rfl) (by decide) (by decide) ?_
  refine q_iadd dX8_depthOver_28 ?_
  exact q_ireturn dX8_depthOver_29 rfl (by decide) (by decide) ⟨rfl, rfl⟩
set_option maxHeartbeats 600000 in
set_option maxRecDepth 100000 in
theorem c_dep_rn (l : Launch) (G : Gt) (Z : Zt) (s : Nat) (d : Int32) (hs : zK Z s = 8) (hd : zF Z 1 s = .int d) : Ct l G YX8_depthOver (1, 0, 0) Z [.ref s, .null] (ΦI (fun r Z1 => Z1 = Z ∧ r = 1 + (if d < 0 then 0 else d))) := by
  refine ct_of [some (.ref s), some (.null)] (by decide +kernel) (Nat.le_of_ble_eq_true rfl) rfl (fun M => ?_)
  refine q_iconst (v := 1) dX8_depthOver_0 (by decide) ?_
  first | refine q_aload_n dX8_depthOver_1 rfl ?_ | refine q_aload_nN dX8_depthOver_1 rfl ?_
  refine q_ifnonnull 9 dX8_depthOver_2 (by decide) ?_
  first | refine q_aload_n dX8_depthOver_9 rfl ?_ | refine q_aload_nN dX8_depthOver_9 rfl ?_
  refine q_getf dX8_depthOver_10 fk_X8_15_7 hs hd ?_
  first | refine q_aload_n dX8_depthOver_13 rfl ?_ | refine q_aload_nN dX8_depthOver_13 rfl ?_
  refine q_ifnonnullN dX8_depthOver_14 ?_
  refine q_iconst (v := 0) dX8_depthOver_17 (by decide) ?_
  refine q_goto 25 dX8_depthOver_18 (by decide) ?_
  refine q_mmax dX8_depthOver_25 mk_X8_52 (by decide) (Nat.le_of_ble_eq_true rfl) (by decide) (by decide) ?_
  refine q_iadd dX8_depthOver_28 ?_
  exact q_ireturn dX8_depthOver_29 rfl (by decide) (by decide) ⟨rfl, rfl⟩
set_option maxHeartbeats 600000 in
set_option maxRecDepth 100000 in
theorem c_dep_rr (l : Launch) (G : Gt) (Z : Zt) (s t : Nat) (d e : Int32) (hs : zK Z s = 8) (hd : zF Z 1 s = .int d) (ht : zK Z t = 8) (he : zF Z 1 t = .int e) : Ct l G YX8_depthOver (1, 0, 0) Z [.ref s, .ref t] (ΦI (fun r Z1 => Z1 = Z ∧ r = 1 + (if d < e then e else d))) := by
  refine ct_of [some (.ref s), some (.ref t)] (by decide +kernel) (Nat.le_of_ble_eq_true rfl) rfl (fun M => ?_)
  refine q_iconst (v := 1) dX8_depthOver_0 (by decide) ?_
  first | refine q_aload_n dX8_depthOver_1 rfl ?_ | refine q_aload_nN dX8_depthOver_1 rfl ?_
  refine q_ifnonnull 9 dX8_depthOver_2 (by decide) ?_
  first | refine q_aload_n dX8_depthOver_9 rfl ?_ | refine q_aload_nN dX8_depthOver_9 rfl ?_
  refine q_getf dX8_depthOver_10 fk_X8_15_7 hs hd ?_
  first | refine q_aload_n dX8_depthOver_13 rfl ?_ | refine q_aload_nN dX8_depthOver_13 rfl ?_
  refine q_ifnonnull 21 dX8_depthOver_14 (by decide) ?_
  first | refine q_aload_n dX8_depthOver_21 rfl ?_ | refine q_aload_nN dX8_depthOver_21 rfl ?_
  refine q_getf dX8_depthOver_22 fk_X8_15_7 ht he ?_
  refine q_mmax dX8_depthOver_25 mk_X8_52 (by decide) (Nat.le_of_ble_eq_true rfl) (by decide) (by decide) ?_
  refine q_iadd dX8_depthOver_28 ?_
  exact q_ireturn dX8_depthOver_29 rfl (by decide) (by decide) ⟨rfl, rfl⟩
set_option maxHeartbeats 600000 in
set_option maxRecDepth 100000 in
theorem c_pl_n (l : Launch) (G : Gt) (Z : Zt) (so n : Int32) : Ct l G YX8_plainOver (3, 1, 4) Z [.int so, .null, .int n] (ΦA (fun r Z1 => r = none ∧ Z1 = Z)) := by
  refine ct_of [some (.int so), some (.null), some (.int n)] (by decide +kernel) (Nat.le_of_ble_eq_true rfl) rfl (fun M => ?_)
  first | refine q_aload_n dX8_plainOver_0 rfl ?_ | refine q_aload_nN dX8_plainOver_0 rfl ?_
  refine q_ifnullN 11 dX8_plainOver_1 (by decide) ?_
  refine q_aconst_null dX8_plainOver_11 ?_
  exact q_areturnN dX8_plainOver_12 rfl (Or.inl ⟨_, rfl⟩) (by decide) (by decide) ⟨rfl, rfl⟩
set_option maxHeartbeats 600000 in
set_option maxRecDepth 100000 in
theorem c_pl_rn (l : Launch) (G : Gt) (Z : Zt) (so n : Int32) (s : Nat) (hs : zK Z s = 8) (h2 : zF Z 2 s = .null) : Ct l G YX8_plainOver (3, 1, 4) Z [.int so, .ref s, .int n] (ΦA (fun r Z1 => r = none ∧ Z1 = Z)) := by
  refine ct_of [some (.int so), some (.ref s), some (.int n)] (by decide +kernel) (Nat.le_of_ble_eq_true rfl) rfl (fun M => ?_)
  first | refine q_aload_n dX8_plainOver_0 rfl ?_ | refine q_aload_nN dX8_plainOver_0 rfl ?_
  refine q_ifnull dX8_plainOver_1 ?_
  first | refine q_aload_n dX8_plainOver_4 rfl ?_ | refine q_aload_nN dX8_plainOver_4 rfl ?_
  refine q_getf dX8_plainOver_5 fk_X8_18_7 hs h2 ?_
  refine q_ifnonnullN dX8_plainOver_8 ?_
  refine q_aconst_null dX8_plainOver_11 ?_
  exact q_areturnN dX8_plainOver_12 rfl (Or.inl ⟨_, rfl⟩) (by decide) (by decide) ⟨rfl, rfl⟩
set_option maxHeartbeats 600000 in
set_option maxRecDepth 100000 in
theorem c_pl_o (l : Launch) (G : Gt) (Z : Zt) (so n : Int32) (s q : Nat) (hs : zK Z s = 8) (h2 : zF Z 2 s = .ref q) (h5 : ¬ so = 5) (h8 : ¬ so = 8) : Ct l G YX8_plainOver (3, 1, 4) Z [.int so, .ref s, .int n] (ΦA (fun r Z1 => r = none ∧ Z1 = Z)) := by
  refine ct_of [some (.int so), some (.ref s), some (.int n)] (by decide +kernel) (Nat.le_of_ble_eq_true rfl) rfl (fun M => ?_)
  first | refine q_aload_n dX8_plainOver_0 rfl ?_ | refine q_aload_nN dX8_plainOver_0 rfl ?_
  refine q_ifnull dX8_plainOver_1 ?_
  first | refine q_aload_n dX8_plainOver_4 rfl ?_ | refine q_aload_nN dX8_plainOver_4 rfl ?_
  refine q_getf dX8_plainOver_5 fk_X8_18_7 hs h2 ?_
  refine q_ifnonnull 13 dX8_plainOver_8 (by decide) ?_
  refine q_iload_n dX8_plainOver_13 rfl ?_
  refine q_lsw [(5, 40), (8, 48)] 57 dX8_plainOver_14 (by decide) (by decide) (by decide) (fun q hq c14 => ?_) (fun c14 => ?_)
  · rcases List.mem_cons.mp hq with rfl | hq
    · dsimp only at c14 ⊢
      exact absurd c14 h5
    rcases List.mem_cons.mp hq with rfl | hq
    · dsimp only at c14 ⊢
      exact absurd c14 h8
    exact absurd hq List.not_mem_nil
  · refine q_aconst_null dX8_plainOver_57 ?_
    exact q_areturnN dX8_plainOver_58 rfl (Or.inl ⟨_, rfl⟩) (by decide) (by decide) ⟨rfl, rfl⟩
set_option maxHeartbeats 600000 in
set_option maxRecDepth 100000 in
theorem c_pl_5 (l : Launch) (G : Gt) (Z : Zt) (n : Int32) (s q : Nat) (hs : zK Z s = 8) (h2 : zF Z 2 s = .ref q) (f st c : Int64) (d : Int32) (hqK : zK Z q = 9) (q0 : zF Z 0 q = .long f) (q1 : zF Z 1 q = .long st) (q2 : zF Z 2 q = .int d) (q3 : zF Z 3 q = .long c) (hN : q ≠ zN Z) (hd : d = 0 ∨ d = 1) : Ct l G YX8_plainOver (3, 1, 4) Z [.int 5, .ref s, .int n] (ΦA (fun r Z1 => (c < 1 → r = some q ∧ Z1 = Z) ∧ (¬ c < 1 → r = some (zN Z) ∧ Z1 = nSt Z (stAt f st d (c - 1)) st (if d = 0 then 1 else 0) c))) := by
  refine ct_of [some (.int 5), some (.ref s), some (.int n)] (by decide +kernel) (Nat.le_of_ble_eq_true rfl) rfl (fun M => ?_)
  first | refine q_aload_n dX8_plainOver_0 rfl ?_ | refine q_aload_nN dX8_plainOver_0 rfl ?_
  refine q_ifnull dX8_plainOver_1 ?_
  first | refine q_aload_n dX8_plainOver_4 rfl ?_ | refine q_aload_nN dX8_plainOver_4 rfl ?_
  refine q_getf dX8_plainOver_5 fk_X8_18_7 hs h2 ?_
  refine q_ifnonnull 13 dX8_plainOver_8 (by decide) ?_
  refine q_iload_n dX8_plainOver_13 rfl ?_
  refine q_lsw [(5, 40), (8, 48)] 57 dX8_plainOver_14 (by decide) (by decide) (by decide) (fun q hq c14 => ?_) (fun c14 => ?_)
  · rcases List.mem_cons.mp hq with rfl | hq
    · dsimp only at c14 ⊢
      first | refine q_aload_n dX8_plainOver_40 rfl ?_ | refine q_aload_nN dX8_plainOver_40 rfl ?_
      refine q_getf dX8_plainOver_41 fk_X8_18_7 hs h2 ?_
      refine q_callV 8 dX8_plainOver_44 mk_X8_58 rfl hqK (c_X9_turned l G Z q f st c d hqK q0 q1 q2 q3 hN hd) rfl np_X9_turned (by decide) (by decide) (by decide) (Nat.le_of_ble_eq_true rfl) (kA (fun r Z1 h => ?_))
      rcases r with _ | r
      · exact q_areturnN dX8_plainOver_47 rfl (Or.inl ⟨_, rfl⟩) (by decide) (by decide) h
      · exact q_areturn dX8_plainOver_47 rfl (Or.inl ⟨_, rfl⟩) (by decide) (by decide) h
    rcases List.mem_cons.mp hq with rfl | hq
    · dsimp only at c14 ⊢
      exact absurd c14 (by decide)
    exact absurd hq List.not_mem_nil
  · exact absurd rfl (c14 (5, 40) (by simp))
set_option maxHeartbeats 600000 in
set_option maxRecDepth 100000 in
theorem c_pl_8 (l : Launch) (G : Gt) (Z : Zt) (n : Int32) (s q : Nat) (hs : zK Z s = 8) (h2 : zF Z 2 s = .ref q) (f st c : Int64) (d : Int32) (hqK : zK Z q = 9) (q0 : zF Z 0 q = .long f) (q1 : zF Z 1 q = .long st) (q2 : zF Z 2 q = .int d) (q3 : zF Z 3 q = .long c) (hN : q ≠ zN Z) (hd : d = 0 ∨ d = 1) (hn : ¬ n.toInt64 = 0) : Ct l G YX8_plainOver (3, 1, 4) Z [.int 8, .ref s, .int n] (ΦA (fun r Z1 => ((c < 1 ∨ ¬ 1 ≤ n) → r = some q ∧ Z1 = Z) ∧ (¬ (c < 1 ∨ ¬ 1 ≤ n) → r = some (zN Z) ∧ Z1 = nSt Z f (st * n.toInt64) d ((c - 1) / n.toInt64 + 1)))) := by
  refine ct_of [some (.int 8), some (.ref s), some (.int n)] (by decide +kernel) (Nat.le_of_ble_eq_true rfl) rfl (fun M => ?_)
  first | refine q_aload_n dX8_plainOver_0 rfl ?_ | refine q_aload_nN dX8_plainOver_0 rfl ?_
  refine q_ifnull dX8_plainOver_1 ?_
  first | refine q_aload_n dX8_plainOver_4 rfl ?_ | refine q_aload_nN dX8_plainOver_4 rfl ?_
  refine q_getf dX8_plainOver_5 fk_X8_18_7 hs h2 ?_
  refine q_ifnonnull 13 dX8_plainOver_8 (by decide) ?_
  refine q_iload_n dX8_plainOver_13 rfl ?_
  refine q_lsw [(5, 40), (8, 48)] 57 dX8_plainOver_14 (by decide) (by decide) (by decide) (fun q hq c14 => ?_) (fun c14 => ?_)
  · rcases List.mem_cons.mp hq with rfl | hq
    · dsimp only at c14 ⊢
      exact absurd c14 (by decide)
    rcases List.mem_cons.mp hq with rfl | hq
    · dsimp only at c14 ⊢
      first | refine q_aload_n dX8_plainOver_48 rfl ?_ | refine q_aload_nN dX8_plainOver_48 rfl ?_
      refine q_getf dX8_plainOver_49 fk_X8_18_7 hs h2 ?_
      refine q_iload_n dX8_plainOver_52 rfl ?_
      refine q_callV 8 dX8_plainOver_53 mk_X8_64 rfl hqK (c_X9_every l G Z q f st c d hqK q0 q1 q2 q3 hN n hn hd) rfl np_X9_every (by decide) (by decide) (by decide) (Nat.le_of_ble_eq_true rfl) (kA (fun r Z1 h => ?_))
      rcases r with _ | r
      · exact q_areturnN dX8_plainOver_56 rfl (Or.inl ⟨_, rfl⟩) (by decide) (by decide) h
      · exact q_areturn dX8_plainOver_56 rfl (Or.inl ⟨_, rfl⟩) (by decide) (by decide) h
    exact absurd hq List.not_mem_nil
  · exact absurd rfl (c14 (8, 48) (by simp))
def sSr (Z : Zt) (a : Nat) (v2 v3 v4 v5 v6 v7 v8 : Value) : Zt := sF (sF (sF (sF (sF (sF (sF Z 2 a v2) 3 a v3) 4 a v4) 5 a v5) 6 a v6) 7 a v7) 8 a v8
set_option maxHeartbeats 600000 in
set_option maxRecDepth 100000 in
theorem c_X8_init (l : Launch) (G : Gt) (Z : Zt) (a q : Nat) (hK : zK Z a = 8) : Ct l G YX8_init (1, 0, 0) Z [.ref a, .ref q] (ΦV (fun Z1 => Z1 = sSr (sF (sF Z 0 a (.int 0)) 1 a (.int 1)) a (.ref q) .null .null .null .null (.int 0) (.long 0))) := by
  refine ct_of [some (.ref a), some (.ref q)] (by decide +kernel) (Nat.le_of_ble_eq_true rfl) rfl (fun M => ?_)
  first | refine q_aload_n dX8_init_0 rfl ?_ | refine q_aload_nN dX8_init_0 rfl ?_
  refine q_objInit dX8_init_1 ok_X8_3 oi_m oi_c (by decide) (Nat.le_of_ble_eq_true rfl) ?_
  first | refine q_aload_n dX8_init_4 rfl ?_ | refine q_aload_nN dX8_init_4 rfl ?_
  refine q_iconst (v := 0) dX8_init_5 (by decide) ?_
  refine q_putF dX8_init_6 fk_X8_11_7 rfl rfl rfl (by first | assumption | (simp only [zK_sF, zK_sI, zK_sJ, zK_sR]; assumption)) rfl rfl ?_
  first | refine q_aload_n dX8_init_9 rfl ?_ | refine q_aload_nN dX8_init_9 rfl ?_
  refine q_iconst (v := 1) dX8_init_10 (by decide) ?_
  refine q_putF dX8_init_11 fk_X8_15_7 rfl rfl rfl (by first | assumption | (simp only [zK_sF, zK_sI, zK_sJ, zK_sR]; assumption)) rfl rfl ?_
  first | refine q_aload_n dX8_init_14 rfl ?_ | refine q_aload_nN dX8_init_14 rfl ?_
  first | refine q_aload_n dX8_init_15 rfl ?_ | refine q_aload_nN dX8_init_15 rfl ?_
  refine q_putF dX8_init_16 fk_X8_18_7 rfl rfl rfl (by first | assumption | (simp only [zK_sF, zK_sI, zK_sJ, zK_sR]; assumption)) rfl rfl ?_
  first | refine q_aload_n dX8_init_19 rfl ?_ | refine q_aload_nN dX8_init_19 rfl ?_
  refine q_aconst_null dX8_init_20 ?_
  refine q_putF dX8_init_21 fk_X8_22_7 rfl rfl rfl (by first | assumption | (simp only [zK_sF, zK_sI, zK_sJ, zK_sR]; assumption)) rfl rfl ?_
  first | refine q_aload_n dX8_init_24 rfl ?_ | refine q_aload_nN dX8_init_24 rfl ?_
  refine q_aconst_null dX8_init_25 ?_
  refine q_putF dX8_init_26 fk_X8_26_7 rfl rfl rfl (by first | assumption | (simp only [zK_sF, zK_sI, zK_sJ, zK_sR]; assumption)) rfl rfl ?_
  first | refine q_aload_n dX8_init_29 rfl ?_ | refine q_aload_nN dX8_init_29 rfl ?_
  refine q_aconst_null dX8_init_30 ?_
  refine q_putF dX8_init_31 fk_X8_30_7 rfl rfl rfl (by first | assumption | (simp only [zK_sF, zK_sI, zK_sJ, zK_sR]; assumption)) rfl rfl ?_
  first | refine q_aload_n dX8_init_34 rfl ?_ | refine q_aload_nN dX8_init_34 rfl ?_
  refine q_aconst_null dX8_init_35 ?_
  refine q_putF dX8_init_36 fk_X8_33_7 rfl rfl rfl (by first | assumption | (simp only [zK_sF, zK_sI, zK_sJ, zK_sR]; assumption)) rfl rfl ?_
  first | refine q_aload_n dX8_init_39 rfl ?_ | refine q_aload_nN dX8_init_39 rfl ?_
  refine q_iconst (v := 0) dX8_init_40 (by decide) ?_
  refine q_putF dX8_init_41 fk_X8_37_7 rfl rfl rfl (by first | assumption | (simp only [zK_sF, zK_sI, zK_sJ, zK_sR]; assumption)) rfl rfl ?_
  first | refine q_aload_n dX8_init_44 rfl ?_ | refine q_aload_nN dX8_init_44 rfl ?_
  refine q_lconst (v := 0) dX8_init_45 (by decide) ?_
  refine q_putF dX8_init_46 fk_X8_40_7 rfl rfl rfl (by first | assumption | (simp only [zK_sF, zK_sI, zK_sJ, zK_sR]; assumption)) rfl rfl ?_
  exact q_return dX8_init_49 rfl (by decide) (by decide) (by unfold sSr; rfl)
set_option maxHeartbeats 600000 in
set_option maxRecDepth 100000 in
theorem c_init_row (l : Launch) (G : Gt) (Z : Zt) (a sh : Nat) (so n dp : Int32) (v : Int64) (hK : zK Z a = 8) (Ψ : Option Nat → Zt → Prop) (hd : Ct l G YX8_depthOver (1, 0, 0) (sF Z 0 a (.int so)) [.null, .null] (ΦI (fun r Z1 => Z1 = sF Z 0 a (.int so) ∧ r = dp))) (hp : Ct l G YX8_plainOver (3, 1, 4) (sF (sF Z 0 a (.int so)) 1 a (.int dp)) [.int so, .null, .int n] (ΦA Ψ)) (hΨ : ∀ r Z1, Ψ r Z1 → zK Z1 a = 8) : Ct l G YX8_init_ (4, 1, 4) Z [.ref a, .int so, .null, .null, .null, .ref sh, .int n, .long v] (ΦV (fun Z1 => ∃ rq Zp, Ψ rq Zp ∧ Z1 = sSr Zp a (va_rf rq) (.ref sh) (.null) (.null) (.null) (.int n) (.long v))) := by
  refine ct_of [some (.ref a), some (.int so), some (.null), some (.null), some (.null), some (.ref sh), some (.int n), some (.long v), none] (by decide +kernel) (Nat.le_of_ble_eq_true rfl) rfl (fun M => ?_)
  first | refine q_aload_n dX8_init__0 rfl ?_ | refine q_aload_nN dX8_init__0 rfl ?_
  refine q_objInit dX8_init__1 ok_X8_3 oi_m oi_c (by decide) (Nat.le_of_ble_eq_true rfl) ?_
  first | refine q_aload_n dX8_init__4 rfl ?_ | refine q_aload_nN dX8_init__4 rfl ?_
  refine q_iload_n dX8_init__5 rfl ?_
  refine q_putF dX8_init__6 fk_X8_11_7 rfl rfl rfl hK rfl rfl ?_
  first | refine q_aload_n dX8_init__9 rfl ?_ | refine q_aload_nN dX8_init__9 rfl ?_
  first | refine q_aload_n dX8_init__10 rfl ?_ | refine q_aload_nN dX8_init__10 rfl ?_
  first | refine q_aload_n dX8_init__11 rfl ?_ | refine q_aload_nN dX8_init__11 rfl ?_
  refine q_callS dX8_init__12 mk_X8_44 (hd) rfl np_X8_depthOver (by decide) (by decide) (by decide) (Nat.le_of_ble_eq_true rfl) (kI (fun r12 Z12 h12 => ?_))
  obtain ⟨rfl, rfl⟩ := h12
  refine q_putF dX8_init__15 fk_X8_15_7 rfl rfl rfl (by rw [zK_sF]; exact hK) rfl rfl ?_
  first | refine q_aload_n dX8_init__18 rfl ?_ | refine q_aload_nN dX8_init__18 rfl ?_
  refine q_iload_n dX8_init__19 rfl ?_
  first | refine q_aload_n dX8_init__20 rfl ?_ | refine q_aload_nN dX8_init__20 rfl ?_
  refine q_iload dX8_init__21 rfl ?_
  refine q_callS dX8_init__23 mk_X8_48 (hp) rfl np_X8_plainOver (by decide) (by decide) (by decide) (Nat.le_of_ble_eq_true rfl) (kA (fun r23 Z23 h23 => ?_))
  refine q_putF dX8_init__26 fk_X8_18_7 rfl rfl rfl (hΨ _ _ h23) (by rcases r23 with _ | r23 <;> rfl) (by rcases r23 with _ | r23 <;> rfl) ?_
  first | refine q_aload_n dX8_init__29 rfl ?_ | refine q_aload_nN dX8_init__29 rfl ?_
  first | refine q_aload dX8_init__30 rfl ?_ | refine q_aloadN dX8_init__30 rfl ?_
  refine q_putF dX8_init__32 fk_X8_22_7 rfl rfl rfl (by simp only [zK_sF]; exact hΨ _ _ h23) rfl rfl ?_
  first | refine q_aload_n dX8_init__35 rfl ?_ | refine q_aload_nN dX8_init__35 rfl ?_
  first | refine q_aload_n dX8_init__36 rfl ?_ | refine q_aload_nN dX8_init__36 rfl ?_
  refine q_putF dX8_init__37 fk_X8_26_7 rfl rfl rfl (by simp only [zK_sF]; exact hΨ _ _ h23) rfl rfl ?_
  first | refine q_aload_n dX8_init__40 rfl ?_ | refine q_aload_nN dX8_init__40 rfl ?_
  first | refine q_aload_n dX8_init__41 rfl ?_ | refine q_aload_nN dX8_init__41 rfl ?_
  refine q_putF dX8_init__42 fk_X8_30_7 rfl rfl rfl (by simp only [zK_sF]; exact hΨ _ _ h23) rfl rfl ?_
  first | refine q_aload_n dX8_init__45 rfl ?_ | refine q_aload_nN dX8_init__45 rfl ?_
  first | refine q_aload dX8_init__46 rfl ?_ | refine q_aloadN dX8_init__46 rfl ?_
  refine q_putF dX8_init__48 fk_X8_33_7 rfl rfl rfl (by simp only [zK_sF]; exact hΨ _ _ h23) rfl rfl ?_
  first | refine q_aload_n dX8_init__51 rfl ?_ | refine q_aload_nN dX8_init__51 rfl ?_
  refine q_iload dX8_init__52 rfl ?_
  refine q_putF dX8_init__54 fk_X8_37_7 rfl rfl rfl (by simp only [zK_sF]; exact hΨ _ _ h23) rfl rfl ?_
  first | refine q_aload_n dX8_init__57 rfl ?_ | refine q_aload_nN dX8_init__57 rfl ?_
  refine q_lload dX8_init__58 rfl ?_
  refine q_putF dX8_init__60 fk_X8_40_7 rfl rfl rfl (by simp only [zK_sF]; exact hΨ _ _ h23) rfl rfl ?_
  exact q_return dX8_init__63 rfl (by decide) (by decide) ⟨_, _, h23, by unfold sSr; rfl⟩
set_option maxHeartbeats 600000 in
set_option maxRecDepth 100000 in
theorem c_init_one (l : Launch) (G : Gt) (Z : Zt) (a s : Nat) (so n dp : Int32) (v : Int64) (hK : zK Z a = 8) (Ψ : Option Nat → Zt → Prop) (hd : Ct l G YX8_depthOver (1, 0, 0) (sF Z 0 a (.int so)) [.ref s, .null] (ΦI (fun r Z1 => Z1 = sF Z 0 a (.int so) ∧ r = dp))) (hp : Ct l G YX8_plainOver (3, 1, 4) (sF (sF Z 0 a (.int so)) 1 a (.int dp)) [.int so, .ref s, .int n] (ΦA Ψ)) (hΨ : ∀ r Z1, Ψ r Z1 → zK Z1 a = 8) : Ct l G YX8_init_ (4, 1, 4) Z [.ref a, .int so, .ref s, .null, .null, .null, .int n, .long v] (ΦV (fun Z1 => ∃ rq Zp, Ψ rq Zp ∧ Z1 = sSr Zp a (va_rf rq) (.null) (.ref s) (.null) (.null) (.int n) (.long v))) := by
  refine ct_of [some (.ref a), some (.int so), some (.ref s), some (.null), some (.null), some (.null), some (.int n), some (.long v), none] (by decide +kernel) (Nat.le_of_ble_eq_true rfl) rfl (fun M => ?_)
  first | refine q_aload_n dX8_init__0 rfl ?_ | refine q_aload_nN dX8_init__0 rfl ?_
  refine q_objInit dX8_init__1 ok_X8_3 oi_m oi_c (by decide) (Nat.le_of_ble_eq_true rfl) ?_
  first | refine q_aload_n dX8_init__4 rfl ?_ | refine q_aload_nN dX8_init__4 rfl ?_
  refine q_iload_n dX8_init__5 rfl ?_
  refine q_putF dX8_init__6 fk_X8_11_7 rfl rfl rfl hK rfl rfl ?_
  first | refine q_aload_n dX8_init__9 rfl ?_ | refine q_aload_nN dX8_init__9 rfl ?_
  first | refine q_aload_n dX8_init__10 rfl ?_ | refine q_aload_nN dX8_init__10 rfl ?_
  first | refine q_aload_n dX8_init__11 rfl ?_ | refine q_aload_nN dX8_init__11 rfl ?_
  refine q_callS dX8_init__12 mk_X8_44 (hd) rfl np_X8_depthOver (by decide) (by decide) (by decide) (Nat.le_of_ble_eq_true rfl) (kI (fun r12 Z12 h12 => ?_))
  obtain ⟨rfl, rfl⟩ := h12
  refine q_putF dX8_init__15 fk_X8_15_7 rfl rfl rfl (by rw [zK_sF]; exact hK) rfl rfl ?_
  first | refine q_aload_n dX8_init__18 rfl ?_ | refine q_aload_nN dX8_init__18 rfl ?_
  refine q_iload_n dX8_init__19 rfl ?_
  first | refine q_aload_n dX8_init__20 rfl ?_ | refine q_aload_nN dX8_init__20 rfl ?_
  refine q_iload dX8_init__21 rfl ?_
  refine q_callS dX8_init__23 mk_X8_48 (hp) rfl np_X8_plainOver (by decide) (by decide) (by decide) (Nat.le_of_ble_eq_true rfl) (kA (fun r23 Z23 h23 => ?_))
  refine q_putF dX8_init__26 fk_X8_18_7 rfl rfl rfl (hΨ _ _ h23) (by rcases r23 with _ | r23 <;> rfl) (by rcases r23 with _ | r23 <;> rfl) ?_
  first | refine q_aload_n dX8_init__29 rfl ?_ | refine q_aload_nN dX8_init__29 rfl ?_
  first | refine q_aload dX8_init__30 rfl ?_ | refine q_aloadN dX8_init__30 rfl ?_
  refine q_putF dX8_init__32 fk_X8_22_7 rfl rfl rfl (by simp only [zK_sF]; exact hΨ _ _ h23) rfl rfl ?_
  first | refine q_aload_n dX8_init__35 rfl ?_ | refine q_aload_nN dX8_init__35 rfl ?_
  first | refine q_aload_n dX8_init__36 rfl ?_ | refine q_aload_nN dX8_init__36 rfl ?_
  refine q_putF dX8_init__37 fk_X8_26_7 rfl rfl rfl (by simp only [zK_sF]; exact hΨ _ _ h23) rfl rfl ?_
  first | refine q_aload_n dX8_init__40 rfl ?_ | refine q_aload_nN dX8_init__40 rfl ?_
  first | refine q_aload_n dX8_init__41 rfl ?_ | refine q_aload_nN dX8_init__41 rfl ?_
  refine q_putF dX8_init__42 fk_X8_30_7 rfl rfl rfl (by simp only [zK_sF]; exact hΨ _ _ h23) rfl rfl ?_
  first | refine q_aload_n dX8_init__45 rfl ?_ | refine q_aload_nN dX8_init__45 rfl ?_
  first | refine q_aload dX8_init__46 rfl ?_ | refine q_aloadN dX8_init__46 rfl ?_
  refine q_putF dX8_init__48 fk_X8_33_7 rfl rfl rfl (by simp only [zK_sF]; exact hΨ _ _ h23) rfl rfl ?_
  first | refine q_aload_n dX8_init__51 rfl ?_ | refine q_aload_nN dX8_init__51 rfl ?_
  refine q_iload dX8_init__52 rfl ?_
  refine q_putF dX8_init__54 fk_X8_37_7 rfl rfl rfl (by simp only [zK_sF]; exact hΨ _ _ h23) rfl rfl ?_
  first | refine q_aload_n dX8_init__57 rfl ?_ | refine q_aload_nN dX8_init__57 rfl ?_
  refine q_lload dX8_init__58 rfl ?_
  refine q_putF dX8_init__60 fk_X8_40_7 rfl rfl rfl (by simp only [zK_sF]; exact hΨ _ _ h23) rfl rfl ?_
  exact q_return dX8_init__63 rfl (by decide) (by decide) ⟨_, _, h23, by unfold sSr; rfl⟩
set_option maxHeartbeats 600000 in
set_option maxRecDepth 100000 in
theorem c_init_two (l : Launch) (G : Gt) (Z : Zt) (a s t : Nat) (so n dp : Int32) (v : Int64) (hK : zK Z a = 8) (Ψ : Option Nat → Zt → Prop) (hd : Ct l G YX8_depthOver (1, 0, 0) (sF Z 0 a (.int so)) [.ref s, .ref t] (ΦI (fun r Z1 => Z1 = sF Z 0 a (.int so) ∧ r = dp))) (hp : Ct l G YX8_plainOver (3, 1, 4) (sF (sF Z 0 a (.int so)) 1 a (.int dp)) [.int so, .ref s, .int n] (ΦA Ψ)) (hΨ : ∀ r Z1, Ψ r Z1 → zK Z1 a = 8) : Ct l G YX8_init_ (4, 1, 4) Z [.ref a, .int so, .ref s, .ref t, .null, .null, .int n, .long v] (ΦV (fun Z1 => ∃ rq Zp, Ψ rq Zp ∧ Z1 = sSr Zp a (va_rf rq) (.null) (.ref s) (.ref t) (.null) (.int n) (.long v))) := by
  refine ct_of [some (.ref a), some (.int so), some (.ref s), some (.ref t), some (.null), some (.null), some (.int n), some (.long v), none] (by decide +kernel) (Nat.le_of_ble_eq_true rfl) rfl (fun M => ?_)
  first | refine q_aload_n dX8_init__0 rfl ?_ | refine q_aload_nN dX8_init__0 rfl ?_
  refine q_objInit dX8_init__1 ok_X8_3 oi_m oi_c (by decide) (Nat.le_of_ble_eq_true rfl) ?_
  first | refine q_aload_n dX8_init__4 rfl ?_ | refine q_aload_nN dX8_init__4 rfl ?_
  refine q_iload_n dX8_init__5 rfl ?_
  refine q_putF dX8_init__6 fk_X8_11_7 rfl rfl rfl hK rfl rfl ?_
  first | refine q_aload_n dX8_init__9 rfl ?_ | refine q_aload_nN dX8_init__9 rfl ?_
  first | refine q_aload_n dX8_init__10 rfl ?_ | refine q_aload_nN dX8_init__10 rfl ?_
  first | refine q_aload_n dX8_init__11 rfl ?_ | refine q_aload_nN dX8_init__11 rfl ?_
  refine q_callS dX8_init__12 mk_X8_44 (hd) rfl np_X8_depthOver (by decide) (by decide) (by decide) (Nat.le_of_ble_eq_true rfl) (kI (fun r12 Z12 h12 => ?_))
  obtain ⟨rfl, rfl⟩ := h12
  refine q_putF dX8_init__15 fk_X8_15_7 rfl rfl rfl (by rw [zK_sF]; exact hK) rfl rfl ?_
  first | refine q_aload_n dX8_init__18 rfl ?_ | refine q_aload_nN dX8_init__18 rfl ?_
  refine q_iload_n dX8_init__19 rfl ?_
  first | refine q_aload_n dX8_init__20 rfl ?_ | refine q_aload_nN dX8_init__20 rfl ?_
  refine q_iload dX8_init__21 rfl ?_
  refine q_callS dX8_init__23 mk_X8_48 (hp) rfl np_X8_plainOver (by decide) (by decide) (by decide) (Nat.le_of_ble_eq_true rfl) (kA (fun r23 Z23 h23 => ?_))
  refine q_putF dX8_init__26 fk_X8_18_7 rfl rfl rfl (hΨ _ _ h23) (by rcases r23 with _ | r23 <;> rfl) (by rcases r23 with _ | r23 <;> rfl) ?_
  first | refine q_aload_n dX8_init__29 rfl ?_ | refine q_aload_nN dX8_init__29 rfl ?_
  first | refine q_aload dX8_init__30 rfl ?_ | refine q_aloadN dX8_init__30 rfl ?_
  refine q_putF dX8_init__32 fk_X8_22_7 rfl rfl rfl (by simp only [zK_sF]; exact hΨ _ _ h23) rfl rfl ?_
  first | refine q_aload_n dX8_init__35 rfl ?_ | refine q_aload_nN dX8_init__35 rfl ?_
  first | refine q_aload_n dX8_init__36 rfl ?_ | refine q_aload_nN dX8_init__36 rfl ?_
  refine q_putF dX8_init__37 fk_X8_26_7 rfl rfl rfl (by simp only [zK_sF]; exact hΨ _ _ h23) rfl rfl ?_
  first | refine q_aload_n dX8_init__40 rfl ?_ | refine q_aload_nN dX8_init__40 rfl ?_
  first | refine q_aload_n dX8_init__41 rfl ?_ | refine q_aload_nN dX8_init__41 rfl ?_
  refine q_putF dX8_init__42 fk_X8_30_7 rfl rfl rfl (by simp only [zK_sF]; exact hΨ _ _ h23) rfl rfl ?_
  first | refine q_aload_n dX8_init__45 rfl ?_ | refine q_aload_nN dX8_init__45 rfl ?_
  first | refine q_aload dX8_init__46 rfl ?_ | refine q_aloadN dX8_init__46 rfl ?_
  refine q_putF dX8_init__48 fk_X8_33_7 rfl rfl rfl (by simp only [zK_sF]; exact hΨ _ _ h23) rfl rfl ?_
  first | refine q_aload_n dX8_init__51 rfl ?_ | refine q_aload_nN dX8_init__51 rfl ?_
  refine q_iload dX8_init__52 rfl ?_
  refine q_putF dX8_init__54 fk_X8_37_7 rfl rfl rfl (by simp only [zK_sF]; exact hΨ _ _ h23) rfl rfl ?_
  first | refine q_aload_n dX8_init__57 rfl ?_ | refine q_aload_nN dX8_init__57 rfl ?_
  refine q_lload dX8_init__58 rfl ?_
  refine q_putF dX8_init__60 fk_X8_40_7 rfl rfl rfl (by simp only [zK_sF]; exact hΨ _ _ h23) rfl rfl ?_
  exact q_return dX8_init__63 rfl (by decide) (by decide) ⟨_, _, h23, by unfold sSr; rfl⟩
set_option maxHeartbeats 600000 in
set_option maxRecDepth 100000 in
theorem c_init_pass (l : Launch) (G : Gt) (Z : Zt) (a s f : Nat) (so n dp : Int32) (v : Int64) (hK : zK Z a = 8) (Ψ : Option Nat → Zt → Prop) (hd : Ct l G YX8_depthOver (1, 0, 0) (sF Z 0 a (.int so)) [.ref s, .null] (ΦI (fun r Z1 => Z1 = sF Z 0 a (.int so) ∧ r = dp))) (hp : Ct l G YX8_plainOver (3, 1, 4) (sF (sF Z 0 a (.int so)) 1 a (.int dp)) [.int so, .ref s, .int n] (ΦA Ψ)) (hΨ : ∀ r Z1, Ψ r Z1 → zK Z1 a = 8) : Ct l G YX8_init_ (4, 1, 4) Z [.ref a, .int so, .ref s, .null, .ref f, .null, .int n, .long v] (ΦV (fun Z1 => ∃ rq Zp, Ψ rq Zp ∧ Z1 = sSr Zp a (va_rf rq) (.null) (.ref s) (.null) (.ref f) (.int n) (.long v))) := by
  refine ct_of [some (.ref a), some (.int so), some (.ref s), some (.null), some (.ref f), some (.null), some (.int n), some (.long v), none] (by decide +kernel) (Nat.le_of_ble_eq_true rfl) rfl (fun M => ?_)
  first | refine q_aload_n dX8_init__0 rfl ?_ | refine q_aload_nN dX8_init__0 rfl ?_
  refine q_objInit dX8_init__1 ok_X8_3 oi_m oi_c (by decide) (Nat.le_of_ble_eq_true rfl) ?_
  first | refine q_aload_n dX8_init__4 rfl ?_ | refine q_aload_nN dX8_init__4 rfl ?_
  refine q_iload_n dX8_init__5 rfl ?_
  refine q_putF dX8_init__6 fk_X8_11_7 rfl rfl rfl hK rfl rfl ?_
  first | refine q_aload_n dX8_init__9 rfl ?_ | refine q_aload_nN dX8_init__9 rfl ?_
  first | refine q_aload_n dX8_init__10 rfl ?_ | refine q_aload_nN dX8_init__10 rfl ?_
  first | refine q_aload_n dX8_init__11 rfl ?_ | refine q_aload_nN dX8_init__11 rfl ?_
  refine q_callS dX8_init__12 mk_X8_44 (hd) rfl np_X8_depthOver (by decide) (by decide) (by decide) (Nat.le_of_ble_eq_true rfl) (kI (fun r12 Z12 h12 => ?_))
  obtain ⟨rfl, rfl⟩ := h12
  refine q_putF dX8_init__15 fk_X8_15_7 rfl rfl rfl (by rw [zK_sF]; exact hK) rfl rfl ?_
  first | refine q_aload_n dX8_init__18 rfl ?_ | refine q_aload_nN dX8_init__18 rfl ?_
  refine q_iload_n dX8_init__19 rfl ?_
  first | refine q_aload_n dX8_init__20 rfl ?_ | refine q_aload_nN dX8_init__20 rfl ?_
  refine q_iload dX8_init__21 rfl ?_
  refine q_callS dX8_init__23 mk_X8_48 (hp) rfl np_X8_plainOver (by decide) (by decide) (by decide) (Nat.le_of_ble_eq_true rfl) (kA (fun r23 Z23 h23 => ?_))
  refine q_putF dX8_init__26 fk_X8_18_7 rfl rfl rfl (hΨ _ _ h23) (by rcases r23 with _ | r23 <;> rfl) (by rcases r23 with _ | r23 <;> rfl) ?_
  first | refine q_aload_n dX8_init__29 rfl ?_ | refine q_aload_nN dX8_init__29 rfl ?_
  first | refine q_aload dX8_init__30 rfl ?_ | refine q_aloadN dX8_init__30 rfl ?_
  refine q_putF dX8_init__32 fk_X8_22_7 rfl rfl rfl (by simp only [zK_sF]; exact hΨ _ _ h23) rfl rfl ?_
  first | refine q_aload_n dX8_init__35 rfl ?_ | refine q_aload_nN dX8_init__35 rfl ?_
  first | refine q_aload_n dX8_init__36 rfl ?_ | refine q_aload_nN dX8_init__36 rfl ?_
  refine q_putF dX8_init__37 fk_X8_26_7 rfl rfl rfl (by simp only [zK_sF]; exact hΨ _ _ h23) rfl rfl ?_
  first | refine q_aload_n dX8_init__40 rfl ?_ | refine q_aload_nN dX8_init__40 rfl ?_
  first | refine q_aload_n dX8_init__41 rfl ?_ | refine q_aload_nN dX8_init__41 rfl ?_
  refine q_putF dX8_init__42 fk_X8_30_7 rfl rfl rfl (by simp only [zK_sF]; exact hΨ _ _ h23) rfl rfl ?_
  first | refine q_aload_n dX8_init__45 rfl ?_ | refine q_aload_nN dX8_init__45 rfl ?_
  first | refine q_aload dX8_init__46 rfl ?_ | refine q_aloadN dX8_init__46 rfl ?_
  refine q_putF dX8_init__48 fk_X8_33_7 rfl rfl rfl (by simp only [zK_sF]; exact hΨ _ _ h23) rfl rfl ?_
  first | refine q_aload_n dX8_init__51 rfl ?_ | refine q_aload_nN dX8_init__51 rfl ?_
  refine q_iload dX8_init__52 rfl ?_
  refine q_putF dX8_init__54 fk_X8_37_7 rfl rfl rfl (by simp only [zK_sF]; exact hΨ _ _ h23) rfl rfl ?_
  first | refine q_aload_n dX8_init__57 rfl ?_ | refine q_aload_nN dX8_init__57 rfl ?_
  refine q_lload dX8_init__58 rfl ?_
  refine q_putF dX8_init__60 fk_X8_40_7 rfl rfl rfl (by simp only [zK_sF]; exact hΨ _ _ h23) rfl rfl ?_
  exact q_return dX8_init__63 rfl (by decide) (by decide) ⟨_, _, h23, by unfold sSr; rfl⟩
