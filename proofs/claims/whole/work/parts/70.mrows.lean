/-- row r holds L -/
def RW (e : St) (row : Nat) (L : List Int64) : Prop := e.1 30 row = nI L.length ∧ At (e.2 29) (201 * row) L
/-- only that row changed -/
def EX (row : Nat) (e e1 : St) : Prop := (∀ k, k ≠ 30 → e1.1 k = e.1 k) ∧ (∀ r, r ≠ row → e1.1 30 r = e.1 30 r) ∧ (∀ i, ¬ (201 * row ≤ i ∧ i < 201 * row + 201) → e1.2 29 i = e.2 29 i)
theorem EX.rf (row : Nat) (e : St) : EX row e e := ⟨fun _ _ => rfl, fun _ _ => rfl, fun _ _ => rfl⟩
theorem EX.tr {row : Nat} {e e1 e2 : St} (h : EX row e e1) (k : EX row e1 e2) : EX row e e2 := ⟨fun a b => (k.1 a b).trans (h.1 a b), fun a b => (k.2.1 a b).trans (h.2.1 a b), fun a b => (k.2.2 a b).trans (h.2.2 a b)⟩
def pE (e : St) (row n : Nat) (v : Int64) : St := pI (pJ e 29 (201 * row + n) v) 30 row (nI (n + 1))
theorem EX_pE {row n : Nat} {e : St} {v : Int64} (hn : n < 201) : EX row e (pE e row n v) := by
  refine ⟨fun k hk => ?_, fun r hr => ?_, fun i hi => ?_⟩
  · unfold pE; rw [pI_ne hk]; rfl
  · unfold pE; rw [pI_1, if_neg (fun z => hr z.2)]; rfl
  · unfold pE; rw [pI_2, pJ_2, if_neg (by omega)]
theorem EX_0 {row : Nat} {e : St} {v : Int32} : EX row e (pI e 30 row v) := by
  refine ⟨fun k hk => ?_, fun r hr => ?_, fun i hi => rfl⟩
  · rw [pI_ne hk]
  · rw [pI_1, if_neg (fun z => hr z.2)]
theorem RW_pE {row : Nat} {e : St} {v : Int64} {L : List Int64} (h : RW e row L) : RW (pE e row L.length v) row (L ++ [v]) := by
  unfold pE
  refine ⟨by rw [pI_at, List.length_append]; rfl, ?_⟩
  rw [pI_2]
  refine At_snoc (At_same h.2 (fun j h1 h2 => ?_)) ?_
  · rw [pJ_2, if_neg (by omega)]
  · rw [pJ_2, if_pos ⟨rfl, rfl⟩]
theorem RW_0 {row : Nat} {e : St} : RW (pI e 30 row 0) row [] := ⟨by rw [pI_at]; rfl, At_nil⟩
theorem RW_ex {row r : Nat} {e e1 : St} {L : List Int64} (h : RW e r L) (k : EX row e e1) (hr : r ≠ row) (hl : L.length ≤ 201) : RW e1 r L := by
  refine ⟨(k.2.1 r hr).trans h.1, At_same h.2 (fun j h1 h2 => k.2.2 j ?_)⟩
  rcases Nat.lt_or_gt_of_ne hr with c | c <;> omega
/-- so far the row holds A and the first k of f -/
def LQ (row : Nat) (e : St) (A : List Int64) (f : Nat → Int64) (k : Nat) (e1 : St) : Prop := EX row e e1 ∧ RW e1 row (A ++ (List.range k).map f)
theorem LQ_len (A : List Int64) (f : Nat → Int64) (k : Nat) : (A ++ (List.range k).map f).length = A.length + k := by rw [List.length_append, List.length_map, List.length_range]
theorem LQ.n {row : Nat} {e e1 : St} {A : List Int64} {f : Nat → Int64} {k : Nat} (h : LQ row e A f k e1) : e1.1 30 row = nI (A.length + k) := by rw [h.2.1, LQ_len]
theorem LQ.put {row : Nat} {e e1 : St} {A : List Int64} {f : Nat → Int64} {k : Nat} (h : LQ row e A f k e1) (hk : A.length + k < 201) : LQ row e A f (k + 1) (pE e1 row (A.length + k) (f k)) := by
  refine ⟨h.1.tr (EX_pE hk), ?_⟩
  have := RW_pE (v := f k) h.2
  rw [LQ_len] at this
  rw [List.range_succ, List.map_append, ← List.append_assoc]
  exact this
theorem LQ_0 {row : Nat} {e e1 : St} {A : List Int64} {f : Nat → Int64} (hx : EX row e e1) (h : RW e1 row A) : LQ row e A f 0 e1 := ⟨hx, by simpa using h⟩
theorem gD {L : List Int64} {i : Nat} (hi : i < L.length) : L.getD i 0 = L[i] := by rw [List.getD_eq_getElem?_getD, List.getElem?_eq_getElem hi, Option.getD_some]
theorem getD_all (L : List Int64) : (List.range L.length).map (fun i => L.getD i 0) = L := by
  refine List.ext_getElem (by rw [List.length_map, List.length_range]) (fun i h1 h2 => ?_)
  rw [List.getElem_map, List.getElem_range, gD h2]
theorem At_getD {g : Nat → Int64} {o : Nat} {L : List Int64} (h : At g o L) {i : Nat} (hi : i < L.length) : g (o + i) = L.getD i 0 := by
  rw [gD hi]; exact At_get h hi
set_option maxHeartbeats 600000 in
set_option maxRecDepth 100000 in
theorem mc_put (l : Launch) (G : Gt) (Z0 : Zt) (y : Nat) (σ e : St) (hM : MR Z0 y σ e) (row n : Nat) (hrow : row < 16) (hn : e.1 30 row = nI n) (hn2 : n < 201) (v : Int64) : Ct l G YX12_put (0, 0, 0) Z0 [.ref y, .int (nI row), .long v] (ΦV (fun Z1 => MF y Z0 Z1 ∧ MR Z1 y σ (pE e row n v))) := by
  refine ct_of [some (.ref y), some (.int (nI row)), some (.long v), none] (by decide +kernel) (Nat.le_of_ble_eq_true rfl) rfl (fun M => ?_)
  have hF := MF.rf y Z0
  first | refine q_aload_n dX12_put_0 rfl ?_ | refine q_aload_nN dX12_put_0 rfl ?_
  refine q_getf dX12_put_1 fk_X12_81_11 hM.K (hM.a 29 (by decide) (by decide)) ?_
  refine q_sipush (v := 201) dX12_put_4 (by decide) ?_
  refine q_iload_n dX12_put_7 rfl ?_
  refine q_imul dX12_put_8 ?_
  first | refine q_aload_n dX12_put_9 rfl ?_ | refine q_aload_nN dX12_put_9 rfl ?_
  refine q_getf dX12_put_10 fk_X12_84_11 hM.K (hM.a 30 (by decide) (by decide)) ?_
  refine q_iload_n dX12_put_13 rfl ?_
  refine m_ialdx 30 (row) hM dX12_put_14 (by decide) rfl rfl rfl (show row < 16 by omega) ?_
  rw [hn]
  refine q_iadd dX12_put_15 ?_
  refine q_lload_n dX12_put_16 rfl ?_
  refine m_lastx 29 (201 * row + n) hM dX12_put_17 (by decide) rfl rfl (by rw [show (201 : Int32) = nI 201 from rfl, pk_mul, nI_add]) (show 201 * row + n < 3216 by omega) (fun Z hM hF1 => ?_)
  replace hF := hF.tr hF1
  first | refine q_aload_n dX12_put_18 rfl ?_ | refine q_aload_nN dX12_put_18 rfl ?_
  refine q_getf dX12_put_19 fk_X12_84_11 hM.K (hM.a 30 (by decide) (by decide)) ?_
  refine q_iload_n dX12_put_22 rfl ?_
  refine q_dup2_11 dX12_put_23 rfl rfl ?_
  refine m_ialdx 30 (row) hM dX12_put_24 (by decide) rfl rfl rfl (show row < 16 by omega) ?_
  rw [show (pJ e 29 (201 * row + n) v).1 30 row = e.1 30 row from rfl, hn]
  refine q_iconst (v := 1) dX12_put_25 (by decide) ?_
  refine q_iadd dX12_put_26 ?_
  refine m_iastx 30 (row) hM dX12_put_27 (by decide) rfl rfl rfl (show row < 16 by omega) (fun Z hM hF1 => ?_)
  replace hF := hF.tr hF1
  rw [nI_1] at hM
  exact q_return dX12_put_28 rfl (by decide) (by decide) ⟨hF, hM⟩
set_option maxHeartbeats 600000 in
set_option maxRecDepth 100000 in
theorem misIn_loop (l : Launch) (G : Gt) (M : Mt) (Z : Zt) (y row : Nat) (hrow : row < 16) (σ e : St) (hM : MR Z y σ e) (L : List Int64) (hr : RW e row L) (hl : L.length ≤ 200) (v : Int64) : ∀ (m k : Nat), k + m = L.length → (∀ (i : Nat) (h : i < L.length), i < k → L[i] ≠ v) → Jd l G YX12_isIn (0, 0, 0) M Z 0 0 (Qm G (0, 0, 0) M (ΦI (fun r Z1 => Z1 = Z ∧ rb r (L.contains v = true)))) 3 [some (.ref y), some (.int (nI row)), some (.long v), none, some (.int (nI k))] [] := by
  intro m
  induction m with
  | zero =>
    intro k hk hn
    refine q_iload dX12_isIn_3 rfl ?_
    first | refine q_aload_n dX12_isIn_5 rfl ?_ | refine q_aload_nN dX12_isIn_5 rfl ?_
    refine q_getf dX12_isIn_6 fk_X12_84_11 hM.K (hM.a 30 (by decide) (by decide)) ?_
    refine q_iload_n dX12_isIn_9 rfl ?_
    refine m_ialdx 30 (row) hM dX12_isIn_10 (by decide) rfl rfl rfl (show row < 16 by omega) ?_
    rw [hr.1]
    refine q_icmp_ge 40 dX12_isIn_11 (by decide) (fun c11 => ?_) (fun c11 => absurd (show nI L.length ≤ nI k from nI_le (by omega) (by omega)) c11)
    refine q_iconst (v := 0) dX12_isIn_40 (by decide) ?_
    refine q_zreturn dX12_isIn_41 rfl rfl (by decide) (by decide) ⟨rfl, rb_0 (fun z => ?_)⟩
    rw [List.contains_iff_mem, List.mem_iff_getElem] at z
    obtain ⟨i, h1, h2⟩ := z
    exact hn i h1 (by omega) h2
  | succ m ih =>
    intro k hk hn
    refine q_iload dX12_isIn_3 rfl ?_
    first | refine q_aload_n dX12_isIn_5 rfl ?_ | refine q_aload_nN dX12_isIn_5 rfl ?_
    refine q_getf dX12_isIn_6 fk_X12_84_11 hM.K (hM.a 30 (by decide) (by decide)) ?_
    refine q_iload_n dX12_isIn_9 rfl ?_
    refine m_ialdx 30 (row) hM dX12_isIn_10 (by decide) rfl rfl rfl (show row < 16 by omega) ?_
    rw [hr.1]
    refine q_icmp_ge 40 dX12_isIn_11 (by decide) (fun c11 => absurd c11 (nI_ge (by omega) (by omega))) (fun c11 => ?_)
    first | refine q_aload_n dX12_isIn_14 rfl ?_ | refine q_aload_nN dX12_isIn_14 rfl ?_
    refine q_getf dX12_isIn_15 fk_X12_81_11 hM.K (hM.a 29 (by decide) (by decide)) ?_
    refine q_sipush (v := 201) dX12_isIn_18 (by decide) ?_
    refine q_iload_n dX12_isIn_21 rfl ?_
    refine q_imul dX12_isIn_22 ?_
    refine q_iload dX12_isIn_23 rfl ?_
    refine q_iadd dX12_isIn_25 ?_
    refine m_laldx 29 (201 * row + k) hM dX12_isIn_26 (by decide) rfl rfl (by rw [show (201 : Int32) = nI 201 from rfl, pk_mul, nI_add]) (show 201 * row + k < 3216 by omega) ?_
    rw [At_get hr.2 (show k < L.length by omega)]
    refine q_lload_n dX12_isIn_27 rfl ?_
    refine q_lcmp_ne 34 dX12_isIn_28 dX12_isIn_29 (by decide) (fun c28 => ?_) (fun c28 => ?_)
    · refine q_iinc 1 (ls' := [_, _, _, _, _]) dX12_isIn_34 rfl (by decide) rfl rfl (Nat.le_of_ble_eq_true rfl) (by decide) ?_
      refine q_goto 3 dX12_isIn_37 (by decide) ?_
      rw [nI_1]
      exact ih (k + 1) (by omega) (fun i h hi => by
        rcases Nat.lt_succ_iff_lt_or_eq.mp hi with c | c
        · exact hn i h c
        · subst c; exact c28)
    · refine q_iconst (v := 1) dX12_isIn_32 (by decide) ?_
      exact q_zreturn dX12_isIn_33 rfl rfl (by decide) (by decide) ⟨rfl, rb_1 (by rw [List.contains_iff_mem, ← c28]; exact List.getElem_mem _)⟩
set_option maxHeartbeats 600000 in
set_option maxRecDepth 100000 in
theorem mc_isIn (l : Launch) (G : Gt) (Z : Zt) (y : Nat) (σ e : St) (hM : MR Z y σ e) (row : Nat) (hrow : row < 16) (L : List Int64) (hr : RW e row L) (hl : L.length ≤ 200) (v : Int64) : Ct l G YX12_isIn (0, 0, 0) Z [.ref y, .int (nI row), .long v] (ΦI (fun r Z1 => Z1 = Z ∧ rb r (L.contains v = true))) := by
  refine ct_of [some (.ref y), some (.int (nI row)), some (.long v), none, none] (by decide +kernel) (Nat.le_of_ble_eq_true rfl) rfl (fun M => ?_)
  refine q_iconst (v := 0) dX12_isIn_0 (by decide) ?_
  refine q_istore (ls' := [_, _, _, _, _]) dX12_isIn_1 rfl rfl (Nat.le_of_ble_eq_true rfl) (by decide) ?_
  exact misIn_loop l G M Z y row hrow σ e hM L hr hl v L.length 0 (by omega) (fun i h hi => by omega)
theorem xr_lt {x y : Int64} : (x ^^^ (-9223372036854775808)) < (y ^^^ (-9223372036854775808)) ↔ uN x < uN y := by
  rw [← Int64.not_le, uN_le]; omega
theorem xr_eq {x y : Int64} : (x ^^^ (-9223372036854775808)) = (y ^^^ (-9223372036854775808)) ↔ x = y := by
  refine ⟨fun h => uN_inj ?_, fun h => by rw [h]⟩
  have a := (uN_le x y).mp (by rw [h]; exact Int64.le_refl _)
  have b := (uN_le y x).mp (by rw [h]; exact Int64.le_refl _)
  omega
set_option maxHeartbeats 600000 in
set_option maxRecDepth 100000 in
theorem mc_isNearer (l : Launch) (G : Gt) (Z : Zt) (p q v : Int64) : Ct l G YX12_isNearer (1, 0, 0) Z [.long p, .long q, .long v] (ΦI (fun r Z1 => Z1 = Z ∧ rb r (nr v p q))) := by
  refine ct_of [some (.long p), none, some (.long q), none, some (.long v), none, none, none, none, none] (by decide +kernel) (Nat.le_of_ble_eq_true rfl) rfl (fun M => ?_)
  refine q_lload_n dX12_isNearer_0 rfl ?_
  refine q_lload dX12_isNearer_1 rfl ?_
  refine q_callS dX12_isNearer_3 mk_X12_190 (mc_far l G _ p v) rfl np_X12_far (by decide) (by decide) (by decide) (Nat.le_of_ble_eq_true rfl) (kL (fun r3 Z3 h3 => ?_))
  obtain ⟨e3, h3⟩ := h3
  rw [e3, h3]
  refine q_ldc2 dX12_isNearer_6 kl_X12_193 ?_
  refine q_lxor dX12_isNearer_9 ?_
  refine q_lstore (ls' := [_, _, _, _, _, _, _, _, _, _]) dX12_isNearer_10 rfl rfl (Nat.le_of_ble_eq_true rfl) (by decide) ?_
  refine q_lload_n dX12_isNearer_12 rfl ?_
  refine q_lload dX12_isNearer_13 rfl ?_
  refine q_callS dX12_isNearer_15 mk_X12_190 (mc_far l G _ q v) rfl np_X12_far (by decide) (by decide) (by decide) (Nat.le_of_ble_eq_true rfl) (kL (fun r15 Z15 h15 => ?_))
  obtain ⟨e15, h15⟩ := h15
  rw [e15, h15]
  refine q_ldc2 dX12_isNearer_18 kl_X12_193 ?_
  refine q_lxor dX12_isNearer_21 ?_
  refine q_lstore (ls' := [_, _, _, _, _, _, _, _, _, _]) dX12_isNearer_22 rfl rfl (Nat.le_of_ble_eq_true rfl) (by decide) ?_
  refine q_lload dX12_isNearer_24 rfl ?_
  refine q_lload dX12_isNearer_26 rfl ?_
  refine q_lcmp_eq 48 dX12_isNearer_28 dX12_isNearer_29 (by decide) (fun c28 => ?_) (fun c28 => ?_)
  · refine q_lload_n dX12_isNearer_48 rfl ?_
    refine q_lload_n dX12_isNearer_49 rfl ?_
    refine q_lcmp_ge 58 dX12_isNearer_50 dX12_isNearer_51 (by decide) (fun c50 => ?_) (fun c50 => ?_)
    · refine q_iconst (v := 0) dX12_isNearer_58 (by decide) ?_
      exact q_zreturn dX12_isNearer_59 rfl rfl (by decide) (by decide) ⟨rfl, rb_0 (fun z => z.elim (fun u => absurd u (by rw [xr_eq.mp c28]; omega)) (fun u => absurd u.2 (Int64.not_lt.mpr c50)))⟩
    · refine q_iconst (v := 1) dX12_isNearer_54 (by decide) ?_
      refine q_goto 59 dX12_isNearer_55 (by decide) ?_
      exact q_zreturn dX12_isNearer_59 rfl rfl (by decide) (by decide) ⟨rfl, rb_1 (Or.inr ⟨xr_eq.mp c28, Int64.not_le.mp c50⟩)⟩
  · refine q_lload dX12_isNearer_32 rfl ?_
    refine q_lload dX12_isNearer_34 rfl ?_
    refine q_lcmp_ge 44 dX12_isNearer_36 dX12_isNearer_37 (by decide) (fun c36 => ?_) (fun c36 => ?_)
    · refine q_iconst (v := 0) dX12_isNearer_44 (by decide) ?_
      refine q_goto 59 dX12_isNearer_45 (by decide) ?_
      exact q_zreturn dX12_isNearer_59 rfl rfl (by decide) (by decide) ⟨rfl, rb_0 (fun z => z.elim (fun u => absurd (xr_lt.mpr u) (Int64.not_lt.mpr c36)) (fun u => c28 (xr_eq.mpr u.1)))⟩
    · refine q_iconst (v := 1) dX12_isNearer_40 (by decide) ?_
      refine q_goto 59 dX12_isNearer_41 (by decide) ?_
      exact q_zreturn dX12_isNearer_59 rfl rfl (by decide) (by decide) ⟨rfl, rb_1 (Or.inl (xr_lt.mp (Int64.not_le.mp c36)))⟩
