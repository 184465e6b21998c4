def evN (m n : Nat) : Nat := if n = 0 then 0 else (n - 1) / m + 1
def evL (m : Nat) (L : List Int64) : List Int64 := (List.range (evN m L.length)).map (fun j => L.getD (j * m) 0)
theorem evN_eq {m n k : Nat} (hm : 1 ≤ m) (h1 : n ≤ k * m) (h2 : k = 0 ∨ (k - 1) * m < n) : evN m n = k := by
  unfold evN
  rcases h2 with h2 | h2
  · subst h2
    have : n = 0 := by omega
    rw [if_pos this]
  · have hn : n ≠ 0 := by omega
    have hk : k ≠ 0 := fun e => by subst e; simp at h1; exact hn h1
    rw [if_neg hn]
    have : (n - 1) / m = k - 1 := Nat.div_eq_of_lt_le (by omega) (by rw [Nat.sub_add_cancel (by omega)]; omega)
    omega
theorem evN_le {m n : Nat} (hm : 1 ≤ m) : evN m n ≤ n := by
  unfold evN
  split
  · omega
  · have : (n - 1) / m ≤ n - 1 := Nat.div_le_self _ _
    omega
def selL (b : Bool) (L2 L1 : List Int64) : List Int64 := L1.filter (fun x => L2.contains x == b)
theorem sel_len (b : Bool) (L2 L1 : List Int64) : (selL b L2 L1).length ≤ L1.length := List.length_filter_le _ _
def spL (f s : Int64) (d : Int32) (n : Nat) : List Int64 := (List.range n).map (fun i => stAt f s d (lN i))
theorem fnd_in {g : Nat → Int64} {o : Nat} {L : List Int64} {x : Int64} {r : Int32} (hA : At g o L) (hl : o + L.length < 2 ^ 31) (h : fnd g o (o + L.length) x r) : (r < 0 → L.contains x = false) ∧ (¬ r < 0 → L.contains x = true) := by
  rcases h with ⟨i, h1, h2, h3, h4, rfl⟩ | ⟨h1, rfl⟩
  · refine ⟨fun z => absurd z (nI_pos (by omega)), fun _ => ?_⟩
    rw [List.contains_iff_mem]
    have := At_get hA (i := i - o) (by omega)
    rw [show o + (i - o) = i by omega, h3] at this
    rw [this]; exact List.getElem_mem _
  · refine ⟨fun _ => ?_, fun z => absurd (by decide) z⟩
    rw [← Bool.not_eq_true, List.contains_iff_mem]
    intro hm
    obtain ⟨i, hi, he⟩ := List.getElem_of_mem hm
    exact h1 (o + i) (by omega) (by omega) (by rw [At_get hA hi, he])
set_option maxHeartbeats 600000 in
set_option maxRecDepth 100000 in
theorem c_X8_keepEvery (l : Launch) (G : Gt) (Z : Zt) (a p f m : Nat) (L : List Int64) (hK : zK Z a = 8) (hn7 : zF Z 7 a = .int (nI m)) (hm : 1 ≤ m) (hm2 : m ≤ 200) (hKp : zK Z p = 21) (hLp : zL Z p = 1200) (hfn : f + L.length ≤ 1200) (hL : At (zJ Z p) f L) : Ct l G YX8_keepEvery (0, 0, 0) Z [.ref a, .ref p, .int (nI f), .int (nI (f + L.length))] (ΦI (fun r Z1 => r = nI (evL m L).length ∧ ∃ g, Z1 = tJ Z p g ∧ At g f (evL m L) ∧ (∀ j, (j < f ∨ f + L.length ≤ j) → g j = zJ Z p j))) := by
  refine ct_of [some (.ref a), some (.ref p), some (.int (nI f)), some (.int (nI (f + L.length))), none, none] (by decide +kernel) (Nat.le_of_ble_eq_true rfl) rfl (fun M => ?_)
  have loop : ∀ (n k : Nat) (g : Nat → Int64) (Zc : Zt), Zc = tJ Z p g → L.length - k ≤ n → At g f ((List.range k).map (fun j => L.getD (j * m) 0)) → (∀ j, (j < f ∨ f + k ≤ j) → g j = zJ Z p j) → (k = 0 ∨ (k - 1) * m < L.length) → k ≤ L.length → k ≤ k * m → Jd l G YX8_keepEvery (0, 0, 0) M Zc 0 0 (Qm G (0, 0, 0) M (ΦI (fun r Z1 => r = nI (evL m L).length ∧ ∃ g, Z1 = tJ Z p g ∧ At g f (evL m L) ∧ (∀ j, (j < f ∨ f + L.length ≤ j) → g j = zJ Z p j)))) 6 [some (.ref a), some (.ref p), some (.int (nI f)), some (.int (nI (f + L.length))), some (.int (nI k)), some (.int (nI (f + k * m)))] [] := by
    intro n
    induction n with
    | zero =>
      intro k g Zc hZ hn hA ho hk hkl hkm
      subst hZ
      have hcl : L.length ≤ k * m := by omega
      have hev : evN m L.length = k := evN_eq hm hcl hk
      have hkb : k * m ≤ 1400 := by
        rcases hk with e | e
        · subst e; simp
        · have : k * m ≤ (k - 1) * m + m := by
            rcases Nat.eq_zero_or_pos k with e | e
            · subst e; simp
            · rw [← Nat.succ_mul, Nat.succ_eq_add_one, Nat.sub_add_cancel e]; exact Nat.le_refl _
          omega
      refine q_iload dX8_keepEvery_6 rfl ?_
      refine q_iload_n dX8_keepEvery_8 rfl ?_
      refine q_icmp_ge 44 dX8_keepEvery_9 (by decide) (fun c9 => ?_) (fun c9 => absurd c9 (not_not_intro (nI_le (by omega) (by omega))))
      refine q_iload dX8_keepEvery_44 rfl ?_
      exact q_ireturn dX8_keepEvery_46 rfl (by decide) (by decide) ⟨by rw [evL, hev]; simp, g, rfl, by rw [evL, hev]; exact hA, fun j hj => ho j (by omega)⟩
    | succ n ih =>
      intro k g Zc hZ hn hA ho hk hkl hkm
      subst hZ
      have hkb : k * m ≤ 1400 := by
        rcases hk with e | e
        · subst e; simp
        · have : k * m ≤ (k - 1) * m + m := by
            rcases Nat.eq_zero_or_pos k with e | e
            · subst e; simp
            · rw [← Nat.succ_mul, Nat.succ_eq_add_one, Nat.sub_add_cancel e]; exact Nat.le_refl _
          omega
      by_cases hcl : L.length ≤ k * m
      · have hev : evN m L.length = k := evN_eq hm hcl hk
        refine q_iload dX8_keepEvery_6 rfl ?_
        refine q_iload_n dX8_keepEvery_8 rfl ?_
        refine q_icmp_ge 44 dX8_keepEvery_9 (by decide) (fun c9 => ?_) (fun c9 => absurd c9 (not_not_intro (nI_le (by omega) (by omega))))
        refine q_iload dX8_keepEvery_44 rfl ?_
        exact q_ireturn dX8_keepEvery_46 rfl (by decide) (by decide) ⟨by rw [evL, hev]; simp, g, rfl, by rw [evL, hev]; exact hA, fun j hj => ho j (by omega)⟩
      · refine q_iload dX8_keepEvery_6 rfl ?_
        refine q_iload_n dX8_keepEvery_8 rfl ?_
        refine q_icmp_ge 44 dX8_keepEvery_9 (by decide) (fun c9 => absurd c9 (nI_ge (by omega) (by omega))) (fun c9 => ?_)
        first | refine q_aload_n dX8_keepEvery_12 rfl ?_ | refine q_aload_nN dX8_keepEvery_12 rfl ?_
        refine q_getf dX8_keepEvery_13 fk_X8_37_7 hK hn7 ?_
        refine q_if_le 44 dX8_keepEvery_16 (by decide) (fun c16 => absurd c16 (nI_nle (by omega) (by omega))) (fun c16 => ?_)
        first | refine q_aload_n dX8_keepEvery_19 rfl ?_ | refine q_aload_nN dX8_keepEvery_19 rfl ?_
        refine q_iload_n dX8_keepEvery_20 rfl ?_
        refine q_iload dX8_keepEvery_21 rfl ?_
        refine q_iadd dX8_keepEvery_23 ?_
        first | refine q_aload_n dX8_keepEvery_24 rfl ?_ | refine q_aload_nN dX8_keepEvery_24 rfl ?_
        refine q_iload dX8_keepEvery_25 rfl ?_
        refine q_lald dX8_keepEvery_27 (by rw [zK_tJ]; exact hKp) (by rw [zL_tJ, hLp]; exact vp_in_nI (by omega) (by decide)) ?_
        rw [nI_add]
        refine q_last dX8_keepEvery_28 (by rw [zK_tJ]; exact hKp) (by rw [zL_tJ, hLp]; exact vp_in_nI (by omega) (by decide)) ?_
        refine q_iinc 1 (ls' := [_, _, _, _, _, _]) dX8_keepEvery_29 rfl (by decide) rfl rfl (Nat.le_of_ble_eq_true rfl) (by decide) ?_
        refine q_iload dX8_keepEvery_32 rfl ?_
        first | refine q_aload_n dX8_keepEvery_34 rfl ?_ | refine q_aload_nN dX8_keepEvery_34 rfl ?_
        refine q_getf dX8_keepEvery_35 fk_X8_37_7 hK hn7 ?_
        refine q_iadd dX8_keepEvery_38 ?_
        refine q_istore (ls' := [_, _, _, _, _, _]) dX8_keepEvery_39 rfl rfl (Nat.le_of_ble_eq_true rfl) (by decide) ?_
        refine q_goto 6 dX8_keepEvery_41 (by decide) ?_
        have hg : g (f + k * m) = L.getD (k * m) 0 := by
          rw [ho _ (by omega), At_get hL (by omega)]; simp [List.getD_eq_getElem?_getD, List.getElem?_eq_getElem (show k * m < L.length by omega)]
        rw [nI_1, nI_add, show f + k * m + m = f + (k + 1) * m by rw [Nat.succ_mul]; omega]
        refine ih (k + 1) (vp_updL g (f + k) (g (f + k * m))) _ (by simp only [sJ_t, tJ_tJ, zJ_tJ, if_true, nI_clamp (show f + k * m < 2 ^ 31 by omega), nI_clamp (show f + k < 2 ^ 31 by omega)]) (by omega) ?_ (fun j hj => by rw [pk_uLn (by omega)]; exact ho j (by omega)) (Or.inr (by simpa using Nat.not_le.mp hcl)) (by omega) (by rw [Nat.succ_mul]; omega)
        rw [List.range_succ, List.map_append]
        exact At_snoc (At_same hA (fun j h1 h2 => by rw [pk_uLn (by simp at h2; omega)])) (by simp only [List.length_map, List.length_range]; rw [pk_uLs]; exact hg)
  refine q_iconst (v := 0) dX8_keepEvery_0 (by decide) ?_
  refine q_istore (ls' := [_, _, _, _, _, _]) dX8_keepEvery_1 rfl rfl (Nat.le_of_ble_eq_true rfl) (by decide) ?_
  refine q_iload_n dX8_keepEvery_3 rfl ?_
  refine q_istore (ls' := [_, _, _, _, _, _]) dX8_keepEvery_4 rfl rfl (Nat.le_of_ble_eq_true rfl) (by decide) ?_
  have hgo := loop L.length 0 (zJ Z p) Z (tJ_id Z p).symm (by omega) At_nil (fun j _ => rfl) (Or.inl rfl) (by omega) (by omega)
  rw [show f + 0 * m = f by simp] at hgo
  exact hgo
set_option maxHeartbeats 600000 in
set_option maxRecDepth 100000 in
theorem c_X8_keepOfTwo_join (l : Launch) (G : Gt) (Z : Zt) (a p f : Nat) (so : Int32) (L1 L2 : List Int64) (hK : zK Z a = 8) (h0 : zF Z 0 a = .int so) (hKp : zK Z p = 21) (hLp : zL Z p = 1200) (hfn : f + L1.length + L2.length ≤ 1200) (hso : so = 2) : Ct l G YX8_keepOfTwo (1, 0, 0) Z [.ref a, .ref p, .int (nI f), .int (nI (f + L1.length)), .int (nI (f + L1.length + L2.length))] (ΦI (fun r Z1 => Z1 = Z ∧ (200 < L1.length + L2.length → r = -4) ∧ (L1.length + L2.length ≤ 200 → r = nI (L1.length + L2.length)))) := by
  refine ct_of [some (.ref a), some (.ref p), some (.int (nI f)), some (.int (nI (f + L1.length))), some (.int (nI (f + L1.length + L2.length))), none, none, none] (by decide +kernel) (Nat.le_of_ble_eq_true rfl) rfl (fun M => ?_)
  first | refine q_aload_n dX8_keepOfTwo_0 rfl ?_ | refine q_aload_nN dX8_keepOfTwo_0 rfl ?_
  refine q_getf dX8_keepOfTwo_1 fk_X8_11_7 (by first | assumption | (simp only [zK_sF, zK_sI, zK_sJ, zK_sR]; assumption)) (by first | assumption | (simp only [zF_sF, zF_sI, zF_sJ, zF_sR, true_and, and_true, false_and, and_false, if_true, if_false, eq_self, reduceIte, Nat.reduceEqDiff, OfNat.ofNat_ne_zero, OfNat.zero_ne_ofNat, OfNat.ofNat_ne_one, OfNat.one_ne_ofNat, reduceCtorEq]; first | rfl | assumption)) ?_
  refine q_iconst (v := 2) dX8_keepOfTwo_4 (by decide) ?_
  refine q_icmp_ne 28 dX8_keepOfTwo_5 (by decide) (fun c5 => absurd c5 (not_not_intro hso)) (fun c5 => ?_)
  refine q_iload dX8_keepOfTwo_8 rfl ?_
  refine q_iload_n dX8_keepOfTwo_10 rfl ?_
  refine q_isub dX8_keepOfTwo_11 ?_
  refine q_sipush (v := 200) dX8_keepOfTwo_12 (by decide) ?_
  have e : nI (f + L1.length + L2.length) - nI f = nI (L1.length + L2.length) := by rw [pk_sub (by omega)]; congr 1; omega
  rw [e]
  refine q_icmp_le 23 dX8_keepOfTwo_15 (by decide) (fun c15 => ?_) (fun c15 => ?_)
  · have c15 : L1.length + L2.length ≤ 200 := (nI_leI (by omega) (by decide)).mp c15
    refine q_iload dX8_keepOfTwo_23 rfl ?_
    refine q_iload_n dX8_keepOfTwo_25 rfl ?_
    refine q_isub dX8_keepOfTwo_26 ?_
    exact q_ireturn dX8_keepOfTwo_27 rfl (by decide) (by decide) (by first | exact ⟨rfl, fun z => absurd z (by omega), fun _ => by rw [pk_sub (by omega)]; congr 1; omega⟩ | exact ⟨rfl, fun _ => rfl, fun z => absurd z (by omega)⟩)
  · have c15 : ¬ L1.length + L2.length ≤ 200 := fun z => c15 ((nI_leI (by omega) (by decide)).mpr z)
    refine q_bipush (v := (-4)) dX8_keepOfTwo_18 (by decide) ?_
    refine q_goto 27 dX8_keepOfTwo_20 (by decide) ?_
    exact q_ireturn dX8_keepOfTwo_27 rfl (by decide) (by decide) (by first | exact ⟨rfl, fun z => absurd z (by omega), fun _ => by rw [pk_sub (by omega)]; congr 1; omega⟩ | exact ⟨rfl, fun _ => rfl, fun z => absurd z (by omega)⟩)
set_option maxHeartbeats 600000 in
set_option maxRecDepth 100000 in
theorem c_X8_keepOfTwo_sel (l : Launch) (G : Gt) (Z : Zt) (a p f : Nat) (so : Int32) (L1 L2 : List Int64) (hK : zK Z a = 8) (h0 : zF Z 0 a = .int so) (hKp : zK Z p = 21) (hLp : zL Z p = 1200) (hfn : f + L1.length + L2.length ≤ 1200) (hso : ¬ so = 2) (hL1 : At (zJ Z p) f L1) (hL2 : At (zJ Z p) (f + L1.length) L2) : Ct l G YX8_keepOfTwo (1, 0, 0) Z [.ref a, .ref p, .int (nI f), .int (nI (f + L1.length)), .int (nI (f + L1.length + L2.length))] (ΦI (fun r Z1 => r = nI (selL (decide (so = 3)) L2 L1).length ∧ ∃ g, Z1 = tJ Z p g ∧ At g f (selL (decide (so = 3)) L2 L1) ∧ (∀ j, (j < f ∨ f + L1.length ≤ j) → g j = zJ Z p j))) := by
  refine ct_of [some (.ref a), some (.ref p), some (.int (nI f)), some (.int (nI (f + L1.length))), some (.int (nI (f + L1.length + L2.length))), none, none, none] (by decide +kernel) (Nat.le_of_ble_eq_true rfl) rfl (fun M => ?_)
  have loop : ∀ (n i k : Nat) (g : Nat → Int64) (x7 : Option Value) (Zc : Zt), Zc = tJ Z p g → L1.length - i ≤ n → i ≤ L1.length → k = (selL (decide (so = 3)) L2 (L1.take i)).length → At g f (selL (decide (so = 3)) L2 (L1.take i)) → (∀ j, (j < f ∨ f + i ≤ j) → g j = zJ Z p j) → Jd l G YX8_keepOfTwo (1, 0, 0) M Zc 0 0 (Qm G (1, 0, 0) M (ΦI (fun r Z1 => r = nI (selL (decide (so = 3)) L2 L1).length ∧ ∃ g, Z1 = tJ Z p g ∧ At g f (selL (decide (so = 3)) L2 L1) ∧ (∀ j, (j < f ∨ f + L1.length ≤ j) → g j = zJ Z p j)))) 34 [some (.ref a), some (.ref p), some (.int (nI f)), some (.int (nI (f + L1.length))), some (.int (nI (f + L1.length + L2.length))), some (.int (nI k)), some (.int (nI (f + i))), x7] [] := by
    intro n
    induction n with
    | zero =>
      intro i k g x7 Zc hZ hn hi hk hA ho
      subst hZ
      have hcl : L1.length ≤ i := by omega
      rw [List.take_of_length_le hcl] at hk hA
      refine q_iload dX8_keepOfTwo_34 rfl ?_
      refine q_iload_n dX8_keepOfTwo_36 rfl ?_
      refine q_icmp_ge 98 dX8_keepOfTwo_37 (by decide) (fun c37 => ?_) (fun c37 => absurd c37 (not_not_intro (nI_le (by omega) (by omega))))
      refine q_iload dX8_keepOfTwo_98 rfl ?_
      exact q_ireturn dX8_keepOfTwo_100 rfl (by decide) (by decide) ⟨by rw [hk], g, rfl, hA, fun j hj => ho j (by omega)⟩
    | succ n ih =>
      intro i k g x7 Zc hZ hn hi hk hA ho
      subst hZ
      by_cases hcl : L1.length ≤ i
      · rw [List.take_of_length_le hcl] at hk hA
        refine q_iload dX8_keepOfTwo_34 rfl ?_
        refine q_iload_n dX8_keepOfTwo_36 rfl ?_
        refine q_icmp_ge 98 dX8_keepOfTwo_37 (by decide) (fun c37 => ?_) (fun c37 => absurd c37 (not_not_intro (nI_le (by omega) (by omega))))
        refine q_iload dX8_keepOfTwo_98 rfl ?_
        exact q_ireturn dX8_keepOfTwo_100 rfl (by decide) (by decide) ⟨by rw [hk], g, rfl, hA, fun j hj => ho j (by omega)⟩
      · have hx : g (f + i) = L1[i] := by rw [ho _ (by omega)]; exact At_get hL1 (by omega)
        have hki : k ≤ i := by rw [hk]; exact Nat.le_trans (sel_len _ _ _) (by rw [List.length_take]; exact Nat.min_le_left _ _)
        have htk : selL (decide (so = 3)) L2 (L1.take (i + 1)) = selL (decide (so = 3)) L2 (L1.take i) ++ (if (L2.contains L1[i] == decide (so = 3)) = true then [L1[i]] else []) := by
          rw [List.take_succ_eq_append_getElem (by omega)]
          simp only [selL, List.filter_append, List.filter_cons, List.filter_nil]
        have hA2 : At g (f + L1.length) L2 := At_same hL2 (fun j h1 h2 => ho j (by omega))
        refine q_iload dX8_keepOfTwo_34 rfl ?_
        refine q_iload_n dX8_keepOfTwo_36 rfl ?_
        refine q_icmp_ge 98 dX8_keepOfTwo_37 (by decide) (fun c37 => absurd c37 (nI_ge (by omega) (by omega))) (fun c37 => ?_)
        first | refine q_aload_n dX8_keepOfTwo_40 rfl ?_ | refine q_aload_nN dX8_keepOfTwo_40 rfl ?_
        refine q_iload_n dX8_keepOfTwo_41 rfl ?_
        refine q_iload dX8_keepOfTwo_42 rfl ?_
        first | refine q_aload_n dX8_keepOfTwo_44 rfl ?_ | refine q_aload_nN dX8_keepOfTwo_44 rfl ?_
        refine q_iload dX8_keepOfTwo_45 rfl ?_
        refine q_lald dX8_keepOfTwo_47 (by rw [zK_tJ]; exact hKp) (by rw [zL_tJ, hLp]; exact vp_in_nI (by omega) (by decide)) ?_
        refine q_callSN dX8_keepOfTwo_48 mn_X8_155 (c_X11_find l G (tJ Z p g) p (f + L1.length) (f + L1.length + L2.length) _ hKp (by rw [zL_tJ, hLp]; decide) (by rw [zL_tJ, hLp]; omega) (by omega)) rfl np_X11_find (by decide) (by decide) (by decide) (Nat.le_of_ble_eq_true rfl) (kI (fun r Z1 h => ?_))
        obtain ⟨rfl, h⟩ := h
        simp only [zJ_tJ, if_true, nI_clamp (show f + i < 2 ^ 31 by omega), hx] at h
        have hc := fnd_in hA2 (by omega) h
        refine q_if_lt 58 dX8_keepOfTwo_51 (by decide) (fun c51 => ?_) (fun c51 => ?_)
        · have hm := hc.1 c51
          refine q_iconst (v := 0) dX8_keepOfTwo_58 (by decide) ?_
          refine q_istore (ls' := [_, _, _, _, _, _, _, _]) dX8_keepOfTwo_59 rfl rfl (Nat.le_of_ble_eq_true rfl) (by decide) ?_
          refine q_iload dX8_keepOfTwo_61 rfl ?_
          first | refine q_aload_n dX8_keepOfTwo_63 rfl ?_ | refine q_aload_nN dX8_keepOfTwo_63 rfl ?_
          refine q_getf dX8_keepOfTwo_64 fk_X8_11_7 hK h0 ?_
          refine q_iconst (v := 3) dX8_keepOfTwo_67 (by decide) ?_
          refine q_icmp_ne 75 dX8_keepOfTwo_68 (by decide) (fun c68 => ?_) (fun c68 => ?_)
          · have h3 : ¬ so = 3 := c68
            refine q_iconst (v := 0) dX8_keepOfTwo_75 (by decide) ?_
            refine q_icmp_ne 92 dX8_keepOfTwo_76 (by decide) (fun c76 => ?_) (fun c76 => ?_)
            · exact absurd rfl c76
            · first | refine q_aload_n dX8_keepOfTwo_79 rfl ?_ | refine q_aload_nN dX8_keepOfTwo_79 rfl ?_
              refine q_iload_n dX8_keepOfTwo_80 rfl ?_
              refine q_iload dX8_keepOfTwo_81 rfl ?_
              refine q_iadd dX8_keepOfTwo_83 ?_
              first | refine q_aload_n dX8_keepOfTwo_84 rfl ?_ | refine q_aload_nN dX8_keepOfTwo_84 rfl ?_
              refine q_iload dX8_keepOfTwo_85 rfl ?_
              refine q_lald dX8_keepOfTwo_87 (by rw [zK_tJ]; exact hKp) (by rw [zL_tJ, hLp]; exact vp_in_nI (by omega) (by decide)) ?_
              rw [nI_add]
              refine q_last dX8_keepOfTwo_88 (by rw [zK_tJ]; exact hKp) (by rw [zL_tJ, hLp]; exact vp_in_nI (by omega) (by decide)) ?_
              refine q_iinc 1 (ls' := [_, _, _, _, _, _, _, _]) dX8_keepOfTwo_89 rfl (by decide) rfl rfl (Nat.le_of_ble_eq_true rfl) (by decide) ?_
              refine q_iinc 1 (ls' := [_, _, _, _, _, _, _, _]) dX8_keepOfTwo_92 rfl (by decide) rfl rfl (Nat.le_of_ble_eq_true rfl) (by decide) ?_
              refine q_goto 34 dX8_keepOfTwo_95 (by decide) ?_
              rw [nI_1] -- kept
              rw [nI_1, show f + i + 1 = f + (i + 1) by omega]
              refine ih (i + 1) _ (vp_updL g (f + k) (g (f + i))) _ _ (by simp only [sJ_t, tJ_tJ, zJ_tJ, if_true, nI_clamp (show f + i < 2 ^ 31 by omega), nI_clamp (show f + k < 2 ^ 31 by omega)]) (by omega) (by omega) (by rw [htk, if_pos (by rw [hm, decide_eq_false h3]; decide), List.length_append, ← hk]; rfl) (by rw [htk, if_pos (by rw [hm, decide_eq_false h3]; decide)]; exact At_snoc (At_same hA (fun j h1 h2 => by rw [pk_uLn (by omega)])) (by rw [← hk, pk_uLs]; exact hx)) (fun j hj => by rw [pk_uLn (by omega)]; exact ho j (by omega))
          · have h3 : so = 3 := c68
            refine q_iconst (v := 1) dX8_keepOfTwo_71 (by decide) ?_
            refine q_goto 76 dX8_keepOfTwo_72 (by decide) ?_
            refine q_icmp_ne 92 dX8_keepOfTwo_76 (by decide) (fun c76 => ?_) (fun c76 => ?_)
            · refine q_iinc 1 (ls' := [_, _, _, _, _, _, _, _]) dX8_keepOfTwo_92 rfl (by decide) rfl rfl (Nat.le_of_ble_eq_true rfl) (by decide) ?_
              refine q_goto 34 dX8_keepOfTwo_95 (by decide) ?_
              rw [nI_1, show f + i + 1 = f + (i + 1) by omega]
              refine ih (i + 1) _ g _ _ rfl (by omega) (by omega) (by rw [htk, if_neg (by rw [hm, decide_eq_true h3]; decide), List.append_nil]; exact hk) (by rw [htk, if_neg (by rw [hm, decide_eq_true h3]; decide), List.append_nil]; exact hA) (fun j hj => ho j (by omega))
            · exact absurd c76 (by decide)
        · have hm := hc.2 c51
          refine q_iconst (v := 1) dX8_keepOfTwo_54 (by decide) ?_
          refine q_goto 59 dX8_keepOfTwo_55 (by decide) ?_
          refine q_istore (ls' := [_, _, _, _, _, _, _, _]) dX8_keepOfTwo_59 rfl rfl (Nat.le_of_ble_eq_true rfl) (by decide) ?_
          refine q_iload dX8_keepOfTwo_61 rfl ?_
          first | refine q_aload_n dX8_keepOfTwo_63 rfl ?_ | refine q_aload_nN dX8_keepOfTwo_63 rfl ?_
          refine q_getf dX8_keepOfTwo_64 fk_X8_11_7 hK h0 ?_
          refine q_iconst (v := 3) dX8_keepOfTwo_67 (by decide) ?_
          refine q_icmp_ne 75 dX8_keepOfTwo_68 (by decide) (fun c68 => ?_) (fun c68 => ?_)
          · have h3 : ¬ so = 3 := c68
            refine q_iconst (v := 0) dX8_keepOfTwo_75 (by decide) ?_
            refine q_icmp_ne 92 dX8_keepOfTwo_76 (by decide) (fun c76 => ?_) (fun c76 => ?_)
            · refine q_iinc 1 (ls' := [_, _, _, _, _, _, _, _]) dX8_keepOfTwo_92 rfl (by decide) rfl rfl (Nat.le_of_ble_eq_true rfl) (by decide) ?_
              refine q_goto 34 dX8_keepOfTwo_95 (by decide) ?_
              rw [nI_1, show f + i + 1 = f + (i + 1) by omega]
              refine ih (i + 1) _ g _ _ rfl (by omega) (by omega) (by rw [htk, if_neg (by rw [hm, decide_eq_false h3]; decide), List.append_nil]; exact hk) (by rw [htk, if_neg (by rw [hm, decide_eq_false h3]; decide), List.append_nil]; exact hA) (fun j hj => ho j (by omega))
            · exact absurd c76 (by decide)
          · have h3 : so = 3 := c68
            refine q_iconst (v := 1) dX8_keepOfTwo_71 (by decide) ?_
            refine q_goto 76 dX8_keepOfTwo_72 (by decide) ?_
            refine q_icmp_ne 92 dX8_keepOfTwo_76 (by decide) (fun c76 => ?_) (fun c76 => ?_)
            · exact absurd rfl c76
            · first | refine q_aload_n dX8_keepOfTwo_79 rfl ?_ | refine q_aload_nN dX8_keepOfTwo_79 rfl ?_
              refine q_iload_n dX8_keepOfTwo_80 rfl ?_
              refine q_iload dX8_keepOfTwo_81 rfl ?_
              refine q_iadd dX8_keepOfTwo_83 ?_
              first | refine q_aload_n dX8_keepOfTwo_84 rfl ?_ | refine q_aload_nN dX8_keepOfTwo_84 rfl ?_
              refine q_iload dX8_keepOfTwo_85 rfl ?_
              refine q_lald dX8_keepOfTwo_87 (by rw [zK_tJ]; exact hKp) (by rw [zL_tJ, hLp]; exact vp_in_nI (by omega) (by decide)) ?_
              rw [nI_add]
              refine q_last dX8_keepOfTwo_88 (by rw [zK_tJ]; exact hKp) (by rw [zL_tJ, hLp]; exact vp_in_nI (by omega) (by decide)) ?_
              refine q_iinc 1 (ls' := [_, _, _, _, _, _, _, _]) dX8_keepOfTwo_89 rfl (by decide) rfl rfl (Nat.le_of_ble_eq_true rfl) (by decide) ?_
              refine q_iinc 1 (ls' := [_, _, _, _, _, _, _, _]) dX8_keepOfTwo_92 rfl (by decide) rfl rfl (Nat.le_of_ble_eq_true rfl) (by decide) ?_
              refine q_goto 34 dX8_keepOfTwo_95 (by decide) ?_
              rw [nI_1] -- kept
              rw [nI_1, show f + i + 1 = f + (i + 1) by omega]
              refine ih (i + 1) _ (vp_updL g (f + k) (g (f + i))) _ _ (by simp only [sJ_t, tJ_tJ, zJ_tJ, if_true, nI_clamp (show f + i < 2 ^ 31 by omega), nI_clamp (show f + k < 2 ^ 31 by omega)]) (by omega) (by omega) (by rw [htk, if_pos (by rw [hm, decide_eq_true h3]; decide), List.length_append, ← hk]; rfl) (by rw [htk, if_pos (by rw [hm, decide_eq_true h3]; decide)]; exact At_snoc (At_same hA (fun j h1 h2 => by rw [pk_uLn (by omega)])) (by rw [← hk, pk_uLs]; exact hx)) (fun j hj => by rw [pk_uLn (by omega)]; exact ho j (by omega))
  first | refine q_aload_n dX8_keepOfTwo_0 rfl ?_ | refine q_aload_nN dX8_keepOfTwo_0 rfl ?_
  refine q_getf dX8_keepOfTwo_1 fk_X8_11_7 (by first | assumption | (simp only [zK_sF, zK_sI, zK_sJ, zK_sR]; assumption)) (by first | assumption | (simp only [zF_sF, zF_sI, zF_sJ, zF_sR, true_and, and_true, false_and, and_false, if_true, if_false, eq_self, reduceIte, Nat.reduceEqDiff, OfNat.ofNat_ne_zero, OfNat.zero_ne_ofNat, OfNat.ofNat_ne_one, OfNat.one_ne_ofNat, reduceCtorEq]; first | rfl | assumption)) ?_
  refine q_iconst (v := 2) dX8_keepOfTwo_4 (by decide) ?_
  refine q_icmp_ne 28 dX8_keepOfTwo_5 (by decide) (fun c5 => ?_) (fun c5 => absurd c5 hso)
  refine q_iconst (v := 0) dX8_keepOfTwo_28 (by decide) ?_
  refine q_istore (ls' := [_, _, _, _, _, _, _, _]) dX8_keepOfTwo_29 rfl rfl (Nat.le_of_ble_eq_true rfl) (by decide) ?_
  refine q_iload_n dX8_keepOfTwo_31 rfl ?_
  refine q_istore (ls' := [_, _, _, _, _, _, _, _]) dX8_keepOfTwo_32 rfl rfl (Nat.le_of_ble_eq_true rfl) (by decide) ?_
  exact loop L1.length 0 0 (zJ Z p) none Z (tJ_id Z p).symm (by omega) (by omega) (by simp [selL]) (by simp only [List.take_zero, selL, List.filter_nil]; exact At_nil) (fun j _ => rfl)
set_option maxHeartbeats 600000 in
set_option maxRecDepth 100000 in
theorem c_X8_gatherPlain (l : Launch) (G : Gt) (Z : Zt) (a p q fr : Nat) (f s c : Int64) (d : Int32) (hK : zK Z a = 8) (hst : zF Z 2 a = .ref q) (hKq : zK Z q = 9) (q0 : zF Z 0 q = .long f) (q1 : zF Z 1 q = .long s) (q2 : zF Z 2 q = .int d) (q3 : zF Z 3 q = .long c) (hc0 : ¬ c < 0) (hKp : zK Z p = 21) (hLp : zL Z p = 1200) (hfr : fr ≤ 1000) : Ct l G YX8_gatherPlain (1, 0, 0) Z [.ref a, .ref p, .int (nI fr)] (ΦI (fun r Z1 => (¬ c ≤ 200 → r = -4 ∧ Z1 = Z) ∧ (c ≤ 200 → r = nI (uN c) ∧ ∃ g, Z1 = tJ Z p g ∧ At g fr (spL f s d (uN c)) ∧ (∀ j, (j < fr ∨ fr + 200 ≤ j) → g j = zJ Z p j)))) := by
  refine ct_of [some (.ref a), some (.ref p), some (.int (nI fr)), none, none] (by decide +kernel) (Nat.le_of_ble_eq_true rfl) rfl (fun M => ?_)
  have hcn : c ≤ 200 → uN c ≤ 200 ∧ c = lN (uN c) := by
    intro h
    obtain ⟨h1, h2⟩ := uN_pos hc0
    have h3 : c.toInt ≤ 200 := by have := Int64.le_iff_toInt_le.mp h; simpa using this
    exact ⟨by omega, uN_inj (by rw [uN_ofNat (uN_lt c)])⟩
  have loop : c ≤ 200 → ∀ (n i : Nat) (g : Nat → Int64) (Zc : Zt), Zc = tJ Z p g → uN c - i ≤ n → i ≤ uN c → At g fr (spL f s d i) → (∀ j, (j < fr ∨ fr + i ≤ j) → g j = zJ Z p j) → Jd l G YX8_gatherPlain (1, 0, 0) M Zc 0 0 (Qm G (1, 0, 0) M (ΦI (fun r Z1 => (¬ c ≤ 200 → r = -4 ∧ Z1 = Z) ∧ (c ≤ 200 → r = nI (uN c) ∧ ∃ g, Z1 = tJ Z p g ∧ At g fr (spL f s d (uN c)) ∧ (∀ j, (j < fr ∨ fr + 200 ≤ j) → g j = zJ Z p j))))) 29 [some (.ref a), some (.ref p), some (.int (nI fr)), some (.int (nI (uN c))), some (.int (nI i))] [] := by
    intro hc2 n
    have hc3 := hcn hc2
    induction n with
    | zero =>
      intro i g Zc hZ hn hi hA ho
      subst hZ
      have hei : i = uN c := by omega
      subst hei
      refine q_iload dX8_gatherPlain_29 rfl ?_
      refine q_iload_n dX8_gatherPlain_31 rfl ?_
      refine q_icmp_ge 57 dX8_gatherPlain_32 (by decide) (fun c32 => ?_) (fun c32 => absurd c32 (not_not_intro (nI_le (by omega) (by omega))))
      refine q_iload_n dX8_gatherPlain_57 rfl ?_
      exact q_ireturn dX8_gatherPlain_58 rfl (by decide) (by decide) ⟨fun z => absurd hc2 z, fun _ => ⟨rfl, g, rfl, hA, fun j hj => ho j (by omega)⟩⟩
    | succ n ih =>
      intro i g Zc hZ hn hi hA ho
      subst hZ
      by_cases hei : i = uN c
      · subst hei
        refine q_iload dX8_gatherPlain_29 rfl ?_
        refine q_iload_n dX8_gatherPlain_31 rfl ?_
        refine q_icmp_ge 57 dX8_gatherPlain_32 (by decide) (fun c32 => ?_) (fun c32 => absurd c32 (not_not_intro (nI_le (by omega) (by omega))))
        refine q_iload_n dX8_gatherPlain_57 rfl ?_
        exact q_ireturn dX8_gatherPlain_58 rfl (by decide) (by decide) ⟨fun z => absurd hc2 z, fun _ => ⟨rfl, g, rfl, hA, fun j hj => ho j (by omega)⟩⟩
      · refine q_iload dX8_gatherPlain_29 rfl ?_
        refine q_iload_n dX8_gatherPlain_31 rfl ?_
        refine q_icmp_ge 57 dX8_gatherPlain_32 (by decide) (fun c32 => absurd c32 (nI_ge (by omega) (by omega))) (fun c32 => ?_)
        first | refine q_aload_n dX8_gatherPlain_35 rfl ?_ | refine q_aload_nN dX8_gatherPlain_35 rfl ?_
        refine q_iload_n dX8_gatherPlain_36 rfl ?_
        refine q_iload dX8_gatherPlain_37 rfl ?_
        refine q_iadd dX8_gatherPlain_39 ?_
        first | refine q_aload_n dX8_gatherPlain_40 rfl ?_ | refine q_aload_nN dX8_gatherPlain_40 rfl ?_
        refine q_getf dX8_gatherPlain_41 fk_X8_18_7 hK hst ?_
        refine q_iload dX8_gatherPlain_44 rfl ?_
        refine q_i2l dX8_gatherPlain_46 ?_
        refine q_callV 8 dX8_gatherPlain_47 mk_X8_92 rfl hKq (c_X9_numberAt l G (tJ Z p g) q f s c d hKq q0 q1 q2 q3 _) rfl np_X9_numberAt (by decide) (by decide) (by decide) (Nat.le_of_ble_eq_true rfl) (kL (fun r Z1 h => ?_))
        obtain ⟨rfl, rfl⟩ := h
        rw [nI_l (by omega)]
        rw [nI_add]
        refine q_last dX8_gatherPlain_50 (by rw [zK_tJ]; exact hKp) (by rw [zL_tJ, hLp]; exact vp_in_nI (by omega) (by decide)) ?_
        refine q_iinc 1 (ls' := [_, _, _, _, _]) dX8_gatherPlain_51 rfl (by decide) rfl rfl (Nat.le_of_ble_eq_true rfl) (by decide) ?_
        refine q_goto 29 dX8_gatherPlain_54 (by decide) ?_
        rw [nI_1]
        refine ih (i + 1) (vp_updL g (fr + i) (stAt f s d (lN i))) _ (by simp only [sJ_t, tJ_tJ, zJ_tJ, if_true, nI_clamp (show fr + i < 2 ^ 31 by omega)]) (by omega) (by omega) ?_ (fun j hj => by rw [pk_uLn (by omega)]; exact ho j (by omega))
        rw [spL, List.range_succ, List.map_append]
        exact At_snoc (At_same hA (fun j h1 h2 => by rw [pk_uLn (by simp [spL] at h2; omega)])) (by simp only [List.length_map, List.length_range]; exact pk_uLs)
  first | refine q_aload_n dX8_gatherPlain_0 rfl ?_ | refine q_aload_nN dX8_gatherPlain_0 rfl ?_
  refine q_getf dX8_gatherPlain_1 fk_X8_18_7 hK hst ?_
  refine q_getf dX8_gatherPlain_4 fk_X8_87_8 (by first | assumption | (simp only [zK_sF, zK_sI, zK_sJ, zK_sR]; assumption)) (by first | assumption | (simp only [zF_sF, zF_sI, zF_sJ, zF_sR, true_and, and_true, false_and, and_false, if_true, if_false, eq_self, reduceIte, Nat.reduceEqDiff, OfNat.ofNat_ne_zero, OfNat.zero_ne_ofNat, OfNat.ofNat_ne_one, OfNat.one_ne_ofNat, reduceCtorEq]; first | rfl | assumption)) ?_
  refine q_ldc2 dX8_gatherPlain_7 kl_X8_90 ?_
  refine q_lcmp_le 17 dX8_gatherPlain_10 dX8_gatherPlain_11 (by decide) (fun c10 => ?_) (fun c10 => ?_)
  · first | refine q_aload_n dX8_gatherPlain_17 rfl ?_ | refine q_aload_nN dX8_gatherPlain_17 rfl ?_
    refine q_getf dX8_gatherPlain_18 fk_X8_18_7 (by first | assumption | (simp only [zK_sF, zK_sI, zK_sJ, zK_sR]; assumption)) (by first | assumption | (simp only [zF_sF, zF_sI, zF_sJ, zF_sR, true_and, and_true, false_and, and_false, if_true, if_false, eq_self, reduceIte, Nat.reduceEqDiff, OfNat.ofNat_ne_zero, OfNat.zero_ne_ofNat, OfNat.ofNat_ne_one, OfNat.one_ne_ofNat, reduceCtorEq]; first | rfl | assumption)) ?_
    refine q_getf dX8_gatherPlain_21 fk_X8_87_8 (by first | assumption | (simp only [zK_sF, zK_sI, zK_sJ, zK_sR]; assumption)) (by first | assumption | (simp only [zF_sF, zF_sI, zF_sJ, zF_sR, true_and, and_true, false_and, and_false, if_true, if_false, eq_self, reduceIte, Nat.reduceEqDiff, OfNat.ofNat_ne_zero, OfNat.zero_ne_ofNat, OfNat.ofNat_ne_one, OfNat.one_ne_ofNat, reduceCtorEq]; first | rfl | assumption)) ?_
    refine q_l2i dX8_gatherPlain_24 ?_
    refine q_istore_n (ls' := [_, _, _, _, _]) dX8_gatherPlain_25 rfl rfl (Nat.le_of_ble_eq_true rfl) (by decide) ?_
    refine q_iconst (v := 0) dX8_gatherPlain_26 (by decide) ?_
    refine q_istore (ls' := [_, _, _, _, _]) dX8_gatherPlain_27 rfl rfl (Nat.le_of_ble_eq_true rfl) (by decide) ?_
    have hc3 := hcn c10
    have e : c.toInt32 = nI (uN c) := by rw [hc3.2, lN_i, ← hc3.2]
    rw [e]
    exact loop c10 (uN c) 0 (zJ Z p) Z (tJ_id Z p).symm (by omega) (by omega) At_nil (fun j _ => rfl)
  · skip
    refine q_bipush (v := (-4)) dX8_gatherPlain_14 (by decide) ?_
    exact q_ireturn dX8_gatherPlain_16 rfl (by decide) (by decide) ⟨fun _ => ⟨rfl, rfl⟩, fun z => absurd z c10⟩
set_option maxHeartbeats 600000 in
set_option maxRecDepth 100000 in
theorem c_X8_gatherRow (l : Launch) (G : Gt) (Z : Zt) (a p t hs it fr cn : Nat) (skd fl : Int32) (hK : zK Z a = 8) (hsh : zF Z 3 a = .ref hs) (hKs : zK Z hs = 6) (s0 : zF Z 0 hs = .ref it) (s1 : zF Z 1 hs = .int skd) (s2 : zF Z 2 hs = .int (nI cn)) (hcn : cn ≤ 12) (hKi : zK Z it = 21) (hLi : zL Z it = 12) (hip : it ≠ p) (hKt : zK Z t = 10) (hf : zF Z 4 t = .int fl) (hKp : zK Z p = 21) (hLp : zL Z p = 1200) (hfr : fr ≤ 1000) : Ct l G YX8_gatherRow (1, 0, 0) Z [.ref a, .ref p, .int (nI fr), .ref t] (ΦI (fun r Z1 => (skd = 0 → failP Z Z1 t fl (-1) 1 r) ∧ (skd = 3 → failP Z Z1 t fl (-1) 5 r) ∧ (¬ skd = 0 → ¬ skd = 3 → r = nI cn ∧ ∃ g, Z1 = tJ Z p g ∧ At g fr ((List.range cn).map (zJ Z it)) ∧ (∀ j, (j < fr ∨ fr + 200 ≤ j) → g j = zJ Z p j)))) := by
  refine ct_of [some (.ref a), some (.ref p), some (.int (nI fr)), some (.ref t), none, none] (by decide +kernel) (Nat.le_of_ble_eq_true rfl) rfl (fun M => ?_)
  have loop : ¬ skd = 0 → ¬ skd = 3 → ∀ (n i : Nat) (g : Nat → Int64) (Zc : Zt), Zc = tJ Z p g → cn - i ≤ n → i ≤ cn → At g fr ((List.range i).map (zJ Z it)) → (∀ j, (j < fr ∨ fr + i ≤ j) → g j = zJ Z p j) → Jd l G YX8_gatherRow (1, 0, 0) M Zc 0 0 (Qm G (1, 0, 0) M (ΦI (fun r Z1 => (skd = 0 → failP Z Z1 t fl (-1) 1 r) ∧ (skd = 3 → failP Z Z1 t fl (-1) 5 r) ∧ (¬ skd = 0 → ¬ skd = 3 → r = nI cn ∧ ∃ g, Z1 = tJ Z p g ∧ At g fr ((List.range cn).map (zJ Z it)) ∧ (∀ j, (j < fr ∨ fr + 200 ≤ j) → g j = zJ Z p j))))) 34 [some (.ref a), some (.ref p), some (.int (nI fr)), some (.ref t), some (.int 0), some (.int (nI i))] [] := by
    intro hs0 hs3 n
    induction n with
    | zero =>
      intro i g Zc hZ hn hi hA ho
      subst hZ
      have hei : i = cn := by omega
      subst hei
      refine q_iload dX8_gatherRow_34 rfl ?_
      first | refine q_aload_n dX8_gatherRow_36 rfl ?_ | refine q_aload_nN dX8_gatherRow_36 rfl ?_
      refine q_getf dX8_gatherRow_37 fk_X8_22_7 hK hsh ?_
      refine q_getf dX8_gatherRow_40 fk_X8_107_5 hKs s2 ?_
      refine q_icmp_ge 68 dX8_gatherRow_43 (by decide) (fun c43 => ?_) (fun c43 => absurd c43 (not_not_intro (nI_le (by omega) (by omega))))
      first | refine q_aload_n dX8_gatherRow_68 rfl ?_ | refine q_aload_nN dX8_gatherRow_68 rfl ?_
      refine q_getf dX8_gatherRow_69 fk_X8_22_7 hK hsh ?_
      refine q_getf dX8_gatherRow_72 fk_X8_107_5 hKs s2 ?_
      exact q_ireturn dX8_gatherRow_75 rfl (by decide) (by decide) ⟨fun z => absurd z hs0, fun z => absurd z hs3, fun _ _ => ⟨rfl, g, rfl, hA, fun j hj => ho j (by omega)⟩⟩
    | succ n ih =>
      intro i g Zc hZ hn hi hA ho
      subst hZ
      by_cases hei : i = cn
      · subst hei
        refine q_iload dX8_gatherRow_34 rfl ?_
        first | refine q_aload_n dX8_gatherRow_36 rfl ?_ | refine q_aload_nN dX8_gatherRow_36 rfl ?_
        refine q_getf dX8_gatherRow_37 fk_X8_22_7 hK hsh ?_
        refine q_getf dX8_gatherRow_40 fk_X8_107_5 hKs s2 ?_
        refine q_icmp_ge 68 dX8_gatherRow_43 (by decide) (fun c43 => ?_) (fun c43 => absurd c43 (not_not_intro (nI_le (by omega) (by omega))))
        first | refine q_aload_n dX8_gatherRow_68 rfl ?_ | refine q_aload_nN dX8_gatherRow_68 rfl ?_
        refine q_getf dX8_gatherRow_69 fk_X8_22_7 hK hsh ?_
        refine q_getf dX8_gatherRow_72 fk_X8_107_5 hKs s2 ?_
        exact q_ireturn dX8_gatherRow_75 rfl (by decide) (by decide) ⟨fun z => absurd z hs0, fun z => absurd z hs3, fun _ _ => ⟨rfl, g, rfl, hA, fun j hj => ho j (by omega)⟩⟩
      · refine q_iload dX8_gatherRow_34 rfl ?_
        first | refine q_aload_n dX8_gatherRow_36 rfl ?_ | refine q_aload_nN dX8_gatherRow_36 rfl ?_
        refine q_getf dX8_gatherRow_37 fk_X8_22_7 hK hsh ?_
        refine q_getf dX8_gatherRow_40 fk_X8_107_5 hKs s2 ?_
        refine q_icmp_ge 68 dX8_gatherRow_43 (by decide) (fun c43 => absurd c43 (nI_ge (by omega) (by omega))) (fun c43 => ?_)
        first | refine q_aload_n dX8_gatherRow_46 rfl ?_ | refine q_aload_nN dX8_gatherRow_46 rfl ?_
        refine q_iload_n dX8_gatherRow_47 rfl ?_
        refine q_iload dX8_gatherRow_48 rfl ?_
        refine q_iadd dX8_gatherRow_50 ?_
        first | refine q_aload_n dX8_gatherRow_51 rfl ?_ | refine q_aload_nN dX8_gatherRow_51 rfl ?_
        refine q_getf dX8_gatherRow_52 fk_X8_22_7 hK hsh ?_
        refine q_getf dX8_gatherRow_55 fk_X8_109_5 hKs s0 ?_
        refine q_iload dX8_gatherRow_58 rfl ?_
        refine q_lald dX8_gatherRow_60 hKi (by rw [zL_tJ, hLi]; exact vp_in_nI (by omega) (by decide)) ?_
        rw [nI_add]
        refine q_last dX8_gatherRow_61 (by rw [zK_tJ]; exact hKp) (by rw [zL_tJ, hLp]; exact vp_in_nI (by omega) (by decide)) ?_
        refine q_iinc 1 (ls' := [_, _, _, _, _, _]) dX8_gatherRow_62 rfl (by decide) rfl rfl (Nat.le_of_ble_eq_true rfl) (by decide) ?_
        refine q_goto 34 dX8_gatherRow_65 (by decide) ?_
        rw [nI_1]
        refine ih (i + 1) (vp_updL g (fr + i) (zJ Z it i)) _ (by simp only [sJ_t, tJ_tJ, zJ_tJ, if_true, if_neg hip, nI_clamp (show fr + i < 2 ^ 31 by omega), nI_clamp (show i < 2 ^ 31 by omega)]) (by omega) (by omega) ?_ (fun j hj => by rw [pk_uLn (by omega)]; exact ho j (by omega))
        rw [List.range_succ, List.map_append]
        exact At_snoc (At_same hA (fun j h1 h2 => by rw [pk_uLn (by simp at h2; omega)])) (by simp only [List.length_map, List.length_range]; exact pk_uLs)
  first | refine q_aload_n dX8_gatherRow_0 rfl ?_ | refine q_aload_nN dX8_gatherRow_0 rfl ?_
  refine q_getf dX8_gatherRow_1 fk_X8_22_7 hK hsh ?_
  refine q_ifnonnull 9 dX8_gatherRow_4 (by decide) ?_
  first | refine q_aload_n dX8_gatherRow_9 rfl ?_ | refine q_aload_nN dX8_gatherRow_9 rfl ?_
  refine q_getf dX8_gatherRow_10 fk_X8_22_7 hK hsh ?_
  refine q_callV 5 dX8_gatherRow_13 mk_X8_96 rfl hKs (c_X6_rowFailure l G Z hs skd hKs s1) rfl np_X6_rowFailure (by decide) (by decide) (by decide) (Nat.le_of_ble_eq_true rfl) (kI (fun r Z1 h => ?_))
  obtain ⟨rfl, hr⟩ := h
  refine q_istore (ls' := [_, _, _, _, _, _]) dX8_gatherRow_16 rfl rfl (Nat.le_of_ble_eq_true rfl) (by decide) ?_
  refine q_iload dX8_gatherRow_18 rfl ?_
  refine q_if_eq 31 dX8_gatherRow_20 (by decide) (fun c20 => ?_) (fun c20 => ?_)
  · have hs0 : ¬ skd = 0 := fun z => by rw [hr, if_pos z] at c20; exact absurd c20 (by decide)
    have hs3 : ¬ skd = 3 := fun z => by rw [hr, if_neg hs0, if_pos z] at c20; exact absurd c20 (by decide)
    subst c20
    refine q_iconst (v := 0) dX8_gatherRow_31 (by decide) ?_
    refine q_istore (ls' := [_, _, _, _, _, _]) dX8_gatherRow_32 rfl rfl (Nat.le_of_ble_eq_true rfl) (by decide) ?_
    exact loop hs0 hs3 cn 0 (zJ Z1 p) Z1 (tJ_id Z1 p).symm (by omega) (by omega) At_nil (fun j _ => rfl)
  · first | refine q_aload_n dX8_gatherRow_23 rfl ?_ | refine q_aload_nN dX8_gatherRow_23 rfl ?_
    refine q_iload dX8_gatherRow_24 rfl ?_
    refine q_iconst (v := (-1)) dX8_gatherRow_26 (by decide) ?_
    refine q_callV 9 dX8_gatherRow_27 mk_X8_102 rfl hKt (c_X10_fail l G Z1 t fl _ (-1) hKt hf) rfl np_X10_fail (by decide) (by decide) (by decide) (Nat.le_of_ble_eq_true rfl) (kI (fun r2 Z2 h => ?_))
    exact q_ireturn dX8_gatherRow_30 rfl (by decide) (by decide) (by subst hr; refine ⟨fun z => ?_, fun z => ?_, fun z1 z2 => absurd (by rw [if_neg z1, if_neg z2]) c20⟩ <;> (subst z; exact h))
