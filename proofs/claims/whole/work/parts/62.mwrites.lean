theorem MR.x {Z : Zt} {y : Nat} {σ e : St} {k i : Nat} {v : Int32} (hx : xt k = true) (h : MR Z y σ e) : MR Z y (pI σ k i v) e := by
  have : mx (pI σ k i v) e = mx σ e := by
    refine Prod.ext (funext fun k' => funext fun i' => ?_) rfl
    show (if xt k' = true then e.1 k' i' else if k' = k ∧ i' = i then v else σ.1 k' i') = if xt k' = true then e.1 k' i' else σ.1 k' i'
    by_cases c : k' = k ∧ i' = i
    · rw [if_pos (by rw [c.1]; exact hx), if_pos (by rw [c.1]; exact hx)]
    · rw [if_neg c]
  unfold MR; rw [this]; exact h
def zst (b : St) (k i : Nat) : St := (b.1, fun k' i' => if k' = 4 ∧ 12 * k ≤ i' ∧ i' < 12 * k + i then 0 else b.2 k' i')
theorem zst_s (b : St) (k i : Nat) : pJ (zst b k i) 4 (12 * k + i) 0 = zst b k (i + 1) := by
  refine Prod.ext rfl (funext fun k' => funext fun i' => ?_)
  show (if k' = 4 ∧ i' = 12 * k + i then (0 : Int64) else if k' = 4 ∧ 12 * k ≤ i' ∧ i' < 12 * k + i then 0 else b.2 k' i') = if k' = 4 ∧ 12 * k ≤ i' ∧ i' < 12 * k + (i + 1) then 0 else b.2 k' i'
  by_cases c : k' = 4 ∧ i' = 12 * k + i
  · rw [if_pos c, if_pos (by omega)]
  · rw [if_neg c]
    by_cases d : k' = 4 ∧ 12 * k ≤ i' ∧ i' < 12 * k + i
    · rw [if_pos d, if_pos (by omega)]
    · rw [if_neg d, if_neg (by omega)]
theorem zst_0 (b : St) (k : Nat) : zst b k 0 = b := by
  refine Prod.ext rfl (funext fun k' => funext fun i' => ?_)
  show (if k' = 4 ∧ 12 * k ≤ i' ∧ i' < 12 * k + 0 then (0 : Int64) else b.2 k' i') = b.2 k' i'
  rw [if_neg (by omega)]
theorem zst_hold (σ : St) (k : Nat) (kd n : Int32) : zst (pJ (pI (pI σ 1 k kd) 2 k (if kd = 1 ∨ kd = 2 then n else 0)) 3 k n.toInt64) k 12 = holdS σ k kd n := by
  refine Prod.ext (funext fun k' => funext fun i' => ?_) (funext fun k' => funext fun i' => ?_)
  · show (if k' = 2 ∧ i' = k then (if kd = 1 ∨ kd = 2 then n else 0) else if k' = 1 ∧ i' = k then kd else σ.1 k' i') = (if k' = 1 ∧ i' = k then kd else if k' = 2 ∧ i' = k then (if kd = 1 ∨ kd = 2 then n else 0) else σ.1 k' i')
    by_cases c : k' = 1 ∧ i' = k
    · rw [if_neg (by omega)]
      rw [if_pos c, if_pos c]
    · rw [if_neg c, if_neg c]
  · show (if k' = 4 ∧ 12 * k ≤ i' ∧ i' < 12 * k + 12 then (0 : Int64) else if k' = 3 ∧ i' = k then n.toInt64 else σ.2 k' i') = (if k' = 3 ∧ i' = k then n.toInt64 else if k' = 4 ∧ 12 * k ≤ i' ∧ i' < 12 * k + 12 then 0 else σ.2 k' i')
    by_cases c : k' = 3 ∧ i' = k
    · rw [if_neg (by omega), if_pos c, if_pos c]
    · rw [if_neg c, if_neg c]
set_option maxHeartbeats 600000 in
set_option maxRecDepth 100000 in
theorem mshelf_loop (l : Launch) (G : Gt) (M : Mt) (Z0 : Zt) (y j : Nat) (hj : j < 6) (b e : St) (kd n : Int32) (P : Int32 → Zt → Prop) (hP : ∀ Z1, MF y Z0 Z1 → MR Z1 y (zst b j 12) e → P 1 Z1) : ∀ (m i : Nat) (Z : Zt), i + m = 12 → MR Z y (zst b j i) e → MF y Z0 Z → Jd l G YX12_shelf (0, 0, 0) M Z 0 0 (Qm G (0, 0, 0) M (ΦI P)) 87 [some (.ref y), some (.int (nI j)), some (.int kd), some (.int n), some (.int (nI i))] [] := by
  intro m
  induction m with
  | zero =>
    intro i Z hi hM hF
    obtain rfl : i = 12 := by omega
    refine q_iload dX12_shelf_87 rfl ?_
    refine q_bipush (v := 12) dX12_shelf_89 (by decide) ?_
    refine q_icmp_ge 113 dX12_shelf_91 (by decide) (fun c91 => ?_) (fun c91 => absurd (show (12 : Int32) ≤ nI 12 by decide) c91)
    refine q_iconst (v := 1) dX12_shelf_113 (by decide) ?_
    exact q_ireturn dX12_shelf_114 rfl (by decide) (by decide) (hP _ hF hM)
  | succ m ih =>
    intro i Z hi hM hF
    refine q_iload dX12_shelf_87 rfl ?_
    refine q_bipush (v := 12) dX12_shelf_89 (by decide) ?_
    refine q_icmp_ge 113 dX12_shelf_91 (by decide) (fun c91 => absurd c91 (nI_ge (show i < 12 by omega) (by decide))) (fun c91 => ?_)
    first | refine q_aload_n dX12_shelf_94 rfl ?_ | refine q_aload_nN dX12_shelf_94 rfl ?_
    refine q_getf dX12_shelf_95 fk_X12_20_11 hM.K (hM.a 4 (by decide) (by decide)) ?_
    refine q_bipush (v := 12) dX12_shelf_98 (by decide) ?_
    refine q_iload_n dX12_shelf_100 rfl ?_
    refine q_imul dX12_shelf_101 ?_
    refine q_iload dX12_shelf_102 rfl ?_
    refine q_iadd dX12_shelf_104 ?_
    refine q_lconst (v := 0) dX12_shelf_105 (by decide) ?_
    refine m_last 4 (12 * j + i) hM dX12_shelf_106 (by decide) rfl rfl (by rw [show (12 : Int32) = nI 12 from rfl, pk_mul, nI_add]) (show 12 * j + i < 72 by omega) (fun Z hM hF1 => ?_)
    replace hF := hF.tr hF1
    refine q_iinc 1 (ls' := [_, _, _, _, _]) dX12_shelf_107 rfl (by decide) rfl rfl (Nat.le_of_ble_eq_true rfl) (by decide) ?_
    refine q_goto 87 dX12_shelf_110 (by decide) ?_
    rw [zst_s] at hM
    rw [nI_1]
    exact ih (i + 1) Z (by omega) hM hF
set_option maxHeartbeats 600000 in
set_option maxRecDepth 100000 in
theorem mshelf_75 (l : Launch) (G : Gt) (M : Mt) (Z0 Z : Zt) (y : Nat) (σ e : St)   (hF : MF y Z0 Z) (j : Nat) (hj : j < 6) (kd n v2 : Int32) (hM : MR Z y (pI σ 1 j kd) e) (hv2 : v2 = (if kd = 1 ∨ kd = 2 then n else 0)) (P : Int32 → Zt → Prop) (hP : ∀ Z1, MF y Z0 Z1 → MR Z1 y (holdS σ j kd n) e → P 1 Z1) : Jd l G YX12_shelf (0, 0, 0) M Z 0 0 (Qm G (0, 0, 0) M (ΦI P)) 75 [some (.ref y), some (.int (nI j)), some (.int kd), some (.int n), none] [.int v2, .int (nI j), .ref (y + mA 2)] := by
  refine m_iast 2 (j) hM dX12_shelf_75 (by decide) rfl rfl rfl (show j < 6 by omega) (fun Z hM hF1 => ?_)
  replace hF := hF.tr hF1
  first | refine q_aload_n dX12_shelf_76 rfl ?_ | refine q_aload_nN dX12_shelf_76 rfl ?_
  refine q_getf dX12_shelf_77 fk_X12_16_11 hM.K (hM.a 3 (by decide) (by decide)) ?_
  refine q_iload_n dX12_shelf_80 rfl ?_
  refine q_iload_n dX12_shelf_81 rfl ?_
  refine q_i2l dX12_shelf_82 ?_
  refine m_last 3 (j) hM dX12_shelf_83 (by decide) rfl rfl rfl (show j < 6 by omega) (fun Z hM hF1 => ?_)
  replace hF := hF.tr hF1
  refine q_iconst (v := 0) dX12_shelf_84 (by decide) ?_
  refine q_istore (ls' := [_, _, _, _, _]) dX12_shelf_85 rfl rfl (Nat.le_of_ble_eq_true rfl) (by decide) ?_
  subst hv2
  rw [← zst_hold] at hP
  exact mshelf_loop l G M Z0 y j hj _ e kd n P hP 12 0 Z rfl (by rw [zst_0]; exact hM) hF
set_option maxHeartbeats 600000 in
set_option maxRecDepth 100000 in
theorem mshelf_48 (l : Launch) (G : Gt) (M : Mt) (Z0 Z : Zt) (y : Nat) (σ e : St) (hM : MR Z y σ e) (hF : MF y Z0 Z) (j : Nat) (hj : j < 6) (kd n : Int32) (P : Int32 → Zt → Prop) (hP : ∀ Z1, MF y Z0 Z1 → MR Z1 y (holdS σ j kd n) e → P 1 Z1) : Jd l G YX12_shelf (0, 0, 0) M Z 0 0 (Qm G (0, 0, 0) M (ΦI P)) 48 [some (.ref y), some (.int (nI j)), some (.int kd), some (.int n), none] [] := by
  first | refine q_aload_n dX12_shelf_48 rfl ?_ | refine q_aload_nN dX12_shelf_48 rfl ?_
  refine q_getf dX12_shelf_49 fk_X12_7_11 hM.K (hM.a 1 (by decide) (by decide)) ?_
  refine q_iload_n dX12_shelf_52 rfl ?_
  refine q_iload_n dX12_shelf_53 rfl ?_
  refine m_iast 1 (j) hM dX12_shelf_54 (by decide) rfl rfl rfl (show j < 6 by omega) (fun Z hM hF1 => ?_)
  replace hF := hF.tr hF1
  first | refine q_aload_n dX12_shelf_55 rfl ?_ | refine q_aload_nN dX12_shelf_55 rfl ?_
  refine q_getf dX12_shelf_56 fk_X12_13_11 hM.K (hM.a 2 (by decide) (by decide)) ?_
  refine q_iload_n dX12_shelf_59 rfl ?_
  refine q_iload_n dX12_shelf_60 rfl ?_
  refine q_iconst (v := 1) dX12_shelf_61 (by decide) ?_
  refine q_icmp_eq 70 dX12_shelf_62 (by decide) (fun c62 => ?_) (fun c62 => ?_)
  · refine q_iload_n dX12_shelf_70 rfl ?_
    refine q_goto 75 dX12_shelf_71 (by decide) ?_
    exact mshelf_75 l G M Z0 Z y σ e hF j hj kd n _ hM (by rw [if_pos (Or.inl c62)]) P hP
  · refine q_iload_n dX12_shelf_65 rfl ?_
    refine q_iconst (v := 2) dX12_shelf_66 (by decide) ?_
    refine q_icmp_ne 74 dX12_shelf_67 (by decide) (fun c67 => ?_) (fun c67 => ?_)
    · refine q_iconst (v := 0) dX12_shelf_74 (by decide) ?_
      exact mshelf_75 l G M Z0 Z y σ e hF j hj kd n _ hM (by rw [if_neg (fun z => z.elim c62 c67)]) P hP
    · refine q_iload_n dX12_shelf_70 rfl ?_
      refine q_goto 75 dX12_shelf_71 (by decide) ?_
      exact mshelf_75 l G M Z0 Z y σ e hF j hj kd n _ hM (by rw [if_pos (Or.inr c67)]) P hP
set_option maxHeartbeats 600000 in
set_option maxRecDepth 100000 in
theorem mc_shelf (l : Launch) (G : Gt) (Z0 : Zt) (y : Nat) (σ e : St) (hM : MR Z0 y σ e) (k kd n : Int32) : Ct l G YX12_shelf (0, 0, 0) Z0 [.ref y, .int k, .int kd, .int n] (ΦI (fun r Z1 => r = (shelfS σ k kd n).1 ∧ MF y Z0 Z1 ∧ ∃ e1, MR Z1 y (shelfS σ k kd n).2 e1)) := by
  refine ct_of [some (.ref y), some (.int k), some (.int kd), some (.int n), none] (by decide +kernel) (Nat.le_of_ble_eq_true rfl) rfl (fun M => ?_)
  have hF := MF.rf y Z0
  first | refine q_aload_n dX12_shelf_0 rfl ?_ | refine q_aload_nN dX12_shelf_0 rfl ?_
  refine q_iconst (v := 0) dX12_shelf_1 (by decide) ?_
  refine m_putx 0 hM dX12_shelf_2 fk_X12_99_11 rfl (by decide) rfl rfl rfl rfl (fun Z hM hF1 => ?_)
  replace hF := hF.tr hF1
  refine q_iload_n dX12_shelf_5 rfl ?_
  refine q_if_lt 14 dX12_shelf_6 (by decide) (fun c6 => ?_) (fun c6 => ?_)
  · refine q_iconst (v := (-1)) dX12_shelf_14 (by decide) ?_
    exact q_ireturn dX12_shelf_15 rfl (by decide) (by decide) (by unfold shelfS; rw [if_pos (Or.inl c6)]; exact ⟨rfl, hF, _, hM⟩)
  · refine q_iload_n dX12_shelf_9 rfl ?_
    refine q_iconst (v := 5) dX12_shelf_10 (by decide) ?_
    refine q_icmp_le 16 dX12_shelf_11 (by decide) (fun c11 => ?_) (fun c11 => ?_)
    · refine q_iload_n dX12_shelf_16 rfl ?_
      refine q_if_lt 45 dX12_shelf_17 (by decide) (fun c17 => ?_) (fun c17 => ?_)
      · refine q_bipush (v := (-2)) dX12_shelf_45 (by decide) ?_
        exact q_ireturn dX12_shelf_47 rfl (by decide) (by decide) (by unfold shelfS; rw [if_neg (fun z => z.elim c6 (fun y => y (i_le (by decide) c11))), if_pos (Or.inl c17)]; exact ⟨rfl, hF, _, hM⟩)
      · refine q_iload_n dX12_shelf_20 rfl ?_
        refine q_iconst (v := 3) dX12_shelf_21 (by decide) ?_
        refine q_icmp_gt 45 dX12_shelf_22 (by decide) (fun c22 => ?_) (fun c22 => ?_)
        · refine q_bipush (v := (-2)) dX12_shelf_45 (by decide) ?_
          exact q_ireturn dX12_shelf_47 rfl (by decide) (by decide) (by unfold shelfS; rw [if_neg (fun z => z.elim c6 (fun y => y (i_le (by decide) c11))), if_pos (Or.inr (Int32.not_le.mpr c22))]; exact ⟨rfl, hF, _, hM⟩)
        · refine q_iload_n dX12_shelf_25 rfl ?_
          refine q_iconst (v := 1) dX12_shelf_26 (by decide) ?_
          refine q_icmp_eq 35 dX12_shelf_27 (by decide) (fun c27 => ?_) (fun c27 => ?_)
          · refine q_iload_n dX12_shelf_35 rfl ?_
            refine q_if_lt 45 dX12_shelf_36 (by decide) (fun c36 => ?_) (fun c36 => ?_)
            · refine q_bipush (v := (-2)) dX12_shelf_45 (by decide) ?_
              exact q_ireturn dX12_shelf_47 rfl (by decide) (by decide) (by unfold shelfS; rw [if_neg (fun z => z.elim c6 (fun y => y (i_le (by decide) c11))), if_neg (fun z => z.elim c17 (fun y => y (Int32.not_lt.mp c22))), if_pos ⟨Or.inl c27, Or.inl c36⟩]; exact ⟨rfl, hF, _, hM⟩)
            · refine q_iload_n dX12_shelf_39 rfl ?_
              refine q_bipush (v := 12) dX12_shelf_40 (by decide) ?_
              refine q_icmp_le 48 dX12_shelf_42 (by decide) (fun c42 => ?_) (fun c42 => ?_)
              · obtain ⟨j, hj, rfl⟩ := nI_of2 (M := 5) (n := 5) (by decide) c6 c11
                refine mshelf_48 l G M Z0 Z y σ _ hM hF j (by omega) kd n _ (fun Z1 f1 m1 => ?_)
                unfold shelfS
                rw [if_neg (fun z => z.elim c6 (fun y => y (i_le (by decide) c11))), if_neg (fun z => z.elim c17 (fun y => y (Int32.not_lt.mp c22))), if_neg (fun z => z.2.elim c36 (fun y => y c42)), nI_clamp (by omega)]
                exact ⟨rfl, f1, _, m1⟩
              · refine q_bipush (v := (-2)) dX12_shelf_45 (by decide) ?_
                exact q_ireturn dX12_shelf_47 rfl (by decide) (by decide) (by unfold shelfS; rw [if_neg (fun z => z.elim c6 (fun y => y (i_le (by decide) c11))), if_neg (fun z => z.elim c17 (fun y => y (Int32.not_lt.mp c22))), if_pos ⟨Or.inl c27, Or.inr c42⟩]; exact ⟨rfl, hF, _, hM⟩)
          · refine q_iload_n dX12_shelf_30 rfl ?_
            refine q_iconst (v := 2) dX12_shelf_31 (by decide) ?_
            refine q_icmp_ne 48 dX12_shelf_32 (by decide) (fun c32 => ?_) (fun c32 => ?_)
            · obtain ⟨j, hj, rfl⟩ := nI_of2 (M := 5) (n := 5) (by decide) c6 c11
              refine mshelf_48 l G M Z0 Z y σ _ hM hF j (by omega) kd n _ (fun Z1 f1 m1 => ?_)
              unfold shelfS
              rw [if_neg (fun z => z.elim c6 (fun y => y (i_le (by decide) c11))), if_neg (fun z => z.elim c17 (fun y => y (Int32.not_lt.mp c22))), if_neg (fun z => z.1.elim c27 c32), nI_clamp (by omega)]
              exact ⟨rfl, f1, _, m1⟩
            · refine q_iload_n dX12_shelf_35 rfl ?_
              refine q_if_lt 45 dX12_shelf_36 (by decide) (fun c36 => ?_) (fun c36 => ?_)
              · refine q_bipush (v := (-2)) dX12_shelf_45 (by decide) ?_
                exact q_ireturn dX12_shelf_47 rfl (by decide) (by decide) (by unfold shelfS; rw [if_neg (fun z => z.elim c6 (fun y => y (i_le (by decide) c11))), if_neg (fun z => z.elim c17 (fun y => y (Int32.not_lt.mp c22))), if_pos ⟨Or.inr c32, Or.inl c36⟩]; exact ⟨rfl, hF, _, hM⟩)
              · refine q_iload_n dX12_shelf_39 rfl ?_
                refine q_bipush (v := 12) dX12_shelf_40 (by decide) ?_
                refine q_icmp_le 48 dX12_shelf_42 (by decide) (fun c42 => ?_) (fun c42 => ?_)
                · obtain ⟨j, hj, rfl⟩ := nI_of2 (M := 5) (n := 5) (by decide) c6 c11
                  refine mshelf_48 l G M Z0 Z y σ _ hM hF j (by omega) kd n _ (fun Z1 f1 m1 => ?_)
                  unfold shelfS
                  rw [if_neg (fun z => z.elim c6 (fun y => y (i_le (by decide) c11))), if_neg (fun z => z.elim c17 (fun y => y (Int32.not_lt.mp c22))), if_neg (fun z => z.2.elim c36 (fun y => y c42)), nI_clamp (by omega)]
                  exact ⟨rfl, f1, _, m1⟩
                · refine q_bipush (v := (-2)) dX12_shelf_45 (by decide) ?_
                  exact q_ireturn dX12_shelf_47 rfl (by decide) (by decide) (by unfold shelfS; rw [if_neg (fun z => z.elim c6 (fun y => y (i_le (by decide) c11))), if_neg (fun z => z.elim c17 (fun y => y (Int32.not_lt.mp c22))), if_pos ⟨Or.inr c32, Or.inr c42⟩]; exact ⟨rfl, hF, _, hM⟩)
    · refine q_iconst (v := (-1)) dX12_shelf_14 (by decide) ?_
      exact q_ireturn dX12_shelf_15 rfl (by decide) (by decide) (by unfold shelfS; rw [if_pos (Or.inr (fun z => i_gap (by decide) (Int32.not_le.mp c11) z))]; exact ⟨rfl, hF, _, hM⟩)
set_option maxHeartbeats 600000 in
set_option maxRecDepth 100000 in
theorem mc_item (l : Launch) (G : Gt) (Z0 : Zt) (y : Nat) (σ e : St) (hM : MR Z0 y σ e) (hs : ∀ k, k < 6 → ∃ cn, cn ≤ 12 ∧ σ.1 2 k = nI cn) (k i : Int32) (v : Int64) : Ct l G YX12_item (0, 0, 0) Z0 [.ref y, .int k, .int i, .long v] (ΦI (fun r Z1 => r = (itemS σ k i v).1 ∧ MF y Z0 Z1 ∧ ∃ e1, MR Z1 y (itemS σ k i v).2 e1)) := by
  refine ct_of [some (.ref y), some (.int k), some (.int i), some (.long v), none] (by decide +kernel) (Nat.le_of_ble_eq_true rfl) rfl (fun M => ?_)
  have hF := MF.rf y Z0
  first | refine q_aload_n dX12_item_0 rfl ?_ | refine q_aload_nN dX12_item_0 rfl ?_
  refine q_iconst (v := 0) dX12_item_1 (by decide) ?_
  refine m_putx 0 hM dX12_item_2 fk_X12_99_11 rfl (by decide) rfl rfl rfl rfl (fun Z hM hF1 => ?_)
  replace hF := hF.tr hF1
  refine q_iload_n dX12_item_5 rfl ?_
  refine q_if_lt 14 dX12_item_6 (by decide) (fun c6 => ?_) (fun c6 => ?_)
  · refine q_iconst (v := (-1)) dX12_item_14 (by decide) ?_
    exact q_ireturn dX12_item_15 rfl (by decide) (by decide) (by unfold itemS; rw [if_pos (Or.inl c6)]; exact ⟨rfl, hF, _, hM⟩)
  · refine q_iload_n dX12_item_9 rfl ?_
    refine q_iconst (v := 5) dX12_item_10 (by decide) ?_
    refine q_icmp_le 16 dX12_item_11 (by decide) (fun c11 => ?_) (fun c11 => ?_)
    · have nk : ¬ (k < 0 ∨ ¬ k < 6) := fun z => z.elim c6 (fun y => y (i_le (by decide) c11))
      obtain ⟨p, hp, rfl⟩ := nI_of2 (M := 5) (n := 5) (by decide) c6 c11
      obtain ⟨cn, hcn, hsz⟩ := hs p (by omega)
      first | refine q_aload_n dX12_item_16 rfl ?_ | refine q_aload_nN dX12_item_16 rfl ?_
      refine q_getf dX12_item_17 fk_X12_7_11 hM.K (hM.a 1 (by decide) (by decide)) ?_
      refine q_iload_n dX12_item_20 rfl ?_
      refine m_iald 1 (p) hM dX12_item_21 (by decide) rfl rfl rfl (show p < 6 by omega) ?_
      refine q_if_ne 28 dX12_item_22 (by decide) (fun c22 => ?_) (fun c22 => ?_)
      · first | refine q_aload_n dX12_item_28 rfl ?_ | refine q_aload_nN dX12_item_28 rfl ?_
        refine q_getf dX12_item_29 fk_X12_7_11 hM.K (hM.a 1 (by decide) (by decide)) ?_
        refine q_iload_n dX12_item_32 rfl ?_
        refine m_iald 1 (p) hM dX12_item_33 (by decide) rfl rfl rfl (show p < 6 by omega) ?_
        refine q_iconst (v := 3) dX12_item_34 (by decide) ?_
        refine q_icmp_ne 41 dX12_item_35 (by decide) (fun c35 => ?_) (fun c35 => ?_)
        · refine q_iload_n dX12_item_41 rfl ?_
          refine q_if_lt 55 dX12_item_42 (by decide) (fun c42 => ?_) (fun c42 => ?_)
          · refine q_bipush (v := (-12)) dX12_item_55 (by decide) ?_
            exact q_ireturn dX12_item_57 rfl (by decide) (by decide) (by unfold itemS; rw [if_neg nk, nI_clamp (by omega), if_neg c22, if_neg c35, if_neg (fun z => z.1 c42)]; exact ⟨rfl, hF, _, hM⟩)
          · refine q_iload_n dX12_item_45 rfl ?_
            first | refine q_aload_n dX12_item_46 rfl ?_ | refine q_aload_nN dX12_item_46 rfl ?_
            refine q_getf dX12_item_47 fk_X12_13_11 hM.K (hM.a 2 (by decide) (by decide)) ?_
            refine q_iload_n dX12_item_50 rfl ?_
            refine m_iald 2 (p) hM dX12_item_51 (by decide) rfl rfl rfl (show p < 6 by omega) ?_
            refine q_icmp_lt 58 dX12_item_52 (by decide) (fun c52 => ?_) (fun c52 => ?_)
            · have q2 := c52
              rw [hsz] at q2
              obtain ⟨q, hq, rfl⟩ := ix_of (by omega) c42 q2
              first | refine q_aload_n dX12_item_58 rfl ?_ | refine q_aload_nN dX12_item_58 rfl ?_
              refine q_getf dX12_item_59 fk_X12_20_11 hM.K (hM.a 4 (by decide) (by decide)) ?_
              refine q_bipush (v := 12) dX12_item_62 (by decide) ?_
              refine q_iload_n dX12_item_64 rfl ?_
              refine q_imul dX12_item_65 ?_
              refine q_iload_n dX12_item_66 rfl ?_
              refine q_iadd dX12_item_67 ?_
              first | refine q_aload_n dX12_item_68 rfl ?_ | refine q_aload_nN dX12_item_68 rfl ?_
              refine q_getf dX12_item_69 fk_X12_7_11 hM.K (hM.a 1 (by decide) (by decide)) ?_
              refine q_iload_n dX12_item_72 rfl ?_
              refine m_iald 1 (p) hM dX12_item_73 (by decide) rfl rfl rfl (show p < 6 by omega) ?_
              refine q_iconst (v := 2) dX12_item_74 (by decide) ?_
              refine q_icmp_ne 84 dX12_item_75 (by decide) (fun c75 => ?_) (fun c75 => ?_)
              · refine q_lload_n dX12_item_84 rfl ?_
                refine m_last 4 (12 * p + q) hM dX12_item_85 (by decide) rfl rfl (by rw [show (12 : Int32) = nI 12 from rfl, pk_mul, nI_add]) (show 12 * p + q < 72 by omega) (fun Z hM hF1 => ?_)
                replace hF := hF.tr hF1
                refine q_iconst (v := 1) dX12_item_86 (by decide) ?_
                exact q_ireturn dX12_item_87 rfl (by decide) (by decide) (by unfold itemS; rw [if_neg nk, nI_clamp (by omega), if_neg c22, if_neg c35, if_pos ⟨c42, Int32.not_le.mpr c52⟩, nI_clamp (by omega), if_neg c75]; exact ⟨rfl, hF, _, hM⟩)
              · refine q_lload_n dX12_item_78 rfl ?_
                refine q_l2i dX12_item_79 ?_
                refine q_i2l dX12_item_80 ?_
                refine q_goto 85 dX12_item_81 (by decide) ?_
                refine m_last 4 (12 * p + q) hM dX12_item_85 (by decide) rfl rfl (by rw [show (12 : Int32) = nI 12 from rfl, pk_mul, nI_add]) (show 12 * p + q < 72 by omega) (fun Z hM hF1 => ?_)
                replace hF := hF.tr hF1
                refine q_iconst (v := 1) dX12_item_86 (by decide) ?_
                exact q_ireturn dX12_item_87 rfl (by decide) (by decide) (by unfold itemS; rw [if_neg nk, nI_clamp (by omega), if_neg c22, if_neg c35, if_pos ⟨c42, Int32.not_le.mpr c52⟩, nI_clamp (by omega), if_pos c75]; exact ⟨rfl, hF, _, hM⟩)
            · refine q_bipush (v := (-12)) dX12_item_55 (by decide) ?_
              exact q_ireturn dX12_item_57 rfl (by decide) (by decide) (by unfold itemS; rw [if_neg nk, nI_clamp (by omega), if_neg c22, if_neg c35, if_neg (fun z => absurd (Int32.not_le.mp z.2) c52)]; exact ⟨rfl, hF, _, hM⟩)
        · refine q_bipush (v := (-15)) dX12_item_38 (by decide) ?_
          exact q_ireturn dX12_item_40 rfl (by decide) (by decide) (by unfold itemS; rw [if_neg nk, nI_clamp (by omega), if_neg c22, if_pos c35]; exact ⟨rfl, hF, _, hM⟩)
      · refine q_bipush (v := (-11)) dX12_item_25 (by decide) ?_
        exact q_ireturn dX12_item_27 rfl (by decide) (by decide) (by unfold itemS; rw [if_neg nk, nI_clamp (by omega), if_pos c22]; exact ⟨rfl, hF, _, hM⟩)
    · refine q_iconst (v := (-1)) dX12_item_14 (by decide) ?_
      exact q_ireturn dX12_item_15 rfl (by decide) (by decide) (by unfold itemS; rw [if_pos (Or.inr (fun z => i_gap (by decide) (Int32.not_le.mp c11) z))]; exact ⟨rfl, hF, _, hM⟩)
def ex (e : St) (fl wh : Int32) : St := pI (pI e 13 0 fl) 14 0 wh
theorem ex_13 (e : St) (fl wh : Int32) : (ex e fl wh).1 13 0 = fl := by unfold ex; rw [pI_1, if_neg (by omega), pI_at]
theorem ex_14 (e : St) (fl wh : Int32) : (ex e fl wh).1 14 0 = wh := by unfold ex; rw [pI_at]
theorem ex_p13 (e : St) (fl wh f2 : Int32) : pI (ex e fl wh) 13 0 f2 = ex e f2 wh := by
  refine Prod.ext (funext fun k => funext fun i => ?_) rfl
  show (if k = 13 ∧ i = 0 then f2 else if k = 14 ∧ i = 0 then wh else if k = 13 ∧ i = 0 then fl else e.1 k i) = if k = 14 ∧ i = 0 then wh else if k = 13 ∧ i = 0 then f2 else e.1 k i
  by_cases c : k = 13 ∧ i = 0
  · rw [if_pos c, if_neg (by omega), if_pos c]
  · rw [if_neg c, if_neg c, if_neg c]
theorem ex_p14 (e : St) (fl wh w2 : Int32) : pI (ex e fl wh) 14 0 w2 = ex e fl w2 := by
  refine Prod.ext (funext fun k => funext fun i => ?_) rfl
  show (if k = 14 ∧ i = 0 then w2 else if k = 14 ∧ i = 0 then wh else if k = 13 ∧ i = 0 then fl else e.1 k i) = if k = 14 ∧ i = 0 then w2 else if k = 13 ∧ i = 0 then fl else e.1 k i
  by_cases c : k = 14 ∧ i = 0
  · rw [if_pos c, if_pos c]
  · rw [if_neg c, if_neg c, if_neg c]
theorem ex_self (e : St) : ex e (e.1 13 0) (e.1 14 0) = e := by
  refine Prod.ext (funext fun k => funext fun i => ?_) rfl
  show (if k = 14 ∧ i = 0 then e.1 14 0 else if k = 13 ∧ i = 0 then e.1 13 0 else e.1 k i) = e.1 k i
  by_cases c : k = 14 ∧ i = 0
  · rw [if_pos c, c.1, c.2]
  · rw [if_neg c]
    by_cases d : k = 13 ∧ i = 0
    · rw [if_pos d, d.1, d.2]
    · rw [if_neg d]
theorem ex_oth {e : St} {fl wh : Int32} {k : Nat} (h1 : k ≠ 13) (h2 : k ≠ 14) : (ex e fl wh).1 k = e.1 k := by
  unfold ex; rw [pI_ne h2, pI_ne h1]
theorem ex_2 (e : St) (fl wh : Int32) : (ex e fl wh).2 = e.2 := rfl
theorem sub10 (k : Int32) : -10 - (-10 - k) = k := by
  rw [Int32.sub_eq_add_neg (-10 : Int32) (-10 - k), Int32.neg_sub, Int32.sub_eq_add_neg, Int32.add_comm k, ← Int32.add_assoc, Int32.add_right_neg, Int32.zero_add]
set_option maxHeartbeats 600000 in
set_option maxRecDepth 100000 in
theorem mc_fails (l : Launch) (G : Gt) (Z0 : Zt) (y : Nat) (σ e : St) (hM : MR Z0 y σ e) (e0 : St) (fl0 wh0 : Int32) (he : e = ex e0 fl0 wh0) (nn : Nat) (hnn : nn ≤ 20) (h15 : σ.1 15 0 = nI nn) (kd f : Int32) : Ct l G YX12_fails (0, 0, 0) Z0 [.ref y, .int kd, .int f] (ΦI (fun r Z1 => r = 0 ∧ MF y Z0 Z1 ∧ MR Z1 y (failS σ kd f).2 (ex e0 (-10 - (failS σ kd f).1) f))) := by
  refine ct_of [some (.ref y), some (.int kd), some (.int f)] (by decide +kernel) (Nat.le_of_ble_eq_true rfl) rfl (fun M => ?_)
  have hF := MF.rf y Z0
  subst he
  first | refine q_aload_n dX12_fails_0 rfl ?_ | refine q_aload_nN dX12_fails_0 rfl ?_
  refine q_getf dX12_fails_1 fk_X12_110_11 hM.K (hM.i 15 (by decide) rfl rfl) ?_
  refine q_bipush (v := 20) dX12_fails_4 (by decide) ?_
  refine q_icmp_ne 18 dX12_fails_6 (by decide) (fun c6 => ?_) (fun c6 => ?_)
  · have hn : ¬ 20 ≤ σ.1 15 0 := fun z => by
      rw [h15] at z c6
      have e1 : nn = 20 := by have := (nI_leI (a := 20) (by decide) (show nn < 2 ^ 31 by omega)).mp z; omega
      exact c6 (by rw [e1]; rfl)
    have hsub := sub10 kd
    first | refine q_aload_n dX12_fails_18 rfl ?_ | refine q_aload_nN dX12_fails_18 rfl ?_
    refine q_dup dX12_fails_19 rfl ?_
    refine q_getf dX12_fails_20 fk_X12_110_11 hM.K (hM.i 15 (by decide) rfl rfl) ?_
    refine q_iconst (v := 1) dX12_fails_23 (by decide) ?_
    refine q_iadd dX12_fails_24 ?_
    refine m_puti 15 hM dX12_fails_25 fk_X12_110_11 rfl (by decide) rfl rfl rfl rfl (fun Z hM hF1 => ?_)
    replace hF := hF.tr hF1
    first | refine q_aload_n dX12_fails_28 rfl ?_ | refine q_aload_nN dX12_fails_28 rfl ?_
    refine q_iload_n dX12_fails_29 rfl ?_
    refine m_putx 13 hM dX12_fails_30 fk_X12_113_11 rfl (by decide) rfl rfl rfl rfl (fun Z hM hF1 => ?_)
    replace hF := hF.tr hF1
    first | refine q_aload_n dX12_fails_33 rfl ?_ | refine q_aload_nN dX12_fails_33 rfl ?_
    refine q_iload_n dX12_fails_34 rfl ?_
    refine m_putx 14 hM dX12_fails_35 fk_X12_116_11 rfl (by decide) rfl rfl rfl rfl (fun Z hM hF1 => ?_)
    replace hF := hF.tr hF1
    refine q_iconst (v := 0) dX12_fails_38 (by decide) ?_
    exact q_zreturn dX12_fails_39 rfl rfl (by decide) (by decide) ⟨rfl, hF, by unfold failS; rw [if_neg hn]; rw [ex_p13, ex_p14] at hM; exact MR.x rfl (by rw [hsub]; exact hM)⟩
  · first | refine q_aload_n dX12_fails_9 rfl ?_ | refine q_aload_nN dX12_fails_9 rfl ?_
    refine q_bipush (v := 8) dX12_fails_10 (by decide) ?_
    refine m_putx 13 hM dX12_fails_12 fk_X12_113_11 rfl (by decide) rfl rfl rfl rfl (fun Z hM hF1 => ?_)
    replace hF := hF.tr hF1
    refine q_goto 33 dX12_fails_15 (by decide) ?_
    first | refine q_aload_n dX12_fails_33 rfl ?_ | refine q_aload_nN dX12_fails_33 rfl ?_
    refine q_iload_n dX12_fails_34 rfl ?_
    refine m_putx 14 hM dX12_fails_35 fk_X12_116_11 rfl (by decide) rfl rfl rfl rfl (fun Z hM hF1 => ?_)
    replace hF := hF.tr hF1
    refine q_iconst (v := 0) dX12_fails_38 (by decide) ?_
    exact q_zreturn dX12_fails_39 rfl rfl (by decide) (by decide) ⟨rfl, hF, by unfold failS; rw [if_pos (by rw [c6]; decide)]; rw [ex_p13, ex_p14] at hM; show MR Z y σ (ex e0 (-10 - (-18)) f); rw [show (-10 : Int32) - (-18) = 8 by decide]; exact hM⟩
theorem md_low {x y : Int64} (h0 : ¬ y < 0) (hy : ¬ y = 0) : uN ((x.toUInt64 >>> ((1 : Int32).toInt64.toUInt64 &&& Int64.toUInt64 63)).toInt64 / y * 2) = 2 * (uN x / 2 / uN y) := by
  have hx := uN_lt x
  have h1 : ¬ (x.toUInt64 >>> ((1 : Int32).toInt64.toUInt64 &&& Int64.toUInt64 63)).toInt64 < 0 := by
    rw [uN_neg_iff, uN_half]; omega
  have h2 : uN x / 2 / uN y ≤ uN x / 2 := Nat.div_le_self _ _
  rw [uN_mul, uN_div h1 h0, uN_half, show uN 2 = 2 from rfl]
  omega
theorem md_b1 {r q : Int64} (hb : uN q < 9223372036854775808) (h : r < 0) : ¬ uN r < uN q := by
  rw [uN_neg_iff] at h; omega
theorem md_b2 {r q : Int64} (h0 : ¬ q < 0) (h1 : ¬ r < 0) (h : r < q) : uN r < uN q := by
  have a := (uN_pos h0).1
  have b := (uN_pos h1).1
  have := Int64.lt_iff_toInt_lt.mp h
  omega
theorem md_b3 {r q : Int64} (h0 : ¬ q < 0) (h1 : ¬ r < 0) (h : ¬ r < q) : ¬ uN r < uN q := fun z => h (Int64.lt_iff_toInt_lt.mpr (by
  have a := (uN_pos h0).1
  have b := (uN_pos h1).1
  omega))
set_option maxHeartbeats 600000 in
set_option maxRecDepth 100000 in
theorem mc_divided (l : Launch) (G : Gt) (Z : Zt) (p q : Int64) (h0 : ¬ q < 0) (hq : ¬ q = 0) : Ct l G YX12_divided (0, 0, 0) Z [.long p, .long q] (ΦL (fun r Z1 => Z1 = Z ∧ r = uQ p q)) := by
  refine ct_of [some (.long p), none, some (.long q), none, none, none, none, none] (by decide +kernel) (Nat.le_of_ble_eq_true rfl) rfl (fun M => ?_)
  refine q_lload_n dX12_divided_0 rfl ?_
  refine q_lconst (v := 0) dX12_divided_1 (by decide) ?_
  refine q_lcmp_lt 10 dX12_divided_2 dX12_divided_3 (by decide) (fun c2 => ?_) (fun c2 => ?_)
  · refine q_lload_n dX12_divided_10 rfl ?_
    refine q_iconst (v := 1) dX12_divided_11 (by decide) ?_
    refine q_lushr dX12_divided_12 ?_
    refine q_lload_n dX12_divided_13 rfl ?_
    refine q_ldiv dX12_divided_14 hq ?_
    refine q_ldc2 dX12_divided_15 kl_X12_140 ?_
    refine q_lmul dX12_divided_18 ?_
    refine q_lstore (ls' := [_, _, _, _, _, _, _, _]) dX12_divided_19 rfl rfl (Nat.le_of_ble_eq_true rfl) (by decide) ?_
    refine q_lload_n dX12_divided_21 rfl ?_
    refine q_lload dX12_divided_22 rfl ?_
    refine q_lload_n dX12_divided_24 rfl ?_
    refine q_lmul dX12_divided_25 ?_
    refine q_lsub dX12_divided_26 ?_
    refine q_lstore (ls' := [_, _, _, _, _, _, _, _]) dX12_divided_27 rfl rfl (Nat.le_of_ble_eq_true rfl) (by decide) ?_
    have hh := uQ_half (x := p) h0 hq (md_low (x := p) h0 hq)
    obtain ⟨-, hb⟩ := uN_pos h0
    refine q_lload dX12_divided_29 rfl ?_
    refine q_lconst (v := 0) dX12_divided_31 (by decide) ?_
    refine q_lcmp_lt 43 dX12_divided_32 dX12_divided_33 (by decide) (fun c32 => ?_) (fun c32 => ?_)
    · refine q_lload dX12_divided_43 rfl ?_
      refine q_lconst (v := 1) dX12_divided_45 (by decide) ?_
      refine q_ladd dX12_divided_46 ?_
      refine q_goto 52 dX12_divided_47 (by decide) ?_
      exact q_lreturn dX12_divided_52 rfl (by decide) (by decide) ⟨rfl, hh.2.2.1 (md_b1 hb c32)⟩
    · refine q_lload dX12_divided_36 rfl ?_
      refine q_lload_n dX12_divided_38 rfl ?_
      refine q_lcmp_lt 50 dX12_divided_39 dX12_divided_40 (by decide) (fun c39 => ?_) (fun c39 => ?_)
      · refine q_lload dX12_divided_50 rfl ?_
        exact q_lreturn dX12_divided_52 rfl (by decide) (by decide) ⟨rfl, hh.2.1 (md_b2 h0 c32 c39)⟩
      · refine q_lload dX12_divided_43 rfl ?_
        refine q_lconst (v := 1) dX12_divided_45 (by decide) ?_
        refine q_ladd dX12_divided_46 ?_
        refine q_goto 52 dX12_divided_47 (by decide) ?_
        exact q_lreturn dX12_divided_52 rfl (by decide) (by decide) ⟨rfl, hh.2.2.1 (md_b3 h0 c32 c39)⟩
  · refine q_lload_n dX12_divided_6 rfl ?_
    refine q_lload_n dX12_divided_7 rfl ?_
    refine q_ldiv dX12_divided_8 hq ?_
    exact q_lreturn dX12_divided_9 rfl (by decide) (by decide) ⟨rfl, uN_inj (by rw [uN_div c2 h0, uN_uQ])⟩
def comS (σ : St) (n : Nat) (so pl d : Int32) : St := pI (pI (pI (pI σ 17 n so) 24 n pl) 23 n d) 16 0 (nI (n + 1))
set_option maxHeartbeats 600000 in
set_option maxRecDepth 100000 in
theorem mc_comes (l : Launch) (G : Gt) (Z0 : Zt) (y : Nat) (σ e : St) (hM : MR Z0 y σ e) (ns : Nat) (h16 : σ.1 16 0 = nI ns) (hns : ns < 20) (so pl d : Int32) (hpl : vp_nar .boolean pl = pl) : Ct l G YX12_comes (0, 0, 0) Z0 [.ref y, .int so, .int pl, .int d] (ΦI (fun r Z1 => r = nI ns ∧ MF y Z0 Z1 ∧ MR Z1 y (comS σ ns so pl d) e)) := by
  refine ct_of [some (.ref y), some (.int so), some (.int pl), some (.int d)] (by decide +kernel) (Nat.le_of_ble_eq_true rfl) rfl (fun M => ?_)
  have hF := MF.rf y Z0
  first | refine q_aload_n dX12_comes_0 rfl ?_ | refine q_aload_nN dX12_comes_0 rfl ?_
  refine q_getf dX12_comes_1 fk_X12_44_11 hM.K (hM.a 17 (by decide) (by decide)) ?_
  first | refine q_aload_n dX12_comes_4 rfl ?_ | refine q_aload_nN dX12_comes_4 rfl ?_
  refine q_getf dX12_comes_5 fk_X12_137_11 hM.K (hM.i 16 (by decide) rfl rfl) ?_
  refine q_iload_n dX12_comes_8 rfl ?_
  refine m_iast 17 (ns) hM dX12_comes_9 (by decide) rfl rfl h16 (show ns < 20 by omega) (fun Z hM hF1 => ?_)
  replace hF := hF.tr hF1
  first | refine q_aload_n dX12_comes_10 rfl ?_ | refine q_aload_nN dX12_comes_10 rfl ?_
  refine q_getf dX12_comes_11 fk_X12_65_11 hM.K (hM.a 24 (by decide) (by decide)) ?_
  first | refine q_aload_n dX12_comes_14 rfl ?_ | refine q_aload_nN dX12_comes_14 rfl ?_
  refine q_getf dX12_comes_15 fk_X12_137_11 hM.K (hM.i 16 (by decide) rfl rfl) ?_
  refine q_iload_n dX12_comes_18 rfl ?_
  refine m_zast 24 (ns) hM dX12_comes_19 (by decide) rfl rfl (by rw [pI_ne (by decide)]; exact h16) (show ns < 20 by omega) hpl (fun Z hM hF1 => ?_)
  replace hF := hF.tr hF1
  first | refine q_aload_n dX12_comes_20 rfl ?_ | refine q_aload_nN dX12_comes_20 rfl ?_
  refine q_getf dX12_comes_21 fk_X12_62_11 hM.K (hM.a 23 (by decide) (by decide)) ?_
  first | refine q_aload_n dX12_comes_24 rfl ?_ | refine q_aload_nN dX12_comes_24 rfl ?_
  refine q_getf dX12_comes_25 fk_X12_137_11 hM.K (hM.i 16 (by decide) rfl rfl) ?_
  refine q_iload_n dX12_comes_28 rfl ?_
  refine m_iast 23 (ns) hM dX12_comes_29 (by decide) rfl rfl (by rw [pI_ne (by decide), pI_ne (by decide)]; exact h16) (show ns < 20 by omega) (fun Z hM hF1 => ?_)
  replace hF := hF.tr hF1
  first | refine q_aload_n dX12_comes_30 rfl ?_ | refine q_aload_nN dX12_comes_30 rfl ?_
  refine q_dup dX12_comes_31 rfl ?_
  refine q_getf dX12_comes_32 fk_X12_137_11 hM.K (hM.i 16 (by decide) rfl rfl) ?_
  refine q_iconst (v := 1) dX12_comes_35 (by decide) ?_
  refine q_iadd dX12_comes_36 ?_
  refine m_puti 16 hM dX12_comes_37 fk_X12_137_11 rfl (by decide) rfl rfl rfl rfl (fun Z hM hF1 => ?_)
  replace hF := hF.tr hF1
  first | refine q_aload_n dX12_comes_40 rfl ?_ | refine q_aload_nN dX12_comes_40 rfl ?_
  refine q_getf dX12_comes_41 fk_X12_137_11 hM.K (hM.i 16 (by decide) rfl rfl) ?_
  refine q_iconst (v := 1) dX12_comes_44 (by decide) ?_
  refine q_isub dX12_comes_45 ?_
  rw [pI_ne (by decide), pI_ne (by decide), pI_ne (by decide), h16, nI_1] at hM
  rw [pI_at, pI_ne (by decide), pI_ne (by decide), pI_ne (by decide), h16, nI_1, nI_pred]
  exact q_ireturn dX12_comes_46 rfl (by decide) (by decide) ⟨rfl, hF, hM⟩
