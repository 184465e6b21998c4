theorem len_cmp {L k : Nat} (hL : L ≤ 4096) (hk : 8 * k ≤ L) : (nI L - 8 < nI (8 * k) → L < 8 * k + 8) ∧ (¬ nI L - 8 < nI (8 * k) → 8 * k + 8 ≤ L) := by
  have e1 : (nI L - 8).toInt = (L : Int) - 8 := pk_sub_toInt (a := L) (b := 8) (by omega) (by omega)
  have e2 : (nI (8 * k)).toInt = ((8 * k : Nat) : Int) := nI_toInt (by omega)
  rw [Int32.lt_iff_toInt_lt, e1, e2]
  omega
set_option maxHeartbeats 600000 in
set_option maxRecDepth 100000 in
theorem law_loop (l : Launch) (hl : l.stackTraces = false) (G : Gt) (nm : String) (M : Mt) (Q : State → Prop) (b L : Nat) (xs : Nat → Int32) (hSX : SX G M b L xs) (hX : KX G M.2.2.2.1) (x : Nat) (hE : ∀ Z c s ls, c ≤ 601024 → s ≤ 7293034 → Jd l G (YLw nm) BLw M Z c s Q 1350 ls [.int 1]) : ∀ (m k cells slots : Nat) (Z : Zt) (o5 o6 : Option Value), L < 8 * (k + m) + 8 → 8 * k ≤ L → cells ≤ 61 + 4 * k → slots ≤ 5863 + 29 * k → LV x Z → Jd l G (YLw nm) BLw M Z cells slots Q 23 [some (.ref b), some (.ref x), some (.ref (x + 30)), some (.ref (x + 60)), some (.int (nI (8 * k))), o5, o6, none] [] := by
  have hL := hSX.2.2.2
  intro m
  induction m with
  | zero =>
    intro k cells slots Z o5 o6 hm hk8 hc hs hV
    refine q_iload dL_law_23 rfl ?_
    refine q_aload_n dL_law_25 rfl ?_
    refine q_slen hSX dL_law_26 ?_
    refine q_bipush (v := 8) dL_law_27 (by decide) ?_
    refine q_isub dL_law_29 ?_
    refine q_icmp_gt 1349 dL_law_30 (by decide) (fun c30 => ?_) (fun c30 => absurd ((len_cmp hL hk8).2 c30) (by omega))
    refine q_iconst (v := 1) dL_law_1349 (by decide) ?_
    exact hE _ _ _ _ (by omega) (by omega)
  | succ m ih =>
    intro k cells slots Z o5 o6 hm hk8 hc hs hV
    refine q_iload dL_law_23 rfl ?_
    refine q_aload_n dL_law_25 rfl ?_
    refine q_slen hSX dL_law_26 ?_
    refine q_bipush (v := 8) dL_law_27 (by decide) ?_
    refine q_isub dL_law_29 ?_
    refine q_icmp_gt 1349 dL_law_30 (by decide) (fun c30 => ?_) (fun c30 => ?_)
    · refine q_iconst (v := 1) dL_law_1349 (by decide) ?_
      exact hE _ _ _ _ (by omega) (by omega)
    · have hk := (len_cmp hL hk8).2 c30
      have kk : ∀ Z' o5 o6, LV x Z' → Jd l G (YLw nm) BLw M Z' (cells + 4) (slots + 29) Q 1343 [some (.ref b), some (.ref x), some (.ref (x + 30)), some (.ref (x + 60)), some (.int (nI (8 * k))), o5, o6, none] [] := by
        intro Z' o5 o6 hV'
        refine q_iinc 8 (ls' := [_, _, _, _, _, _, _, _]) dL_law_1343 rfl (by decide) rfl rfl (Nat.le_of_ble_eq_true rfl) (Nat.le_of_ble_eq_true rfl) ?_
        refine q_goto 23 dL_law_1346 (by decide) ?_
        rw [show nI (8 * k) + 8 = nI (8 * (k + 1)) from nI_add (8 * k) 8]
        exact ih (k + 1) (cells + 4) (slots + 29) Z' o5 o6 (by omega) (by omega) (by omega) (by omega) hV'
      refine q_aload_n dL_law_33 rfl ?_
      refine q_iload dL_law_34 rfl ?_
      refine q_sld (8 * k) hSX dL_law_36 rfl (by omega) ?_
      refine q_bipush (v := 31) dL_law_37 (by decide) ?_
      refine q_iand dL_law_39 ?_
      refine q_tsw [(0, 136), (1, 185), (2, 266), (3, 303), (4, 396), (5, 465), (6, 490), (7, 637), (8, 650), (9, 719), (10, 840), (11, 865), (12, 879), (13, 966), (14, 1024), (15, 1111), (16, 1124), (17, 1161), (18, 1216), (19, 1318)] 1343 dL_law_40 (by decide) (by decide) (by decide) (by decide) (fun q hq c40 => ?_) (fun c40 => ?_)
      · have hcl : cells + 8 ≤ 601024 := by omega
        have hsl : slots + 64 ≤ 7293034 := by omega
        rcases List.mem_cons.mp hq with rfl | hq
        · exact jl_0 l hl G nm M Q b L xs hSX hX k cells slots hk hcl hsl x Z hV o5 o6 kk
        rcases List.mem_cons.mp hq with rfl | hq
        · exact jl_1 l hl G nm M Q b L xs hSX hX k cells slots hk hcl hsl x Z hV o5 o6 kk
        rcases List.mem_cons.mp hq with rfl | hq
        · exact jl_2 l hl G nm M Q b L xs hSX hX k cells slots hk hcl hsl x Z hV o5 o6 kk
        rcases List.mem_cons.mp hq with rfl | hq
        · exact jl_3 l hl G nm M Q b L xs hSX hX k cells slots hk hcl hsl x Z hV o5 o6 kk
        rcases List.mem_cons.mp hq with rfl | hq
        · exact jl_4 l hl G nm M Q b L xs hSX hX k cells slots hk hcl hsl x Z hV o5 o6 kk
        rcases List.mem_cons.mp hq with rfl | hq
        · exact jl_5 l hl G nm M Q b L xs hSX hX k cells slots hk hcl hsl x Z hV o5 o6 kk
        rcases List.mem_cons.mp hq with rfl | hq
        · exact jl_6 l hl G nm M Q b L xs hSX hX k cells slots hk hcl hsl x Z hV o5 o6 kk
        rcases List.mem_cons.mp hq with rfl | hq
        · exact jl_7 l hl G nm M Q b L xs hSX hX k cells slots hk hcl hsl x Z hV o5 o6 kk
        rcases List.mem_cons.mp hq with rfl | hq
        · exact jl_8 l hl G nm M Q b L xs hSX hX k cells slots hk hcl hsl x Z hV o5 o6 kk
        rcases List.mem_cons.mp hq with rfl | hq
        · exact jl_9 l hl G nm M Q b L xs hSX hX k cells slots hk hcl hsl x Z hV o5 o6 kk
        rcases List.mem_cons.mp hq with rfl | hq
        · exact jl_10 l hl G nm M Q b L xs hSX hX k cells slots hk hcl hsl x Z hV o5 o6 kk
        rcases List.mem_cons.mp hq with rfl | hq
        · exact jl_11 l hl G nm M Q b L xs hSX hX k cells slots hk hcl hsl x Z hV o5 o6 kk
        rcases List.mem_cons.mp hq with rfl | hq
        · exact jl_12 l hl G nm M Q b L xs hSX hX k cells slots hk hcl hsl x Z hV o5 o6 kk
        rcases List.mem_cons.mp hq with rfl | hq
        · exact jl_13 l hl G nm M Q b L xs hSX hX k cells slots hk hcl hsl x Z hV o5 o6 kk
        rcases List.mem_cons.mp hq with rfl | hq
        · exact jl_14 l hl G nm M Q b L xs hSX hX k cells slots hk hcl hsl x Z hV o5 o6 kk
        rcases List.mem_cons.mp hq with rfl | hq
        · exact jl_15 l hl G nm M Q b L xs hSX hX k cells slots hk hcl hsl x Z hV o5 o6 kk
        rcases List.mem_cons.mp hq with rfl | hq
        · exact jl_16 l hl G nm M Q b L xs hSX hX k cells slots hk hcl hsl x Z hV o5 o6 kk
        rcases List.mem_cons.mp hq with rfl | hq
        · exact jl_17 l hl G nm M Q b L xs hSX hX k cells slots hk hcl hsl x Z hV o5 o6 kk
        rcases List.mem_cons.mp hq with rfl | hq
        · exact jl_18 l hl G nm M Q b L xs hSX hX k cells slots hk hcl hsl x Z hV o5 o6 kk
        rcases List.mem_cons.mp hq with rfl | hq
        · exact jl_19 l hl G nm M Q b L xs hSX hX k cells slots hk hcl hsl x Z hV o5 o6 kk
        exact absurd hq List.not_mem_nil
      · exact q_widen (Nat.le_add_right _ 4) (Nat.le_add_right _ 29) (kk Z o5 o6 hV)
set_option maxHeartbeats 600000 in
set_option maxRecDepth 100000 in
theorem law_run (l : Launch) (hl : l.stackTraces = false) (G : Gt) (nm : String) (M : Mt) (Q : State → Prop) (b L : Nat) (xs : Nat → Int32) (hSX : SX G M b L xs) (hX : KX G M.2.2.2.1) (hE : ∀ Z c s ls, c ≤ 601024 → s ≤ 7293034 → Jd l G (YLw nm) BLw M Z c s Q 1350 ls [.int 1]) (Z0 : Zt) (hW : WN Z0) : Jd l G (YLw nm) BLw M Z0 0 0 Q 0 [some (.ref b), none, none, none, none, none, none, none] [] := by
  refine q_new dL_law_0 nk_L_8 rfl (by decide) (by decide) ?_
  refine q_dup dL_law_3 rfl ?_
  refine q_callI dL_law_4 mk_L_22 rfl (cc_init l G _ (zN Z0) zN_nO zK_nO' ((Fr_nO (n := 0) (Nat.zero_le _)).wn hW) zF_nO' zF_nO') rfl np_X11_init (by decide) (by decide) (by decide) (Nat.le_of_ble_eq_true rfl) (kV (fun Za ha => ?_))
  refine q_astore_n (ls' := [_, _, _, _, _, _, _, _]) dL_law_7 rfl rfl (Nat.le_of_ble_eq_true rfl) (Nat.le_of_ble_eq_true rfl) ?_
  refine q_new dL_law_8 nk_L_23 rfl (by decide) (by decide) ?_
  refine q_dup dL_law_11 rfl ?_
  refine q_callI dL_law_12 mk_L_25 rfl (mc_init l G Za _ (zN Za) (IM_new ha.2.1)) rfl np_X12_init (by decide) (by decide) (by decide) (Nat.le_of_ble_eq_true rfl) (kV (fun Zb hb => ?_))
  refine q_astore_n (ls' := [_, _, _, _, _, _, _, _]) dL_law_15 rfl rfl (Nat.le_of_ble_eq_true rfl) (Nat.le_of_ble_eq_true rfl) ?_
  refine q_iconst (v := 1) dL_law_16 (by decide) ?_
  refine q_newa (w := 1) (N := 1) dL_law_17 rfl (by decide) ac_1 (by decide) rfl (by decide) (by decide) (by decide) ?_
  refine q_astore_n (ls' := [_, _, _, _, _, _, _, _]) dL_law_19 rfl rfl (Nat.le_of_ble_eq_true rfl) (Nat.le_of_ble_eq_true rfl) ?_
  refine q_iconst (v := 0) dL_law_20 (by decide) ?_
  refine q_istore (ls' := [_, _, _, _, _, _, _, _]) dL_law_21 rfl rfl (Nat.le_of_ble_eq_true rfl) (Nat.le_of_ble_eq_true rfl) ?_
  have nA1 : zN Za = zN Z0 + 30 := ha.1
  have nB1 : zN Zb = zN Z0 + 60 := by have := hb.1; omega
  have hV : LV (zN Z0) (nA Zb (20 + 1) 1) := by
    have hWb : WN Zb := hb.2.2.2.2.2.2
    refine ⟨σ0, σ0, fun _ => 0, fun _ => 0, 0, 0, CR_0 ha (fun c h1 h2 => (hb.2.2.2.2.2.1 c (by omega)).tr (Eq1_nA (by omega))) ((Fr_nA (n := 0) (Nat.zero_le _)).wn hWb) (by rw [zN_nA]; omega), ?_, ?_, PX_0⟩
    · rw [← nA1]
      exact hb.mr (fun c h1 h2 => Eq1_nA (by omega))
    · rw [← nB1]
      exact ⟨zK_nA', zL_nA'⟩
  rw [nA1, nB1]
  have hgo := law_loop l hl G nm M Q b L xs hSX hX (zN Z0) hE L 0 61 5863 (nA Zb (20 + 1) 1) none none (by omega) (by omega) (by omega) (by omega) hV
  rw [show nI (8 * 0) = 0 from nI_0] at hgo
  exact hgo
theorem lt_in (i : Nat) {w : Cond} (h : tables_1[i]? = some w) : w ∈ lw_tbl := List.mem_append_right _ (List.mem_of_getElem? h)
theorem cl_ins {c : Nat} {q : vw_C} (hq : vwCl[c]? = some q) : Cond.instantiable q.1 q.2.2 ∈ WS := by
  match c, hq with
  | 0, hq => obtain ⟨q9, h1, -, h2, -⟩ := nk_X11_15; cases hq.symm.trans h1; exact h2
  | 1, hq => obtain ⟨q9, h1, -, h2, -⟩ := nk_X11_245; cases hq.symm.trans h1; exact h2
  | 2, hq => obtain ⟨q9, h1, -, h2, -⟩ := nk_X11_235; cases hq.symm.trans h1; exact h2
  | 3, hq => obtain ⟨q9, h1, -, h2, -⟩ := nk_X11_95; cases hq.symm.trans h1; exact h2
  | 4, hq => obtain ⟨q9, h1, -, h2, -⟩ := nk_X11_40; cases hq.symm.trans h1; exact h2
  | 5, hq => obtain ⟨q9, h1, -, h2, -⟩ := nk_X11_9; cases hq.symm.trans h1; exact h2
  | 6, hq => obtain ⟨q9, h1, -, h2, -⟩ := nk_X11_240; cases hq.symm.trans h1; exact h2
  | 7, hq => obtain ⟨q9, h1, -, h2, -⟩ := nk_X11_27; cases hq.symm.trans h1; exact h2
  | 8, hq => obtain ⟨q9, h1, -, h2, -⟩ := nk_X11_122; cases hq.symm.trans h1; exact h2
  | 9, hq => obtain ⟨q9, h1, -, h2, -⟩ := nk_X11_33; cases hq.symm.trans h1; exact h2
  | 10, hq => obtain ⟨q9, h1, -, h2, -⟩ := nk_L_8; cases hq.symm.trans h1; exact h2
  | 11, hq => obtain ⟨q9, h1, -, h2, -⟩ := nk_L_23; cases hq.symm.trans h1; exact h2
  | c + 12, hq => exact absurd (vwCl_lt hq) (by omega)
theorem arr_p {A : Array Value} {s : State} {k : Nat} (hk : k < 3) (h : (Cond.arrayClass (aTy k)).before A s = true) : ∃ c, ArrOfT s c (aTy k) ∧ va_RA s c (aTy k) := by
  obtain ⟨c, kA, comp, h1, h2, h3⟩ := Cond.arrayClass_spec h
  refine ⟨c, fun n z => ⟨fun k h => (by cases h), kA, h2, comp, h3⟩, ?_⟩
  rcases (show k = 0 ∨ k = 1 ∨ k = 2 by omega) with rfl | rfl | rfl <;> exact h1
theorem arr_o {A : Array Value} {s : State} {C : String} (h : (Cond.arrayOver (.object C)).before A s = true) : ∃ c, ArrOfT s c (.object C) ∧ va_RA s c (.object C) := by
  obtain ⟨comp, c, kA, h1, h2, h3, h4, h5⟩ := Cond.arrayOver_spec h
  exact ⟨c, fun n z => ⟨fun k h => (by cases h), kA, h3, comp, h4⟩, kA, comp, h3, h4, h1, h5⟩
set_option maxRecDepth 100000 in
theorem start_kx {s : State} {A : Array Value} (hts : ∀ w ∈ lw_tbl, w.before A s = true) (hU : (Cond.isRef (.static Bundle.tN "UNASSIGNED_STACK" Bundle.steD)).before A s = true) (hN : (Cond.isRef (.static Bundle.tN "SUPPRESSED_SENTINEL" Bundle.listD)).before A s = true) : ∃ G : Gt, G.2.2.2 = s.heap.size ∧ KX G s := by
  have h1 : ∀ c : Nat, ∃ p : ClassId × (Nat → Nat), ∀ q, vwCl[c]? = some q → u_Kn s q.1 q.2.1 q.2.2 p.1 p.2 := by
    intro c
    by_cases hc : ∃ q, vwCl[c]? = some q
    · obtain ⟨q, hq⟩ := hc
      obtain ⟨cC, iS, hk⟩ := u_known (ws := lw_tbl) (args := A) (s := s) (C := q.1) (T := q.2.1) (N := q.2.2) hts (fun w hw => ws_in (clW hq w hw)) (hts _ (ws_in (cl_ins hq)))
      exact ⟨(cC, iS), fun q' hq' => by cases hq.symm.trans hq'; exact hk⟩
    · exact ⟨(default, fun _ => 0), fun q hq => absurd ⟨q, hq⟩ hc⟩
  obtain ⟨f, hf⟩ := Classical.axiomOfChoice h1
  have h2 : ∀ k : Nat, ∃ c : ClassId, k < 7 → ArrOfT s c (aTy k) ∧ va_RA s c (aTy k) := by
    intro k
    by_cases hk : k < 7
    · rcases (show k = 0 ∨ k = 1 ∨ k = 2 ∨ k = 3 ∨ k = 4 ∨ k = 5 ∨ k = 6 by omega) with rfl | rfl | rfl | rfl | rfl | rfl | rfl
      · obtain ⟨c, h⟩ := arr_p (by omega) (hts _ (ws_in ac_0)); exact ⟨c, fun _ => h⟩
      · obtain ⟨c, h⟩ := arr_p (by omega) (hts _ (ws_in ac_1)); exact ⟨c, fun _ => h⟩
      · obtain ⟨c, h⟩ := arr_p (by omega) (hts _ (ws_in ac_2)); exact ⟨c, fun _ => h⟩
      · obtain ⟨c, h⟩ := arr_o (C := RX0) (hts _ (lt_in 31 (by decide +kernel))); exact ⟨c, fun _ => h⟩
      · obtain ⟨c, h⟩ := arr_o (C := RX2) (hts _ (lt_in 33 (by decide +kernel))); exact ⟨c, fun _ => h⟩
      · obtain ⟨c, h⟩ := arr_o (C := RX6) (hts _ (lt_in 29 (by decide +kernel))); exact ⟨c, fun _ => h⟩
      · obtain ⟨c, h⟩ := arr_o (C := RX8) (hts _ (lt_in 35 (by decide +kernel))); exact ⟨c, fun _ => h⟩
    · exact ⟨default, fun z => absurd z hk⟩
  obtain ⟨g, hg⟩ := Classical.axiomOfChoice h2
  refine ⟨(fun c => (f c).1, fun c => (f c).2, g, s.heap.size), rfl, ⟨⟨fun c q hq => hf c q hq, fun k q hk => ?_⟩, ?_, ?_, ?_, ?_⟩, ?_, ?_, ?_, ?_⟩
  · have hk7 : k < 7 := by
      have := (List.getElem?_eq_some_iff.mp hk).1
      simpa [TYs] using this
    rw [ty_at hk7] at hk
    cases hk
    exact hg k hk7
  · intro w hw
    simp only [nwl, List.mem_cons, List.not_mem_nil, or_false] at hw
    rcases hw with rfl | rfl | rfl | rfl | rfl | rfl | rfl | rfl | rfl | rfl
    · exact va_Nw.of rfl (hts _ (lt_in 38 (by decide +kernel)))
    · exact va_Nw.of rfl (hts _ (lt_in 70 (by decide +kernel)))
    · exact va_Nw.of rfl (hts _ (lt_in 86 (by decide +kernel)))
    · exact va_Nw.of rfl (hts _ (lt_in 552 (by decide +kernel)))
    · exact va_Nw.of rfl (hts _ (lt_in 555 (by decide +kernel)))
    · exact va_Nw.of rfl (hts _ (lt_in 577 (by decide +kernel)))
    · exact va_Nw.of rfl (hts _ (lt_in 584 (by decide +kernel)))
    · exact va_Nw.of rfl (hts _ (lt_in 606 (by decide +kernel)))
    · exact va_Nw.of rfl (hts _ (lt_in 607 (by decide +kernel)))
    · exact va_Nw.of rfl (hts _ (lt_in 610 (by decide +kernel)))
  · exact va_Nw.of rfl (hts _ (lt_in 318 (by decide +kernel)))
  · intro C hC
    simp only [List.mem_cons, List.not_mem_nil, or_false] at hC
    rcases hC with rfl | rfl | rfl | rfl
    · exact va_Nw.of rfl (hts _ (lt_in 1015 (by decide +kernel)))
    · exact va_Nw.of rfl (hts _ (lt_in 1016 (by decide +kernel)))
    · exact va_Nw.of rfl (hts _ (lt_in 1017 (by decide +kernel)))
    · exact va_Nw.of rfl (hts _ (lt_in 1018 (by decide +kernel)))
  · intro C hC
    simp only [List.mem_cons, List.not_mem_nil, or_false] at hC
    rcases hC with rfl | rfl | rfl | rfl
    · exact va_AO.of (A := A) (hts _ (lt_in 31 (by decide +kernel)))
    · exact va_AO.of (A := A) (hts _ (lt_in 33 (by decide +kernel)))
    · exact va_AO.of (A := A) (hts _ (lt_in 29 (by decide +kernel)))
    · exact va_AO.of (A := A) (hts _ (lt_in 35 (by decide +kernel)))
  · intro w hw
    simp only [xB, List.mem_cons, List.not_mem_nil, or_false] at hw
    rcases hw with rfl | rfl | rfl | rfl
    · exact va_Nw.of rfl (hts _ (lt_in 644 (by decide +kernel)))
    · exact va_Nw.of rfl (hts _ (lt_in 646 (by decide +kernel)))
    · exact va_Nw.of rfl (hts _ (lt_in 648 (by decide +kernel)))
    · exact va_Nw.of rfl (hts _ (lt_in 642 (by decide +kernel)))
  · have hc := (hf 10 _ rfl).2.1
    refine ⟨?_, ?_, ?_⟩
    · have hw : (Cond.stringRef RX11 190 "the range has no such number").before A s = true := (hts _ (lt_in 679 (by decide +kernel)))
      obtain ⟨-, -, -, a, -, -, -, -, -, hev⟩ := Cond.stringRef_spec hc hw
      exact ⟨a, vk_R.of hw hev⟩
    · have hw : (Cond.stringRef RX11 202 "the range has no numbers").before A s = true := (hts _ (lt_in 718 (by decide +kernel)))
      obtain ⟨-, -, -, a, -, -, -, -, -, hev⟩ := Cond.stringRef_spec hc hw
      exact ⟨a, vk_R.of hw hev⟩
    · have hw : (Cond.stringRef RX11 220 "no such number was barred").before A s = true := (hts _ (lt_in 727 (by decide +kernel)))
      obtain ⟨-, -, -, a, -, -, -, -, -, hev⟩ := Cond.stringRef_spec hc hw
      exact ⟨a, vk_R.of hw hev⟩
  · exact vx_Zqof (hts _ (lt_in 667 (by decide +kernel))) (hts _ (lt_in 16 (by decide +kernel))) hU (fun a ha => Nat.not_le.mpr ha)
  · exact vx_Zqof (hts _ (lt_in 669 (by decide +kernel))) (hts _ (lt_in 16 (by decide +kernel))) hN (fun a ha => Nat.not_le.mpr ha)
