theorem min_nI {n m : Nat} (hn : n ≤ 200) (hm : m ≤ 1200) : (if nI m < nI n then nI m else nI n) = nI (min n m) := by
  by_cases h : m < n
  · rw [if_pos (nI_lt h (by omega)), Nat.min_eq_right (by omega)]
  · rw [if_neg (nI_nlt (by omega) (by omega)), Nat.min_eq_left (by omega)]
theorem At_rev {g h : Nat → Int64} {f : Nat} {L : List Int64} (hL : At h f L) (hg : ∀ j, j < L.length → g (f + j) = h (f + (L.length - 1 - j))) : At g f L.reverse := by
  intro i y hy
  have hi : i < L.length := by have := (List.getElem?_eq_some_iff.mp hy).1; simpa using this
  rw [hg i hi]
  rw [List.getElem?_reverse hi] at hy
  exact hL _ y hy
theorem At_take {g : Nat → Int64} {f n : Nat} {L : List Int64} (h : At g f L) : At g f (L.take n) := by
  intro i y hy
  refine h i y ?_
  rw [List.getElem?_take] at hy
  split at hy
  · exact hy
  · cases hy
/-- the pool alone has changed, from f on -/
def poolP (x f : Nat) (Z : Zt) (K : List Int64) (r : Int32) (Z1 : Zt) : Prop := r = nI K.length ∧ ∃ g, Z1 = tJ Z (x + 11) g ∧ At g f K ∧ ∀ j, j < f → g j = zJ Z (x + 11) j
theorem poolP.gP {x f nf : Nat} {Z Z1 : Zt} {K : List Int64} {r : Int32} {af : Nat → Nat} {σ : St} (h : poolP x f Z K r Z1) (hF : FIs Z x σ af nf) (hb : brO Z x σ) (hl : bLe σ) : gP x af nf f Z (.inr K, σ) r Z1 := by
  obtain ⟨h1, g, rfl, h2, h3⟩ := h
  refine ⟨FIs_pool hF g, hb.cong rfl (by rw [zJ_tJ, if_neg (by omega)]) rfl rfl rfl rfl rfl rfl, hl, GF_pool x Z g, fun j hj => by rw [zJ_tJ, if_pos rfl]; exact h3 j hj, h1, by rw [zJ_tJ, if_pos rfl]; exact h2⟩
set_option maxHeartbeats 600000 in
set_option maxRecDepth 100000 in
theorem cg_one5 (l : Launch) (G : Gt) (Z : Zt) (x a f : Nat) (L : List Int64) (hC : CL0 Z x) (hK : zK Z a = 8) (hfn : f + L.length ≤ 1200) (hL : At (zJ Z (x + 11)) f L) (h0 : zF Z 0 a = .int 5)  : Ct l G YX8_keepOfOne (11, 0, 0) Z [.ref a, .ref (x + 11), .int (nI f), .int (nI (f + L.length)), .ref (x + 5)] (ΦI (poolP x f Z L.reverse)) := by
  refine ct_of [some (.ref a), some (.ref (x + 11)), some (.int (nI f)), some (.int (nI (f + L.length))), some (.ref (x + 5))] (by decide +kernel) (Nat.le_of_ble_eq_true rfl) rfl (fun M => ?_)
  first | refine q_aload_n dX8_keepOfOne_0 rfl ?_ | refine q_aload_nN dX8_keepOfOne_0 rfl ?_
  refine q_getf dX8_keepOfOne_1 fk_X8_11_7 hK h0 ?_
  refine q_tableIn 36 dX8_keepOfOne_4 (by decide) (by decide) (off := 32) (by decide) (by decide) ?_
  first | refine q_aload_n dX8_keepOfOne_36 rfl ?_ | refine q_aload_nN dX8_keepOfOne_36 rfl ?_
  refine q_iload_n dX8_keepOfOne_37 rfl ?_
  refine q_iload_n dX8_keepOfOne_38 rfl ?_
  refine q_callS dX8_keepOfOne_39 mk_X8_113 (c_X8_turn l G Z (x + 11) f L.length hC.2.2.2.1.2.2.2.2.1 hC.2.2.2.1.2.2.2.2.2 hfn) rfl np_X8_turn (by decide) (by decide) (by decide) (Nat.le_of_ble_eq_true rfl) (kV (fun Z1 h => ?_))
  obtain ⟨g, rfl, h1, h2⟩ := h
  refine q_iload_n dX8_keepOfOne_42 rfl ?_
  refine q_iload_n dX8_keepOfOne_43 rfl ?_
  refine q_isub dX8_keepOfOne_44 ?_
  exact q_ireturn dX8_keepOfOne_45 rfl (by decide) (by decide) ⟨by rw [pk_sub (by omega), List.length_reverse]; congr 1; omega, g, rfl, At_rev hL h1, fun j hj => h2 j (Or.inl hj)⟩
set_option maxHeartbeats 600000 in
set_option maxRecDepth 100000 in
theorem cg_one6 (l : Launch) (G : Gt) (Z : Zt) (x a f : Nat) (L : List Int64) (hC : CL0 Z x) (hK : zK Z a = 8) (hfn : f + L.length ≤ 1200) (hL : At (zJ Z (x + 11)) f L) (h0 : zF Z 0 a = .int 6) (v : Int64) (n : Nat) (h8 : zF Z 8 a = .long v) (h7 : zF Z 7 a = .int (nI n)) (hn : n ≤ 200) : Ct l G YX8_keepOfOne (11, 0, 0) Z [.ref a, .ref (x + 11), .int (nI f), .int (nI (f + L.length)), .ref (x + 5)] (ΦI (poolP x f Z ((srtR v L).reverse.take n))) := by
  refine ct_of [some (.ref a), some (.ref (x + 11)), some (.int (nI f)), some (.int (nI (f + L.length))), some (.ref (x + 5))] (by decide +kernel) (Nat.le_of_ble_eq_true rfl) rfl (fun M => ?_)
  first | refine q_aload_n dX8_keepOfOne_0 rfl ?_ | refine q_aload_nN dX8_keepOfOne_0 rfl ?_
  refine q_getf dX8_keepOfOne_1 fk_X8_11_7 hK h0 ?_
  refine q_tableIn 46 dX8_keepOfOne_4 (by decide) (by decide) (off := 42) (by decide) (by decide) ?_
  first | refine q_aload_n dX8_keepOfOne_46 rfl ?_ | refine q_aload_nN dX8_keepOfOne_46 rfl ?_
  first | refine q_aload_n dX8_keepOfOne_47 rfl ?_ | refine q_aload_nN dX8_keepOfOne_47 rfl ?_
  refine q_iload_n dX8_keepOfOne_48 rfl ?_
  refine q_iload_n dX8_keepOfOne_49 rfl ?_
  refine q_callV 7 dX8_keepOfOne_50 mk_X8_117 rfl hK (c_X8_sortByNearness l G Z a v hK h8 (x + 11) f L hC.2.2.2.1.2.2.2.2.1 hC.2.2.2.1.2.2.2.2.2 hfn hL) rfl np_X8_sortByNearness (by decide) (by decide) (by decide) (Nat.le_of_ble_eq_true rfl) (kV (fun Z1 h => ?_))
  obtain ⟨g, rfl, h1, h2⟩ := h
  first | refine q_aload_n dX8_keepOfOne_53 rfl ?_ | refine q_aload_nN dX8_keepOfOne_53 rfl ?_
  refine q_getf dX8_keepOfOne_54 fk_X8_37_7 hK h7 ?_
  refine q_iload_n dX8_keepOfOne_57 rfl ?_
  refine q_iload_n dX8_keepOfOne_58 rfl ?_
  refine q_isub dX8_keepOfOne_59 ?_
  refine q_mmin dX8_keepOfOne_60 mk_X8_120 (by decide) (Nat.le_of_ble_eq_true rfl) (by decide) (by decide) ?_
  exact q_ireturn dX8_keepOfOne_63 rfl (by decide) (by decide) ⟨by rw [pk_sub (by omega), show f + L.length - f = L.length by omega, List.length_take, List.length_reverse, srtR_len]; exact min_nI hn (by omega), g, rfl, At_take h1, fun j hj => h2 j (Or.inl hj)⟩
set_option maxHeartbeats 600000 in
set_option maxRecDepth 100000 in
theorem cg_one8 (l : Launch) (G : Gt) (Z : Zt) (x a f : Nat) (L : List Int64) (hC : CL0 Z x) (hK : zK Z a = 8) (hfn : f + L.length ≤ 1200) (hL : At (zJ Z (x + 11)) f L) (h0 : zF Z 0 a = .int 8) (m : Nat) (h7 : zF Z 7 a = .int (nI m)) (hm : 1 ≤ m) (hm2 : m ≤ 200) : Ct l G YX8_keepOfOne (11, 0, 0) Z [.ref a, .ref (x + 11), .int (nI f), .int (nI (f + L.length)), .ref (x + 5)] (ΦI (poolP x f Z (evL m L))) := by
  refine ct_of [some (.ref a), some (.ref (x + 11)), some (.int (nI f)), some (.int (nI (f + L.length))), some (.ref (x + 5))] (by decide +kernel) (Nat.le_of_ble_eq_true rfl) rfl (fun M => ?_)
  first | refine q_aload_n dX8_keepOfOne_0 rfl ?_ | refine q_aload_nN dX8_keepOfOne_0 rfl ?_
  refine q_getf dX8_keepOfOne_1 fk_X8_11_7 hK h0 ?_
  refine q_tableIn 64 dX8_keepOfOne_4 (by decide) (by decide) (off := 60) (by decide) (by decide) ?_
  first | refine q_aload_n dX8_keepOfOne_64 rfl ?_ | refine q_aload_nN dX8_keepOfOne_64 rfl ?_
  first | refine q_aload_n dX8_keepOfOne_65 rfl ?_ | refine q_aload_nN dX8_keepOfOne_65 rfl ?_
  refine q_iload_n dX8_keepOfOne_66 rfl ?_
  refine q_iload_n dX8_keepOfOne_67 rfl ?_
  refine q_callV 7 dX8_keepOfOne_68 mk_X8_123 rfl hK (c_X8_keepEvery l G Z a (x + 11) f m L hK h7 hm hm2 hC.2.2.2.1.2.2.2.2.1 hC.2.2.2.1.2.2.2.2.2 hfn hL) rfl np_X8_keepEvery (by decide) (by decide) (by decide) (Nat.le_of_ble_eq_true rfl) (kI (fun r Z1 h => ?_))
  exact q_ireturn dX8_keepOfOne_71 rfl (by decide) (by decide) (by obtain ⟨e1, g, e2, e3, e4⟩ := h; exact ⟨e1, g, e2, e3, fun j hj => e4 j (Or.inl hj)⟩)
set_option maxHeartbeats 600000 in
set_option maxRecDepth 100000 in
theorem cg_one7 (l : Launch) (G : Gt) (Z : Zt) (x nf fi a f : Nat) (af : Nat → Nat) (σ : St) (L : List Int64) (hF : FIs Z x σ af nf) (hb : brO Z x σ) (hbl : bLe σ) (hfi : fi < nf) (ha : x + 61 ≤ a) (hK : zK Z a = 8) (h0 : zF Z 0 a = .int 7) (h6 : zF Z 6 a = .ref (af fi)) (hfn : f + L.length ≤ 1200) (hL : At (zJ Z (x + 11)) f L) : Ct l G YX8_keepOfOne (11, 0, 0) Z [.ref a, .ref (x + 11), .int (nI f), .int (nI (f + L.length)), .ref (x + 5)] (ΦI (gP x af nf f Z (pS fi L σ))) := by
  refine ct_of [some (.ref a), some (.ref (x + 11)), some (.int (nI f)), some (.int (nI (f + L.length))), some (.ref (x + 5))] (by decide +kernel) (Nat.le_of_ble_eq_true rfl) rfl (fun M => ?_)
  first | refine q_aload_n dX8_keepOfOne_0 rfl ?_ | refine q_aload_nN dX8_keepOfOne_0 rfl ?_
  refine q_getf dX8_keepOfOne_1 fk_X8_11_7 hK h0 ?_
  refine q_tableIn 72 dX8_keepOfOne_4 (by decide) (by decide) (off := 68) (by decide) (by decide) ?_
  first | refine q_aload_n dX8_keepOfOne_72 rfl ?_ | refine q_aload_nN dX8_keepOfOne_72 rfl ?_
  first | refine q_aload_n dX8_keepOfOne_73 rfl ?_ | refine q_aload_nN dX8_keepOfOne_73 rfl ?_
  refine q_iload_n dX8_keepOfOne_74 rfl ?_
  refine q_iload_n dX8_keepOfOne_75 rfl ?_
  first | refine q_aload dX8_keepOfOne_76 rfl ?_ | refine q_aloadN dX8_keepOfOne_76 rfl ?_
  refine q_callV 7 dX8_keepOfOne_78 mk_X8_127 rfl hK (cg_passing l G Z x nf fi a f af σ L hF hb hbl hfi ha hK h6 hfn hL) rfl np_X8_keepPassing (by decide) (by decide) (by decide) (Nat.le_of_ble_eq_true rfl) (kI (fun r Z1 h => ?_))
  exact q_ireturn dX8_keepOfOne_81 rfl (by decide) (by decide) h
