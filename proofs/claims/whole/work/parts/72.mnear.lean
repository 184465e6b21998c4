theorem selL_snoc (b : Bool) (L2 L1 : List Int64) (x : Int64) : selL b L2 (L1 ++ [x]) = if (L2.contains x == b) = true then selL b L2 L1 ++ [x] else selL b L2 L1 := by
  unfold selL
  rw [List.filter_append]
  by_cases h : (L2.contains x == b) = true
  · rw [if_pos h, List.filter_cons, if_pos h, List.filter_nil]
  · rw [if_neg h, List.filter_cons, if_neg h, List.filter_nil, List.append_nil]
theorem take_snoc {L : List Int64} {k : Nat} (h : k < L.length) : L.take (k + 1) = L.take k ++ [L[k]] := by
  rw [List.take_add_one, List.getElem?_eq_getElem h]; rfl
theorem sel_cond {a so : Int32} {c : Bool} (h : rb a (c = true)) : (a = 1 ∧ so = 3 ∨ a = 0 ∧ ¬ so = 3) ↔ (c == decide (so = 3)) = true := by
  cases c with
  | true =>
    have ha := h.1 rfl
    subst ha
    by_cases e : so = 3 <;> simp [e]
  | false =>
    have ha := h.2 (by decide)
    subst ha
    by_cases e : so = 3 <;> simp [e]
set_option maxHeartbeats 600000 in
set_option maxRecDepth 100000 in
theorem mg_sel (l : Launch) (G : Gt) (M : Mt) (Z0 : Zt) (y : Nat) (σ e : St) (b row : Nat) (hrow : row < 14) (s : Nat) (hs : s < 20) (L1 L2 : List Int64) (h1 : RW e (row + 1) L1) (h2 : RW e (row + 2) L2) (hl1 : L1.length ≤ 200) (hl2 : L2.length ≤ 200) (P : Int32 → Zt → Prop) (hP : ∀ Z1 e1, MF y Z0 Z1 → MR Z1 y σ e1 → EX row e e1 → RW e1 row (selL (decide (σ.1 17 s = 3)) L2 L1) → P 1 Z1) : ∀ (m k : Nat) (Z : Zt) (e1 : St) (o6 : Option Value), k + m = L1.length → MR Z y σ e1 → MF y Z0 Z → EX row e e1 → RW e1 row (selL (decide (σ.1 17 s = 3)) L2 (L1.take k)) → Jd l G YX12_twoOf (b + 1, 0, 0) M Z 0 0 (Qm G (b + 1, 0, 0) M (ΦI P)) 167 [some (.ref y), some (.int (nI s)), some (.int (nI row)), some (.int (nI (row + 1))), some (.int (nI (row + 2))), some (.int (nI k)), o6, none] [] := by
  have hrow : row < 16 := by omega
  intro m
  induction m with
  | zero =>
    intro k Z e1 o6 hk hM hF hX hR
    obtain rfl : k = L1.length := by omega
    refine q_iload dX12_twoOf_167 rfl ?_
    first | refine q_aload_n dX12_twoOf_169 rfl ?_ | refine q_aload_nN dX12_twoOf_169 rfl ?_
    refine q_getf dX12_twoOf_170 fk_X12_84_11 hM.K (hM.a 30 (by decide) (by decide)) ?_
    refine q_iload_n dX12_twoOf_173 rfl ?_
    refine m_ialdx 30 (row + 1) hM dX12_twoOf_174 (by decide) rfl rfl rfl (show row + 1 < 16 by omega) ?_
    rw [(RW_ex h1 hX (by omega) (by omega)).1]
    refine q_icmp_ge 232 dX12_twoOf_175 (by decide) (fun c175 => ?_) (fun c175 => absurd c175 (not_not_intro (Int32.le_refl _)))
    refine q_iconst (v := 1) dX12_twoOf_232 (by decide) ?_
    exact q_zreturn dX12_twoOf_233 rfl rfl (Nat.le_refl _) (Nat.le_refl _) (hP _ _ hF hM hX (by rw [List.take_length] at hR; exact hR))
  | succ m ih =>
    intro k Z e1 o6 hk hM hF hX hR
    have hsl : (selL (decide (σ.1 17 s = 3)) L2 (L1.take k)).length ≤ k := Nat.le_trans (sel_len _ _ _) (by rw [List.length_take]; omega)
    refine q_iload dX12_twoOf_167 rfl ?_
    first | refine q_aload_n dX12_twoOf_169 rfl ?_ | refine q_aload_nN dX12_twoOf_169 rfl ?_
    refine q_getf dX12_twoOf_170 fk_X12_84_11 hM.K (hM.a 30 (by decide) (by decide)) ?_
    refine q_iload_n dX12_twoOf_173 rfl ?_
    refine m_ialdx 30 (row + 1) hM dX12_twoOf_174 (by decide) rfl rfl rfl (show row + 1 < 16 by omega) ?_
    rw [(RW_ex h1 hX (by omega) (by omega)).1]
    refine q_icmp_ge 232 dX12_twoOf_175 (by decide) (fun c175 => absurd c175 (nI_ge (by omega) (by omega))) (fun c175 => ?_)
    first | refine q_aload_n dX12_twoOf_178 rfl ?_ | refine q_aload_nN dX12_twoOf_178 rfl ?_
    refine q_getf dX12_twoOf_179 fk_X12_81_11 hM.K (hM.a 29 (by decide) (by decide)) ?_
    refine q_sipush (v := 201) dX12_twoOf_182 (by decide) ?_
    refine q_iload_n dX12_twoOf_185 rfl ?_
    refine q_imul dX12_twoOf_186 ?_
    refine q_iload dX12_twoOf_187 rfl ?_
    refine q_iadd dX12_twoOf_189 ?_
    refine m_laldx 29 (201 * (row + 1) + k) hM dX12_twoOf_190 (by decide) rfl rfl (by rw [show (201 : Int32) = nI 201 from rfl, pk_mul, nI_add]) (show 201 * (row + 1) + k < 3216 by omega) ?_
    rw [At_get (RW_ex h1 hX (by omega) (by omega)).2 (show k < L1.length by omega)]
    refine q_lstore (ls' := [_, _, _, _, _, _, _, _]) dX12_twoOf_191 rfl rfl (Nat.le_of_ble_eq_true rfl) (by decide) ?_
    first | refine q_aload_n dX12_twoOf_193 rfl ?_ | refine q_aload_nN dX12_twoOf_193 rfl ?_
    refine q_iload dX12_twoOf_194 rfl ?_
    refine q_lload dX12_twoOf_196 rfl ?_
    refine q_callV 11 dX12_twoOf_198 mk_X12_180 rfl hM.K (mc_isIn l G Z y σ e1 hM (row + 2) (by omega) L2 (RW_ex h2 hX (by omega) (by omega)) (by omega) _) rfl np_X12_isIn (Nat.le_add_left _ _) (Nat.le_refl _) (Nat.le_refl _) (Nat.le_of_ble_eq_true rfl) (kI (fun r2 Z2 hin => ?_))
    obtain ⟨e2, hin⟩ := hin
    rw [e2]
    first | refine q_aload_n dX12_twoOf_201 rfl ?_ | refine q_aload_nN dX12_twoOf_201 rfl ?_
    refine q_getf dX12_twoOf_202 fk_X12_44_11 hM.K (hM.a 17 (by decide) (by decide)) ?_
    refine q_iload_n dX12_twoOf_205 rfl ?_
    refine m_iald 17 (s) hM dX12_twoOf_206 (by decide) rfl rfl rfl (show s < 20 by omega) ?_
    refine q_iconst (v := 3) dX12_twoOf_207 (by decide) ?_
    refine q_icmp_ne 215 dX12_twoOf_208 (by decide) (fun c208 => ?_) (fun c208 => ?_)
    · refine q_iconst (v := 0) dX12_twoOf_215 (by decide) ?_
      refine q_icmp_ne 226 dX12_twoOf_216 (by decide) (fun c216 => ?_) (fun c216 => ?_)
      · refine q_iinc 1 (ls' := [_, _, _, _, _, _, _, _]) dX12_twoOf_226 rfl (by decide) rfl rfl (Nat.le_of_ble_eq_true rfl) (by decide) ?_
        refine q_goto 167 dX12_twoOf_229 (by decide) ?_
        have hc : ¬ (L2.contains L1[k] == decide (σ.1 17 s = 3)) = true := fun z => absurd ((sel_cond hin).mpr z) (fun z => z.elim (fun u => c208 u.2) (fun u => c216 u.1))
        rw [nI_1]
        refine ih (k + 1) _ _ _ (by omega) hM hF hX ?_
        rw [take_snoc (show k < L1.length by omega), selL_snoc, if_neg hc]
        exact hR
      · first | refine q_aload_n dX12_twoOf_219 rfl ?_ | refine q_aload_nN dX12_twoOf_219 rfl ?_
        refine q_iload_n dX12_twoOf_220 rfl ?_
        refine q_lload dX12_twoOf_221 rfl ?_
        refine q_callV 11 dX12_twoOf_223 mk_X12_163 rfl hM.K (mc_put l G Z y σ e1 hM row _ hrow hR.1 (by omega) _) rfl np_X12_put (Nat.le_add_left _ _) (Nat.le_refl _) (Nat.le_refl _) (Nat.le_of_ble_eq_true rfl) (kV (fun Z3 hp => ?_))
        obtain ⟨f3, hM⟩ := hp
        replace hF := hF.tr f3
        refine q_iinc 1 (ls' := [_, _, _, _, _, _, _, _]) dX12_twoOf_226 rfl (by decide) rfl rfl (Nat.le_of_ble_eq_true rfl) (by decide) ?_
        refine q_goto 167 dX12_twoOf_229 (by decide) ?_
        have hc := (sel_cond hin).mp (Or.inr ⟨c216, c208⟩)
        rw [nI_1]
        refine ih (k + 1) _ _ _ (by omega) hM hF (hX.tr (EX_pE (by omega))) ?_
        rw [take_snoc (show k < L1.length by omega), selL_snoc, if_pos hc]
        exact RW_pE hR
    · refine q_iconst (v := 1) dX12_twoOf_211 (by decide) ?_
      refine q_goto 216 dX12_twoOf_212 (by decide) ?_
      refine q_icmp_ne 226 dX12_twoOf_216 (by decide) (fun c216 => ?_) (fun c216 => ?_)
      · refine q_iinc 1 (ls' := [_, _, _, _, _, _, _, _]) dX12_twoOf_226 rfl (by decide) rfl rfl (Nat.le_of_ble_eq_true rfl) (by decide) ?_
        refine q_goto 167 dX12_twoOf_229 (by decide) ?_
        have hc : ¬ (L2.contains L1[k] == decide (σ.1 17 s = 3)) = true := fun z => absurd ((sel_cond hin).mpr z) (fun z => z.elim (fun u => c216 u.1) (fun u => u.2 c208))
        rw [nI_1]
        refine ih (k + 1) _ _ _ (by omega) hM hF hX ?_
        rw [take_snoc (show k < L1.length by omega), selL_snoc, if_neg hc]
        exact hR
      · first | refine q_aload_n dX12_twoOf_219 rfl ?_ | refine q_aload_nN dX12_twoOf_219 rfl ?_
        refine q_iload_n dX12_twoOf_220 rfl ?_
        refine q_lload dX12_twoOf_221 rfl ?_
        refine q_callV 11 dX12_twoOf_223 mk_X12_163 rfl hM.K (mc_put l G Z y σ e1 hM row _ hrow hR.1 (by omega) _) rfl np_X12_put (Nat.le_add_left _ _) (Nat.le_refl _) (Nat.le_refl _) (Nat.le_of_ble_eq_true rfl) (kV (fun Z3 hp => ?_))
        obtain ⟨f3, hM⟩ := hp
        replace hF := hF.tr f3
        refine q_iinc 1 (ls' := [_, _, _, _, _, _, _, _]) dX12_twoOf_226 rfl (by decide) rfl rfl (Nat.le_of_ble_eq_true rfl) (by decide) ?_
        refine q_goto 167 dX12_twoOf_229 (by decide) ?_
        have hc := (sel_cond hin).mp (Or.inl ⟨c216, c208⟩)
        rw [nI_1]
        refine ih (k + 1) _ _ _ (by omega) hM hF (hX.tr (EX_pE (by omega))) ?_
        rw [take_snoc (show k < L1.length by omega), selL_snoc, if_pos hc]
        exact RW_pE hR
/-- the row while c looks for its place p among S -/
def HL (e : St) (row p : Nat) (S : List Int64) : Prop := At (e.2 29) (201 * row) (S.take p) ∧ At (e.2 29) (201 * row + (p + 1)) (S.drop p)
theorem HL_0 {e : St} {row : Nat} {S : List Int64} (h : At (e.2 29) (201 * row) S) : HL e row S.length S := by
  refine ⟨by rw [List.take_length]; exact h, ?_⟩
  rw [List.drop_length]; exact At_nil
theorem HL_get {e : St} {row q : Nat} {S : List Int64} (h : HL e row (q + 1) S) (hq : q < S.length) : e.2 29 (201 * row + q) = S[q] := by
  refine h.1 q _ ?_
  rw [List.getElem?_take_of_lt (by omega), List.getElem?_eq_getElem hq]
theorem HL_step {e : St} {row q : Nat} {S : List Int64} (h : HL e row (q + 1) S) (hq : q < S.length) (hl : S.length ≤ 200) : HL (pJ e 29 (201 * row + (q + 1)) S[q]) row q S := by
  refine ⟨fun i x hx => ?_, ?_⟩
  · have hi : i < q := by
      have := (List.getElem?_eq_some_iff.mp hx).1
      rw [List.length_take] at this; omega
    rw [pJ_2, if_neg (by omega)]
    refine h.1 i x ?_
    rw [List.getElem?_take_of_lt hi] at hx
    rw [List.getElem?_take_of_lt (by omega)]; exact hx
  · rw [List.drop_eq_getElem_cons hq]
    intro i x hx
    cases i with
    | zero =>
      rw [List.getElem?_cons_zero] at hx
      rw [pJ_2, if_pos ⟨rfl, rfl⟩]; exact Option.some.inj hx
    | succ i =>
      rw [List.getElem?_cons_succ] at hx
      rw [pJ_2, if_neg (by omega), show 201 * row + (q + 1) + (i + 1) = 201 * row + (q + 1 + 1) + i by omega]
      exact h.2 i x hx
theorem HL_end {e : St} {row p : Nat} {S : List Int64} {c : Int64} (h : HL e row p S) (hp : p ≤ S.length) : At ((pJ e 29 (201 * row + p) c).2 29) (201 * row) (S.take p ++ c :: S.drop p) := by
  have hlen : (S.take p).length = p := by rw [List.length_take]; omega
  refine At_app (At_same h.1 (fun j h1 h2 => ?_)) ?_
  · rw [hlen] at h2
    rw [pJ_2, if_neg (by omega)]
  · rw [hlen]
    intro i x hx
    cases i with
    | zero =>
      rw [List.getElem?_cons_zero] at hx
      rw [pJ_2, if_pos ⟨rfl, rfl⟩]; exact Option.some.inj hx
    | succ i =>
      rw [List.getElem?_cons_succ] at hx
      rw [pJ_2, if_neg (by omega), show 201 * row + p + (i + 1) = 201 * row + (p + 1) + i by omega]
      exact h.2 i x hx
theorem ins_at {v c : Int64} {T : List Int64} {p : Nat} (hp : p ≤ T.length) (hn : ∀ y ∈ T.reverse.drop p, nr v c y) (he : p = 0 ∨ ∃ q, ∃ h : q < T.reverse.length, p = q + 1 ∧ ¬ nr v c T.reverse[q]) : (insR v c T).reverse = T.reverse.take p ++ c :: T.reverse.drop p := by
  have hT : T = (T.reverse.drop p).reverse ++ (T.reverse.take p).reverse := by
    rw [← List.reverse_append, List.take_append_drop, List.reverse_reverse]
  have h1 : insR v c T = (T.reverse.drop p).reverse ++ insR v c (T.reverse.take p).reverse := by
    conv => lhs; rw [hT]
    exact insR_app _ (fun y hy => hn y (List.mem_reverse.mp hy))
  have h2 : insR v c (T.reverse.take p).reverse = c :: (T.reverse.take p).reverse := by
    rcases he with rfl | ⟨q, hq, rfl, hnr⟩
    · rw [List.take_zero]; rfl
    · rw [List.take_add_one, List.getElem?_eq_getElem hq, Option.toList_some, List.reverse_append, List.reverse_singleton, List.singleton_append]
      exact insR_f hnr
  rw [h1, h2, List.reverse_append, List.reverse_cons, List.reverse_reverse, List.reverse_reverse, List.append_assoc]
  rfl
/-- nothing but the row's own cells and count -/
theorem EX_pJ {row p : Nat} {e : St} {v : Int64} (hp : p < 201) : EX row e (pJ e 29 (201 * row + p) v) := ⟨fun _ _ => rfl, fun _ _ => rfl, fun i hi => by rw [pJ_2, if_neg (by omega)]⟩
set_option maxHeartbeats 600000 in
set_option maxRecDepth 100000 in
theorem mn_in (l : Launch) (G : Gt) (M : Mt) (Z0 : Zt) (y : Nat) (σ e : St) (b row n k : Nat) (hrow : row < 15) (v c : Int64) (S : List Int64) (hl : S.length ≤ 200) (cN : Int32) (Q : State → Prop) (hE : ∀ (p : Nat) (Z : Zt) (e1 : St), MR Z y σ e1 → MF y Z0 Z → EX row e e1 → e1.1 30 row = cN → HL e1 row p S → p ≤ S.length → (∀ y ∈ S.drop p, nr v c y) → (p = 0 ∨ ∃ q, ∃ h : q < S.length, p = q + 1 ∧ ¬ nr v c S[q]) → Jd l G YX12_near (b + 2, 0, 0) M Z 0 0 Q 110 [some (.ref y), some (.int (nI row)), some (.int (nI (row + 1))), some (.long v), none, some (.int (nI n)), some (.int (nI k)), some (.long c), none, some (.int (nI p))] []) : ∀ (p : Nat) (Z : Zt) (e1 : St), MR Z y σ e1 → MF y Z0 Z → EX row e e1 → e1.1 30 row = cN → HL e1 row p S → p ≤ S.length → (∀ y ∈ S.drop p, nr v c y) → Jd l G YX12_near (b + 2, 0, 0) M Z 0 0 Q 47 [some (.ref y), some (.int (nI row)), some (.int (nI (row + 1))), some (.long v), none, some (.int (nI n)), some (.int (nI k)), some (.long c), none, some (.int (nI p))] [] := by
  intro p
  induction p with
  | zero =>
    intro Z e1 hM hF hX hC hH hp hn
    refine q_iload dX12_near_47 rfl ?_
    refine q_if_le 110 dX12_near_49 (by decide) (fun c49 => ?_) (fun c49 => absurd c49 (not_not_intro (Int32.le_refl _)))
    exact hE 0 Z e1 hM hF hX hC hH (by omega) (fun y hy => hn y hy) (Or.inl rfl)
  | succ q ih =>
    intro Z e1 hM hF hX hC hH hp hn
    refine q_iload dX12_near_47 rfl ?_
    refine q_if_le 110 dX12_near_49 (by decide) (fun c49 => absurd c49 (nI_nle (by omega) (by omega))) (fun c49 => ?_)
    refine q_lload dX12_near_52 rfl ?_
    first | refine q_aload_n dX12_near_54 rfl ?_ | refine q_aload_nN dX12_near_54 rfl ?_
    refine q_getf dX12_near_55 fk_X12_81_11 hM.K (hM.a 29 (by decide) (by decide)) ?_
    refine q_sipush (v := 201) dX12_near_58 (by decide) ?_
    refine q_iload_n dX12_near_61 rfl ?_
    refine q_imul dX12_near_62 ?_
    refine q_iload dX12_near_63 rfl ?_
    refine q_iadd dX12_near_65 ?_
    refine q_iconst (v := 1) dX12_near_66 (by decide) ?_
    refine q_isub dX12_near_67 ?_
    refine m_laldx 29 (201 * row + q) hM dX12_near_68 (by decide) rfl rfl (by rw [show (201 : Int32) = nI 201 from rfl, pk_mul, nI_add, ← Nat.add_assoc, nI_pred]) (show 201 * row + q < 3216 by omega) ?_
    rw [HL_get hH (by omega)]
    refine q_lload_n dX12_near_69 rfl ?_
    refine q_callS dX12_near_70 mk_X12_195 (mc_isNearer l G Z c _ v) rfl np_X12_isNearer (Nat.le_add_left _ _) (Nat.le_refl _) (Nat.le_refl _) (Nat.le_of_ble_eq_true rfl) (kI (fun r2 Z2 hnr => ?_))
    obtain ⟨e2, hnr⟩ := hnr
    rw [e2]
    refine q_if_eq 110 dX12_near_73 (by decide) (fun c73 => ?_) (fun c73 => ?_)
    · exact hE (q + 1) Z e1 hM hF hX hC hH (by omega) hn (Or.inr ⟨q, by omega, rfl, rb_f hnr c73⟩)
    · first | refine q_aload_n dX12_near_76 rfl ?_ | refine q_aload_nN dX12_near_76 rfl ?_
      refine q_getf dX12_near_77 fk_X12_81_11 hM.K (hM.a 29 (by decide) (by decide)) ?_
      refine q_sipush (v := 201) dX12_near_80 (by decide) ?_
      refine q_iload_n dX12_near_83 rfl ?_
      refine q_imul dX12_near_84 ?_
      refine q_iload dX12_near_85 rfl ?_
      refine q_iadd dX12_near_87 ?_
      first | refine q_aload_n dX12_near_88 rfl ?_ | refine q_aload_nN dX12_near_88 rfl ?_
      refine q_getf dX12_near_89 fk_X12_81_11 hM.K (hM.a 29 (by decide) (by decide)) ?_
      refine q_sipush (v := 201) dX12_near_92 (by decide) ?_
      refine q_iload_n dX12_near_95 rfl ?_
      refine q_imul dX12_near_96 ?_
      refine q_iload dX12_near_97 rfl ?_
      refine q_iadd dX12_near_99 ?_
      refine q_iconst (v := 1) dX12_near_100 (by decide) ?_
      refine q_isub dX12_near_101 ?_
      refine m_laldx 29 (201 * row + q) hM dX12_near_102 (by decide) rfl rfl (by rw [show (201 : Int32) = nI 201 from rfl, pk_mul, nI_add, ← Nat.add_assoc, nI_pred]) (show 201 * row + q < 3216 by omega) ?_
      rw [HL_get hH (by omega)]
      refine m_lastx 29 (201 * row + (q + 1)) hM dX12_near_103 (by decide) rfl rfl (by rw [show (201 : Int32) = nI 201 from rfl, pk_mul, nI_add]) (show 201 * row + (q + 1) < 3216 by omega) (fun Z hM hF1 => ?_)
      replace hF := hF.tr hF1
      refine q_iinc (-1) (ls' := [_, _, _, _, _, _, _, _, _, _]) dX12_near_104 rfl (by decide) rfl rfl (Nat.le_of_ble_eq_true rfl) (by decide) ?_
      refine q_goto 47 dX12_near_107 (by decide) ?_
      rw [pk_m1]
      refine ih Z _ hM hF (hX.tr (EX_pJ (by omega))) hC (HL_step hH (by omega) hl) (by omega) (fun y hy => ?_)
      rw [List.drop_eq_getElem_cons (show q < S.length by omega)] at hy
      rcases List.mem_cons.mp hy with rfl | hy
      · exact rb_t hnr c73
      · exact hn y hy
