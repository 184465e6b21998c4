/-- the row g holds the list L from o on -/
def At (g : Nat → Int64) (o : Nat) (L : List Int64) : Prop := ∀ (i : Nat) (x : Int64), L[i]? = some x → g (o + i) = x
theorem At_nil {g : Nat → Int64} {o : Nat} : At g o [] := fun i x h => by simp at h
theorem At_snoc {g : Nat → Int64} {o : Nat} {L : List Int64} {x : Int64} (h : At g o L) (hx : g (o + L.length) = x) : At g o (L ++ [x]) := by
  intro i y hy
  by_cases hi : i < L.length
  · rw [List.getElem?_append_left hi] at hy; exact h i y hy
  · rw [List.getElem?_append_right (by omega)] at hy
    have hz : i - L.length < 1 := (List.getElem?_eq_some_iff.mp hy).1
    have hi2 : i = L.length := by omega
    subst hi2
    rw [Nat.sub_self] at hy
    simp at hy
    rw [hx, hy]
theorem At_app {g : Nat → Int64} {o : Nat} {L K : List Int64} (h : At g o L) (k : At g (o + L.length) K) : At g o (L ++ K) := by
  intro i y hy
  by_cases hi : i < L.length
  · rw [List.getElem?_append_left hi] at hy; exact h i y hy
  · rw [List.getElem?_append_right (by omega)] at hy
    have := k _ _ hy
    rw [show o + L.length + (i - L.length) = o + i by omega] at this
    exact this
theorem At_l {g : Nat → Int64} {o : Nat} {L K : List Int64} (h : At g o (L ++ K)) : At g o L := fun i x hx => h i x (by rw [List.getElem?_append_left (List.getElem?_eq_some_iff.mp hx).1]; exact hx)
theorem At_r {g : Nat → Int64} {o : Nat} {L K : List Int64} (h : At g o (L ++ K)) : At g (o + L.length) K := fun i x hx => by
  rw [Nat.add_assoc]
  exact h _ x (by rw [List.getElem?_append_right (by omega), show L.length + i - L.length = i by omega]; exact hx)
theorem At_same {g g' : Nat → Int64} {o : Nat} {L : List Int64} (h : At g o L) (e : ∀ j, o ≤ j → j < o + L.length → g' j = g j) : At g' o L := fun i x hx => by
  have hl := (List.getElem?_eq_some_iff.mp hx).1
  rw [e (o + i) (by omega) (by omega)]
  exact h i x hx
theorem At_get {g : Nat → Int64} {o : Nat} {L : List Int64} (h : At g o L) {i : Nat} (hi : i < L.length) : g (o + i) = L[i] := h i _ (List.getElem?_eq_getElem hi)
def nr (v x y : Int64) : Prop := uN (gpf x v) < uN (gpf y v) ∨ (gpf x v = gpf y v ∧ x < y)
set_option maxHeartbeats 600000 in
set_option maxRecDepth 100000 in
theorem c_X8_isNearer (l : Launch) (G : Gt) (Z : Zt) (a : Nat) (v : Int64) (hK : zK Z a = 8) (hv : zF Z 8 a = .long v) (x y : Int64) : Ct l G YX8_isNearer (1, 0, 0) Z [.ref a, .long x, .long y] (ΦI (fun r Z1 => Z1 = Z ∧ rb r (nr v x y))) := by
  refine ct_of [some (.ref a), some (.long x), none, some (.long y), none, none, none, none, none] (by decide +kernel) (Nat.le_of_ble_eq_true rfl) rfl (fun M => ?_)
  refine q_lload_n dX8_isNearer_0 rfl ?_
  first | refine q_aload_n dX8_isNearer_1 rfl ?_ | refine q_aload_nN dX8_isNearer_1 rfl ?_
  refine q_getf dX8_isNearer_2 fk_X8_40_7 (by first | assumption | (simp only [zK_sF, zK_sI, zK_sJ, zK_sR]; assumption)) (by first | assumption | (simp only [zF_sF, zF_sI, zF_sJ, zF_sR, true_and, and_true, false_and, and_false, if_true, if_false, eq_self, reduceIte, Nat.reduceEqDiff, OfNat.ofNat_ne_zero, OfNat.zero_ne_ofNat, OfNat.ofNat_ne_one, OfNat.one_ne_ofNat, reduceCtorEq]; first | rfl | assumption)) ?_
  refine q_callSN dX8_isNearer_5 mn_X8_134 (c_X11_gap l G _ x v) rfl np_X11_gap (by decide) (by decide) (by decide) (Nat.le_of_ble_eq_true rfl) (kL (fun r Z1 h => ?_))
  obtain ⟨rfl, rfl⟩ := h
  rw [show (if x < v then v - x else x - v) = gpf x v from rfl]
  refine q_lstore (ls' := [_, _, _, _, _, _, _, _, _]) dX8_isNearer_8 rfl rfl (Nat.le_of_ble_eq_true rfl) (by decide) ?_
  refine q_lload_n dX8_isNearer_10 rfl ?_
  first | refine q_aload_n dX8_isNearer_11 rfl ?_ | refine q_aload_nN dX8_isNearer_11 rfl ?_
  refine q_getf dX8_isNearer_12 fk_X8_40_7 (by first | assumption | (simp only [zK_sF, zK_sI, zK_sJ, zK_sR]; assumption)) (by first | assumption | (simp only [zF_sF, zF_sI, zF_sJ, zF_sR, true_and, and_true, false_and, and_false, if_true, if_false, eq_self, reduceIte, Nat.reduceEqDiff, OfNat.ofNat_ne_zero, OfNat.zero_ne_ofNat, OfNat.ofNat_ne_one, OfNat.one_ne_ofNat, reduceCtorEq]; first | rfl | assumption)) ?_
  refine q_callSN dX8_isNearer_15 mn_X8_134 (c_X11_gap l G _ y v) rfl np_X11_gap (by decide) (by decide) (by decide) (Nat.le_of_ble_eq_true rfl) (kL (fun r Z1 h => ?_))
  obtain ⟨rfl, rfl⟩ := h
  rw [show (if y < v then v - y else y - v) = gpf y v from rfl]
  refine q_lstore (ls' := [_, _, _, _, _, _, _, _, _]) dX8_isNearer_18 rfl rfl (Nat.le_of_ble_eq_true rfl) (by decide) ?_
  refine q_lload dX8_isNearer_20 rfl ?_
  refine q_lload dX8_isNearer_22 rfl ?_
  refine q_callSN dX8_isNearer_24 mn_X8_138 (c_X11_unsignedBelow l G _ (gpf x v) (gpf y v)) rfl np_X11_unsignedBelow (by decide) (by decide) (by decide) (Nat.le_of_ble_eq_true rfl) (kI (fun r Z1 h => ?_))
  obtain ⟨rfl, h⟩ := h
  rw [uN_below] at h
  refine q_if_ne 44 dX8_isNearer_27 (by decide) (fun c27 => ?_) (fun c27 => ?_)
  · have h := rb_t h c27
    refine q_iconst (v := 1) dX8_isNearer_44 (by decide) ?_
    refine q_goto 49 dX8_isNearer_45 (by decide) ?_
    exact q_zreturn dX8_isNearer_49 rfl rfl (by decide) (by decide) (by first | exact ⟨rfl, rb_1 (Or.inl h)⟩ | exact ⟨rfl, rb_0 (fun z => z.elim h (fun z => c34 z.1))⟩ | exact ⟨rfl, rb_0 (fun z => z.elim h (fun z => absurd z.2 (Int64.not_lt.mpr c40)))⟩ | exact ⟨rfl, rb_1 (Or.inr ⟨c34, Int64.not_le.mp c40⟩)⟩)
  · have h := rb_f h c27
    refine q_lload dX8_isNearer_30 rfl ?_
    refine q_lload dX8_isNearer_32 rfl ?_
    refine q_lcmp_ne 48 dX8_isNearer_34 dX8_isNearer_35 (by decide) (fun c34 => ?_) (fun c34 => ?_)
    · refine q_iconst (v := 0) dX8_isNearer_48 (by decide) ?_
      exact q_zreturn dX8_isNearer_49 rfl rfl (by decide) (by decide) (by first | exact ⟨rfl, rb_1 (Or.inl h)⟩ | exact ⟨rfl, rb_0 (fun z => z.elim h (fun z => c34 z.1))⟩ | exact ⟨rfl, rb_0 (fun z => z.elim h (fun z => absurd z.2 (Int64.not_lt.mpr c40)))⟩ | exact ⟨rfl, rb_1 (Or.inr ⟨c34, Int64.not_le.mp c40⟩)⟩)
    · refine q_lload_n dX8_isNearer_38 rfl ?_
      refine q_lload_n dX8_isNearer_39 rfl ?_
      refine q_lcmp_ge 48 dX8_isNearer_40 dX8_isNearer_41 (by decide) (fun c40 => ?_) (fun c40 => ?_)
      · refine q_iconst (v := 0) dX8_isNearer_48 (by decide) ?_
        exact q_zreturn dX8_isNearer_49 rfl rfl (by decide) (by decide) (by first | exact ⟨rfl, rb_1 (Or.inl h)⟩ | exact ⟨rfl, rb_0 (fun z => z.elim h (fun z => c34 z.1))⟩ | exact ⟨rfl, rb_0 (fun z => z.elim h (fun z => absurd z.2 (Int64.not_lt.mpr c40)))⟩ | exact ⟨rfl, rb_1 (Or.inr ⟨c34, Int64.not_le.mp c40⟩)⟩)
      · refine q_iconst (v := 1) dX8_isNearer_44 (by decide) ?_
        refine q_goto 49 dX8_isNearer_45 (by decide) ?_
        exact q_zreturn dX8_isNearer_49 rfl rfl (by decide) (by decide) (by first | exact ⟨rfl, rb_1 (Or.inl h)⟩ | exact ⟨rfl, rb_0 (fun z => z.elim h (fun z => c34 z.1))⟩ | exact ⟨rfl, rb_0 (fun z => z.elim h (fun z => absurd z.2 (Int64.not_lt.mpr c40)))⟩ | exact ⟨rfl, rb_1 (Or.inr ⟨c34, Int64.not_le.mp c40⟩)⟩)
set_option maxHeartbeats 600000 in
set_option maxRecDepth 100000 in
theorem c_X8_turn (l : Launch) (G : Gt) (Z : Zt) (p f n : Nat) (hKp : zK Z p = 21) (hLp : zL Z p = 1200) (hfn : f + n ≤ 1200) : Ct l G YX8_turn (0, 0, 0) Z [.ref p, .int (nI f), .int (nI (f + n))] (ΦV (fun Z1 => ∃ g, Z1 = tJ Z p g ∧ (∀ j, j < n → g (f + j) = zJ Z p (f + (n - 1 - j))) ∧ (∀ j, (j < f ∨ f + n ≤ j) → g j = zJ Z p j))) := by
  refine ct_of [some (.ref p), some (.int (nI f)), some (.int (nI (f + n))), none, none, none, none] (by decide +kernel) (Nat.le_of_ble_eq_true rfl) rfl (fun M => ?_)
  have loop : ∀ (k i : Nat) (hi : Int32) (g : Nat → Int64) (x5 : Option Value) (Zc : Zt), Zc = tJ Z p g → n - 2 * i ≤ k → i ≤ n → hi.toInt = (f : Int) + n - 1 - i → (∀ j, j < n → (j < i ∨ n - i ≤ j) → g (f + j) = zJ Z p (f + (n - 1 - j))) → (∀ j, j < n → i ≤ j → j < n - i → g (f + j) = zJ Z p (f + j)) → (∀ j, (j < f ∨ f + n ≤ j) → g j = zJ Z p j) → Jd l G YX8_turn (0, 0, 0) M Zc 0 0 (Qm G (0, 0, 0) M (ΦV (fun Z1 => ∃ g, Z1 = tJ Z p g ∧ (∀ j, j < n → g (f + j) = zJ Z p (f + (n - 1 - j))) ∧ (∀ j, (j < f ∨ f + n ≤ j) → g j = zJ Z p j)))) 7 [some (.ref p), some (.int (nI f)), some (.int (nI (f + n))), some (.int (nI (f + i))), some (.int hi), x5, none] [] := by
    intro k
    induction k with
    | zero =>
      intro i hi g x5 Zc hZ hk hin hh h1 h2 h3
      subst hZ
      refine q_iload_n dX8_turn_7 rfl ?_
      refine q_iload dX8_turn_8 rfl ?_
      refine q_icmp_ge 40 dX8_turn_10 (by decide) (fun c10 => ?_) (fun c10 => absurd c10 (not_not_intro (Int32.le_iff_toInt_le.mpr (by rw [hh, nI_toInt (by omega)]; omega))))
      exact q_return dX8_turn_40 rfl (by decide) (by decide) (⟨g, rfl, fun j hj => (by by_cases e : j < i ∨ n - i ≤ j; exact h1 j hj e; rw [h2 j hj (by omega) (by omega)]; congr 1; omega), h3⟩)
    | succ k ih =>
      intro i hi g x5 Zc hZ hk hin hh h1 h2 h3
      subst hZ
      by_cases hc : n ≤ 2 * i + 1
      · refine q_iload_n dX8_turn_7 rfl ?_
        refine q_iload dX8_turn_8 rfl ?_
        refine q_icmp_ge 40 dX8_turn_10 (by decide) (fun c10 => ?_) (fun c10 => absurd c10 (not_not_intro (Int32.le_iff_toInt_le.mpr (by rw [hh, nI_toInt (by omega)]; omega))))
        exact q_return dX8_turn_40 rfl (by decide) (by decide) (⟨g, rfl, fun j hj => (by by_cases e : j < i ∨ n - i ≤ j; exact h1 j hj e; rw [h2 j hj (by omega) (by omega)]; congr 1; omega), h3⟩)
      · have e : hi = nI (f + (n - 1 - i)) := Int32.toInt_inj.mp (by rw [hh, nI_toInt (by omega)]; omega)
        subst e
        refine q_iload_n dX8_turn_7 rfl ?_
        refine q_iload dX8_turn_8 rfl ?_
        refine q_icmp_ge 40 dX8_turn_10 (by decide) (fun c10 => absurd c10 (nI_ge (by omega) (by omega))) (fun c10 => ?_)
        first | refine q_aload_n dX8_turn_13 rfl ?_ | refine q_aload_nN dX8_turn_13 rfl ?_
        refine q_iload_n dX8_turn_14 rfl ?_
        refine q_lald dX8_turn_15 (by rw [zK_tJ]; exact hKp) (by rw [zL_tJ, hLp]; exact vp_in_nI (by omega) (by decide)) ?_
        refine q_lstore (ls' := [_, _, _, _, _, _, _]) dX8_turn_16 rfl rfl (Nat.le_of_ble_eq_true rfl) (by decide) ?_
        first | refine q_aload_n dX8_turn_18 rfl ?_ | refine q_aload_nN dX8_turn_18 rfl ?_
        refine q_iload_n dX8_turn_19 rfl ?_
        first | refine q_aload_n dX8_turn_20 rfl ?_ | refine q_aload_nN dX8_turn_20 rfl ?_
        refine q_iload dX8_turn_21 rfl ?_
        refine q_lald dX8_turn_23 (by rw [zK_tJ]; exact hKp) (by rw [zL_tJ, hLp]; exact vp_in_nI (by omega) (by decide)) ?_
        refine q_last dX8_turn_24 (by rw [zK_tJ]; exact hKp) (by rw [zL_tJ, hLp]; exact vp_in_nI (by omega) (by decide)) ?_
        first | refine q_aload_n dX8_turn_25 rfl ?_ | refine q_aload_nN dX8_turn_25 rfl ?_
        refine q_iload dX8_turn_26 rfl ?_
        refine q_lload dX8_turn_28 rfl ?_
        refine q_last dX8_turn_30 (by simp only [zK_sJ, zK_tJ]; exact hKp) (by simp only [zL_sJ, zL_tJ]; rw [hLp]; exact vp_in_nI (by omega) (by decide)) ?_
        refine q_iinc 1 (ls' := [_, _, _, _, _, _, _]) dX8_turn_31 rfl (by decide) rfl rfl (Nat.le_of_ble_eq_true rfl) (by decide) ?_
        refine q_iinc (-1) (ls' := [_, _, _, _, _, _, _]) dX8_turn_34 rfl (by decide) rfl rfl (Nat.le_of_ble_eq_true rfl) (by decide) ?_
        refine q_goto 7 dX8_turn_37 (by decide) ?_
        have e1 : nI (f + (n - 1 - i)) + (-1) = nI (f + (n - 1 - i) - 1) := sb_m1 (by omega)
        rw [nI_1, show f + i + 1 = f + (i + 1) by omega]
        refine ih (i + 1) _ (vp_updL (vp_updL g (f + i) (g (f + (n - 1 - i)))) (f + (n - 1 - i)) (g (f + i))) _ _ (by simp only [sJ_t, tJ_tJ, zJ_tJ, if_true, nI_clamp (show f + i < 2 ^ 31 by omega), nI_clamp (show f + (n - 1 - i) < 2 ^ 31 by omega)]) (by omega) (by omega) (by rw [e1, nI_toInt (by omega)]; omega) ?_ ?_ ?_
        · intro j hj hc2
          by_cases ea : j = n - 1 - i
          · subst ea; rw [pk_uLs, h2 i (by omega) (by omega) (by omega)]; congr 1; omega
          · rw [pk_uLn (by omega)]
            by_cases eb : j = i
            · subst eb; rw [pk_uLs, h2 (n - 1 - j) (by omega) (by omega) (by omega)]
            · rw [pk_uLn (by omega)]; exact h1 j hj (by omega)
        · intro j hj h4 h5
          rw [pk_uLn (by omega), pk_uLn (by omega)]; exact h2 j hj (by omega) (by omega)
        · intro j hj
          rw [pk_uLn (by omega), pk_uLn (by omega)]; exact h3 j hj
  refine q_iload_n dX8_turn_0 rfl ?_
  refine q_istore_n (ls' := [_, _, _, _, _, _, _]) dX8_turn_1 rfl rfl (Nat.le_of_ble_eq_true rfl) (by decide) ?_
  refine q_iload_n dX8_turn_2 rfl ?_
  refine q_iconst (v := 1) dX8_turn_3 (by decide) ?_
  refine q_isub dX8_turn_4 ?_
  refine q_istore (ls' := [_, _, _, _, _, _, _]) dX8_turn_5 rfl rfl (Nat.le_of_ble_eq_true rfl) (by decide) ?_
  have e0 : (nI (f + n) - 1).toInt = (f : Int) + n - 1 - (0 : Nat) := by
    have := pk_sub_toInt (a := f + n) (b := 1) (by omega) (by omega)
    rw [show nI 1 = 1 from rfl] at this
    rw [this]; omega
  exact loop n 0 _ (zJ Z p) none Z (tJ_id Z p).symm (by omega) (by omega) e0 (fun j hj h => absurd h (by omega)) (fun j _ _ _ => rfl) (fun j _ => rfl)
noncomputable def insR (v x : Int64) : List Int64 → List Int64
  | [] => [x]
  | y :: ys => @ite _ (nr v x y) (Classical.propDecidable _) (y :: insR v x ys) (x :: y :: ys)
theorem insR_t {v x y : Int64} {ys : List Int64} (h : nr v x y) : insR v x (y :: ys) = y :: insR v x ys := if_pos h
theorem insR_f {v x y : Int64} {ys : List Int64} (h : ¬ nr v x y) : insR v x (y :: ys) = x :: y :: ys := if_neg h
theorem insR_app {v x : Int64} {B : List Int64} : ∀ A : List Int64, (∀ y ∈ A, nr v x y) → insR v x (A ++ B) = A ++ insR v x B
  | [], _ => rfl
  | y :: A, h => by
    rw [List.cons_append, insR_t (h y List.mem_cons_self), insR_app A (fun z hz => h z (List.mem_cons_of_mem _ hz))]
    rfl
theorem insR_len (v x : Int64) : ∀ L : List Int64, (insR v x L).length = L.length + 1
  | [] => rfl
  | y :: L => by
    by_cases h : nr v x y
    · rw [insR_t h, List.length_cons, insR_len v x L]; rfl
    · rw [insR_f h]; rfl
noncomputable def srtR (v : Int64) (L : List Int64) : List Int64 := L.foldl (fun acc x => insR v x acc) []
theorem srtR_snoc (v x : Int64) (L : List Int64) : srtR v (L ++ [x]) = insR v x (srtR v L) := by simp [srtR, List.foldl_append]
theorem srtR_len (v : Int64) (L : List Int64) : (srtR v L).length = L.length := by
  suffices h : ∀ (L acc : List Int64), (L.foldl (fun acc x => insR v x acc) acc).length = L.length + acc.length by simpa [srtR] using h L []
  intro L
  induction L with
  | nil => intro acc; simp
  | cons x L ih => intro acc; rw [List.foldl_cons, ih, insR_len, List.length_cons]; omega
set_option maxHeartbeats 600000 in
set_option maxRecDepth 100000 in
theorem c_X8_sortByNearness (l : Launch) (G : Gt) (Z : Zt) (a : Nat) (v : Int64) (hK : zK Z a = 8) (hv : zF Z 8 a = .long v) (p f : Nat) (L : List Int64) (hKp : zK Z p = 21) (hLp : zL Z p = 1200) (hfn : f + L.length ≤ 1200) (hL : At (zJ Z p) f L) : Ct l G YX8_sortByNearness (2, 0, 0) Z [.ref a, .ref p, .int (nI f), .int (nI (f + L.length))] (ΦV (fun Z1 => ∃ g, Z1 = tJ Z p g ∧ At g f (srtR v L).reverse ∧ (∀ j, (j < f ∨ f + L.length ≤ j) → g j = zJ Z p j))) := by
  refine ct_of [some (.ref a), some (.ref p), some (.int (nI f)), some (.int (nI (f + L.length))), none, none, none, none] (by decide +kernel) (Nat.le_of_ble_eq_true rfl) rfl (fun M => ?_)
  have outs : ∀ (i : Nat) (x : Int64) (P : List Int64) (g0 : Nat → Int64), i < L.length → P.length = i → x = zJ Z p (f + i) → ∀ (k : Nat) (A B : List Int64) (g : Nat → Int64) (Zc : Zt), Zc = tJ Z p g → B.length = k → A ++ B = P → (∀ y ∈ A, nr v x y) → At g f B.reverse → At g (f + B.length + 1) A.reverse → (∀ j, (j < f ∨ f + i < j) → g j = g0 j) → (∀ (g1 : Nat → Int64) (Z1 : Zt), Z1 = tJ Z p g1 → At g1 f (insR v x P).reverse → (∀ j, (j < f ∨ f + i < j) → g1 j = g0 j) → ∀ hl : Option Value, Jd l G YX8_sortByNearness (2, 0, 0) M Z1 0 0 (Qm G (2, 0, 0) M (ΦV (fun Z1 => ∃ g, Z1 = tJ Z p g ∧ At g f (srtR v L).reverse ∧ (∀ j, (j < f ∨ f + L.length ≤ j) → g j = zJ Z p j)))) 64 [some (.ref a), some (.ref p), some (.int (nI f)), some (.int (nI (f + L.length))), some (.int (nI (f + i))), some (.long x), none, hl] []) → Jd l G YX8_sortByNearness (2, 0, 0) M Zc 0 0 (Qm G (2, 0, 0) M (ΦV (fun Z1 => ∃ g, Z1 = tJ Z p g ∧ At g f (srtR v L).reverse ∧ (∀ j, (j < f ∨ f + L.length ≤ j) → g j = zJ Z p j)))) 21 [some (.ref a), some (.ref p), some (.int (nI f)), some (.int (nI (f + L.length))), some (.int (nI (f + i))), some (.long x), none, some (.int (nI (f + B.length)))] [] := by
    intro i x P g0 hi hP hx k
    induction k with
    | zero =>
      intro A B g Zc hZ hBk hAB hA hB hA2 ho kk
      subst hZ
      have hB0 : B = [] := List.length_eq_zero_iff.mp hBk
      subst hB0
      refine q_iload dX8_sortByNearness_21 rfl ?_
      refine q_iload_n dX8_sortByNearness_23 rfl ?_
      refine q_icmp_le 58 dX8_sortByNearness_24 (by decide) (fun c24 => ?_) (fun c24 => absurd c24 (not_not_intro (nI_le (by simp) (by omega))))
      first | refine q_aload_n dX8_sortByNearness_58 rfl ?_ | refine q_aload_nN dX8_sortByNearness_58 rfl ?_
      refine q_iload dX8_sortByNearness_59 rfl ?_
      refine q_lload dX8_sortByNearness_61 rfl ?_
      refine q_last dX8_sortByNearness_63 (by rw [zK_tJ]; exact hKp) (by rw [zL_tJ, hLp]; exact vp_in_nI (by simp; omega) (by decide)) ?_
      have hA3 : A = P := by simpa using hAB
      subst hA3
      refine kk (vp_updL g (f + ([] : List Int64).length) x) _ (by simp only [sJ_t, tJ_tJ, zJ_tJ, if_true, nI_clamp (show f + ([] : List Int64).length < 2 ^ 31 by omega)]) ?_ (fun j hj => by rw [pk_uLn (by omega)]; exact ho j hj) _
      rw [show A = A ++ [] by simp, insR_app A hA, List.reverse_append]
      refine At_app (L := (insR v x []).reverse) (fun j y hy => ?_) (At_same hA2 (fun j h1 h2 => by rw [pk_uLn (by have e : (insR v x []).reverse.length = 1 := rfl; rw [e] at h1; show j ≠ f + 0; omega)]))
      have hj : j < 1 := (List.getElem?_eq_some_iff.mp hy).1
      have hj0 : j = 0 := by omega
      subst hj0
      have : x = y := by simpa [insR] using hy
      rw [← this]; exact pk_uLs
    | succ k ih =>
      intro A B g Zc hZ hBk hAB hA hB hA2 ho kk
      subst hZ
      obtain ⟨y, B, rfl⟩ := List.exists_cons_of_length_eq_add_one hBk
      have hBl : B.length = k := by simpa using hBk
      have hlen : A.length + (B.length + 1) = i := by rw [← hP, ← hAB]; simp
      have hy : g (f + B.length) = y := by
        rw [List.reverse_cons] at hB
        have := At_r hB 0 y (by simp)
        simpa using this
      have e1 : nI (f + (y :: B).length) - 1 = nI (f + B.length) := by rw [List.length_cons, ← Nat.add_assoc]; exact nI_pred _
      refine q_iload dX8_sortByNearness_21 rfl ?_
      refine q_iload_n dX8_sortByNearness_23 rfl ?_
      refine q_icmp_le 58 dX8_sortByNearness_24 (by decide) (fun c24 => absurd c24 (nI_ge (by simp) (by simp; omega))) (fun c24 => ?_)
      first | refine q_aload_n dX8_sortByNearness_27 rfl ?_ | refine q_aload_nN dX8_sortByNearness_27 rfl ?_
      refine q_lload dX8_sortByNearness_28 rfl ?_
      first | refine q_aload_n dX8_sortByNearness_30 rfl ?_ | refine q_aload_nN dX8_sortByNearness_30 rfl ?_
      refine q_iload dX8_sortByNearness_31 rfl ?_
      refine q_iconst (v := 1) dX8_sortByNearness_33 (by decide) ?_
      refine q_isub dX8_sortByNearness_34 ?_
      refine q_lald dX8_sortByNearness_35 (by rw [zK_tJ]; exact hKp) (by rw [zL_tJ, hLp, e1]; exact vp_in_nI (by omega) (by decide)) ?_
      refine q_callV 7 dX8_sortByNearness_36 mk_X8_130 rfl (by rw [zK_tJ]; exact hK) (c_X8_isNearer l G (tJ Z p g) a v hK hv x _) rfl np_X8_isNearer (by decide) (by decide) (by decide) (Nat.le_of_ble_eq_true rfl) (kI (fun r Z1 h => ?_))
      obtain ⟨rfl, h⟩ := h
      simp only [zJ_tJ, if_true, e1, nI_clamp (show f + B.length < 2 ^ 31 by omega), hy] at h
      refine q_if_eq 58 dX8_sortByNearness_39 (by decide) (fun c39 => ?_) (fun c39 => ?_)
      · have h := rb_f h c39
        first | refine q_aload_n dX8_sortByNearness_58 rfl ?_ | refine q_aload_nN dX8_sortByNearness_58 rfl ?_
        refine q_iload dX8_sortByNearness_59 rfl ?_
        refine q_lload dX8_sortByNearness_61 rfl ?_
        refine q_last dX8_sortByNearness_63 (by rw [zK_tJ]; exact hKp) (by rw [zL_tJ, hLp]; exact vp_in_nI (by simp; omega) (by decide)) ?_
        refine kk (vp_updL g (f + (y :: B).length) x) _ (by simp only [sJ_t, tJ_tJ, zJ_tJ, if_true, nI_clamp (show f + (y :: B).length < 2 ^ 31 by omega)]) ?_ (fun j hj => by rw [pk_uLn (by omega)]; exact ho j hj) _
        rw [← hAB, insR_app A hA, insR_f h, List.reverse_append, List.reverse_cons]
        refine At_app (L := (y :: B).reverse ++ [x]) (At_snoc (At_same hB (fun j h1 h2 => by rw [pk_uLn (by simp at h2 ⊢; omega)])) (by rw [List.length_reverse]; exact pk_uLs)) (fun j z hz => ?_)
        have := hA2 j z hz
        rw [show f + ((y :: B).reverse ++ [x]).length + j = f + (y :: B).length + 1 + j by simp; omega, pk_uLn (by omega)]
        exact this
      · have h := rb_t h c39
        first | refine q_aload_n dX8_sortByNearness_42 rfl ?_ | refine q_aload_nN dX8_sortByNearness_42 rfl ?_
        refine q_iload dX8_sortByNearness_43 rfl ?_
        first | refine q_aload_n dX8_sortByNearness_45 rfl ?_ | refine q_aload_nN dX8_sortByNearness_45 rfl ?_
        refine q_iload dX8_sortByNearness_46 rfl ?_
        refine q_iconst (v := 1) dX8_sortByNearness_48 (by decide) ?_
        refine q_isub dX8_sortByNearness_49 ?_
        refine q_lald dX8_sortByNearness_50 (by rw [zK_tJ]; exact hKp) (by rw [zL_tJ, hLp, e1]; exact vp_in_nI (by omega) (by decide)) ?_
        refine q_last dX8_sortByNearness_51 (by rw [zK_tJ]; exact hKp) (by rw [zL_tJ, hLp]; exact vp_in_nI (by simp; omega) (by decide)) ?_
        refine q_iinc (-1) (ls' := [_, _, _, _, _, _, _, _]) dX8_sortByNearness_52 rfl (by decide) rfl rfl (Nat.le_of_ble_eq_true rfl) (by decide) ?_
        refine q_goto 21 dX8_sortByNearness_55 (by decide) ?_
        have e2 : nI (f + (y :: B).length) + -1 = nI (f + B.length) := by rw [List.length_cons, ← Nat.add_assoc]; exact pk_m1 _
        rw [e2]
        refine ih (A ++ [y]) B (vp_updL g (f + B.length + 1) y) _ (by simp only [sJ_t, tJ_tJ, zJ_tJ, if_true, e1, nI_clamp (show f + B.length < 2 ^ 31 by omega), hy, nI_clamp (show f + (y :: B).length < 2 ^ 31 by simp; omega)]; rfl) hBl (by rw [← hAB]; simp) (fun z hz => ?_) ?_ ?_ (fun j hj => by rw [pk_uLn (by omega)]; exact ho j hj) kk
        · rcases List.mem_append.mp hz with hz | hz
          · exact hA z hz
          · have : z = y := by simpa using hz
            rw [this]; exact h
        · rw [List.reverse_cons] at hB
          exact At_same (At_l hB) (fun j h1 h2 => by rw [pk_uLn (by simp at h2; omega)])
        · rw [List.reverse_append]
          refine At_app (L := [y].reverse) (fun j z hz => ?_) ?_
          · have hj : j < 1 := (List.getElem?_eq_some_iff.mp hz).1
            have hj0 : j = 0 := by omega
            subst hj0
            have : y = z := by simpa using hz
            rw [← this]; exact pk_uLs
          · intro j z hz
            have := hA2 j z hz
            rw [show f + B.length + 1 + [y].reverse.length + j = f + (y :: B).length + 1 + j by simp; omega, pk_uLn (by simp; omega)]
            exact this
  have loop : ∀ (k i : Nat) (g : Nat → Int64) (x5 x7 : Option Value) (Zc : Zt), Zc = tJ Z p g → L.length - i ≤ k → 1 ≤ i → At g f (srtR v (L.take i)).reverse → (∀ j, (j < f ∨ f + i ≤ j) → g j = zJ Z p j) → (i ≤ L.length) → Jd l G YX8_sortByNearness (2, 0, 0) M Zc 0 0 (Qm G (2, 0, 0) M (ΦV (fun Z1 => ∃ g, Z1 = tJ Z p g ∧ At g f (srtR v L).reverse ∧ (∀ j, (j < f ∨ f + L.length ≤ j) → g j = zJ Z p j)))) 5 [some (.ref a), some (.ref p), some (.int (nI f)), some (.int (nI (f + L.length))), some (.int (nI (f + i))), x5, none, x7] [] := by
    intro k
    induction k with
    | zero =>
      intro i g x5 x7 Zc hZ hk h1 hA ho hi
      subst hZ
      have hcl : L.length ≤ i := by omega
      have hfin : ∀ j, (j < f ∨ f + L.length ≤ j) → g j = zJ Z p j := fun j hj => ho j (by omega)
      refine q_iload dX8_sortByNearness_5 rfl ?_
      refine q_iload_n dX8_sortByNearness_7 rfl ?_
      refine q_icmp_ge 70 dX8_sortByNearness_8 (by decide) (fun c8 => ?_) (fun c8 => absurd c8 (not_not_intro (nI_le (by omega) (by omega))))
      exact q_return dX8_sortByNearness_70 rfl (by decide) (by decide) ⟨g, rfl, (by rw [List.take_of_length_le hcl] at hA; exact hA), fun j hj => hfin j hj⟩
    | succ k ih =>
      intro i g x5 x7 Zc hZ hk h1 hA ho hi
      subst hZ
      by_cases hcl : L.length ≤ i
      · have hfin : ∀ j, (j < f ∨ f + L.length ≤ j) → g j = zJ Z p j := fun j hj => ho j (by omega)
        refine q_iload dX8_sortByNearness_5 rfl ?_
        refine q_iload_n dX8_sortByNearness_7 rfl ?_
        refine q_icmp_ge 70 dX8_sortByNearness_8 (by decide) (fun c8 => ?_) (fun c8 => absurd c8 (not_not_intro (nI_le (by omega) (by omega))))
        exact q_return dX8_sortByNearness_70 rfl (by decide) (by decide) ⟨g, rfl, (by rw [List.take_of_length_le hcl] at hA; exact hA), fun j hj => hfin j hj⟩
      · have htk : (L.take i).length = i := by simp; omega
        refine q_iload dX8_sortByNearness_5 rfl ?_
        refine q_iload_n dX8_sortByNearness_7 rfl ?_
        refine q_icmp_ge 70 dX8_sortByNearness_8 (by decide) (fun c8 => absurd c8 (nI_ge (by omega) (by omega))) (fun c8 => ?_)
        first | refine q_aload_n dX8_sortByNearness_11 rfl ?_ | refine q_aload_nN dX8_sortByNearness_11 rfl ?_
        refine q_iload dX8_sortByNearness_12 rfl ?_
        refine q_lald dX8_sortByNearness_14 (by rw [zK_tJ]; exact hKp) (by rw [zL_tJ, hLp]; exact vp_in_nI (by omega) (by decide)) ?_
        refine q_lstore (ls' := [_, _, _, _, _, _, _, _]) dX8_sortByNearness_15 rfl rfl (Nat.le_of_ble_eq_true rfl) (by decide) ?_
        refine q_iload dX8_sortByNearness_17 rfl ?_
        refine q_istore (ls' := [_, _, _, _, _, _, _, _]) dX8_sortByNearness_19 rfl rfl (Nat.le_of_ble_eq_true rfl) (by decide) ?_
        have hx : zJ (tJ Z p g) p (nI (f + i)).toNatClampNeg = zJ Z p (f + i) := by rw [zJ_tJ, if_pos rfl, nI_clamp (by omega)]; exact ho _ (by omega)
        rw [hx]
        have hsl : (srtR v (L.take i)).length = i := by rw [srtR_len]; exact htk
        have hxl : zJ Z p (f + i) = L[i] := At_get hL (by omega)
        have hgo := outs i (zJ Z p (f + i)) (srtR v (L.take i)) g (by omega) hsl rfl i [] (srtR v (L.take i)) g _ rfl hsl rfl (fun y hy => absurd hy List.not_mem_nil) hA At_nil (fun j _ => rfl) (fun g1 Z1 hZ1 hA1 ho1 hl => ?_)
        · rw [hsl] at hgo; exact hgo
        · refine q_iinc 1 (ls' := [_, _, _, _, _, _, _, _]) dX8_sortByNearness_64 rfl (by decide) rfl rfl (Nat.le_of_ble_eq_true rfl) (by decide) ?_
          refine q_goto 5 dX8_sortByNearness_67 (by decide) ?_
          rw [nI_1, show f + i + 1 = f + (i + 1) by omega]
          refine ih (i + 1) g1 _ _ _ hZ1 (by omega) (by omega) ?_ (fun j hj => by rw [ho1 j (by omega)]; exact ho j (by omega)) (by omega)
          rw [List.take_succ_eq_append_getElem (by omega), srtR_snoc, ← hxl]; exact hA1
  refine q_iload_n dX8_sortByNearness_0 rfl ?_
  refine q_iconst (v := 1) dX8_sortByNearness_1 (by decide) ?_
  refine q_iadd dX8_sortByNearness_2 ?_
  refine q_istore (ls' := [_, _, _, _, _, _, _, _]) dX8_sortByNearness_3 rfl rfl (Nat.le_of_ble_eq_true rfl) (by decide) ?_
  rcases Nat.eq_zero_or_pos L.length with h0 | h0
  · have hn : L = [] := List.length_eq_zero_iff.mp h0
    subst hn
    refine q_iload dX8_sortByNearness_5 rfl ?_
    refine q_iload_n dX8_sortByNearness_7 rfl ?_
    refine q_icmp_ge 70 dX8_sortByNearness_8 (by decide) (fun c8 => ?_) (fun c8 => absurd c8 (not_not_intro (by rw [nI_1]; exact nI_le (by simp) (by omega))))
    exact q_return dX8_sortByNearness_70 rfl (by decide) (by decide) ⟨zJ Z p, (tJ_id Z p).symm, At_nil, fun j _ => rfl⟩
  · rw [nI_1]
    have e0 : srtR v (L.take 1) = L.take 1 := by
      obtain ⟨x, L1, rfl⟩ := List.exists_cons_of_length_pos h0
      rfl
    refine loop L.length 1 (zJ Z p) none none Z (tJ_id Z p).symm (by omega) (by omega) ?_ (fun j _ => rfl) (by omega)
    rw [e0]
    obtain ⟨x, L1, rfl⟩ := List.exists_cons_of_length_pos h0
    intro j y hy
    have hj : j < 1 := by have := (List.getElem?_eq_some_iff.mp hy).1; simp at this; omega
    have hj0 : j = 0 := by omega
    subst hj0
    exact hL 0 y (by simpa using hy)
