theorem zK_nO {Z : Zt} {kd : Nat} {dv : Nat → Value} {a : Nat} (h : a ≠ zN Z) : zK (nO Z kd dv) a = zK Z a := if_neg h
theorem zK_nO' {Z : Zt} {kd : Nat} {dv : Nat → Value} : zK (nO Z kd dv) (zN Z) = kd := if_pos rfl
theorem zF_nO {Z : Zt} {kd k : Nat} {dv : Nat → Value} {a : Nat} (h : a ≠ zN Z) : zF (nO Z kd dv) k a = zF Z k a := if_neg h
theorem zF_nO' {Z : Zt} {kd k : Nat} {dv : Nat → Value} : zF (nO Z kd dv) k (zN Z) = dv k := if_pos rfl
theorem zL_nO {Z : Zt} {kd : Nat} {dv : Nat → Value} : zL (nO Z kd dv) = zL Z := rfl
theorem zI_nO {Z : Zt} {kd : Nat} {dv : Nat → Value} : zI (nO Z kd dv) = zI Z := rfl
theorem zJ_nO {Z : Zt} {kd : Nat} {dv : Nat → Value} : zJ (nO Z kd dv) = zJ Z := rfl
theorem zR_nO {Z : Zt} {kd : Nat} {dv : Nat → Value} : zR (nO Z kd dv) = zR Z := rfl
theorem zN_nO {Z : Zt} {kd : Nat} {dv : Nat → Value} : zN (nO Z kd dv) = zN Z + 1 := rfl
theorem zK_nA {Z : Zt} {kd n a : Nat} (h : a ≠ zN Z) : zK (nA Z kd n) a = zK Z a := if_neg h
theorem zK_nA' {Z : Zt} {kd n : Nat} : zK (nA Z kd n) (zN Z) = kd := if_pos rfl
theorem zL_nA {Z : Zt} {kd n a : Nat} (h : a ≠ zN Z) : zL (nA Z kd n) a = zL Z a := if_neg h
theorem zL_nA' {Z : Zt} {kd n : Nat} : zL (nA Z kd n) (zN Z) = n := if_pos rfl
theorem zF_nA {Z : Zt} {kd n : Nat} : zF (nA Z kd n) = zF Z := rfl
theorem zI_nA {Z : Zt} {kd n a : Nat} (h : a ≠ zN Z) : zI (nA Z kd n) a = zI Z a := if_neg h
theorem zI_nA' {Z : Zt} {kd n : Nat} : zI (nA Z kd n) (zN Z) = (fun _ => 0) := if_pos rfl
theorem zJ_nA {Z : Zt} {kd n a : Nat} (h : a ≠ zN Z) : zJ (nA Z kd n) a = zJ Z a := if_neg h
theorem zJ_nA' {Z : Zt} {kd n : Nat} : zJ (nA Z kd n) (zN Z) = (fun _ => 0) := if_pos rfl
theorem zR_nA {Z : Zt} {kd n a : Nat} (h : a ≠ zN Z) : zR (nA Z kd n) a = zR Z a := if_neg h
theorem zR_nA' {Z : Zt} {kd n : Nat} : zR (nA Z kd n) (zN Z) = (fun _ => none) := if_pos rfl
theorem zN_nA {Z : Zt} {kd n : Nat} : zN (nA Z kd n) = zN Z + 1 := rfl
/-- a stretch: the number at k, the place of v -/
def stAt (f s : Int64) (d : Int32) (k : Int64) : Int64 := if d = 0 then f + k * s else f - k * s
def gpf (x y : Int64) : Int64 := if x < y then y - x else x - y
def stIx (f s : Int64) (d : Int32) (c v : Int64) : Int64 :=
  if c < 1 then -1 else if (if d = 0 then f ≤ v else v ≤ f) then (if v = f then 0 else if c = 1 then -1 else if s = 0 then -1 else if uR (gpf f v) s = 0 then (if uQ (gpf f v) s ≤ 0 then -1 else if c ≤ uQ (gpf f v) s then -1 else uQ (gpf f v) s) else -1) else -1
/-- v is first found at i among f .. t - 1 of the row g; or not at all -/
def fnd (g : Nat → Int64) (f t : Nat) (v : Int64) (r : Int32) : Prop := (∃ i, f ≤ i ∧ i < t ∧ g i = v ∧ (∀ j, f ≤ j → j < i → g j ≠ v) ∧ r = nI i) ∨ ((∀ j, f ≤ j → j < t → g j ≠ v) ∧ r = -1)
set_option maxHeartbeats 600000 in
set_option maxRecDepth 100000 in
theorem c_X11_find (l : Launch) (G : Gt) (Z : Zt) (a f t : Nat) (v : Int64) (hK : zK Z a = 21) (hL : zL Z a < 2 ^ 31) (ht : t ≤ zL Z a) (hf : f < 2 ^ 31) : Ct l G YX11_find (0, 0, 0) Z [.ref a, .int (nI f), .int (nI t), .long v] (ΦI (fun r Z1 => Z1 = Z ∧ fnd (zJ Z a) f t v r)) := by
  refine ct_of [some (.ref a), some (.int (nI f)), some (.int (nI t)), some (.long v), none, none] (by decide +kernel) (Nat.le_of_ble_eq_true rfl) rfl (fun M => ?_)
  have loop : ∀ (k i : Nat), f ≤ i → (t - i) ≤ k → (∀ j, f ≤ j → j < i → zJ Z a j ≠ v) → i < 2 ^ 31 → Jd l G YX11_find (0, 0, 0) M Z 0 0 (Qm G (0, 0, 0) M (ΦI (fun r Z1 => Z1 = Z ∧ fnd (zJ Z a) f t v r))) 3 [some (.ref a), some (.int (nI f)), some (.int (nI t)), some (.long v), none, some (.int (nI i))] [] := by
    intro k
    induction k with
    | zero =>
      intro i hfi hk hn hi
      refine q_iload dX11_find_3 rfl ?_
      refine q_iload_n dX11_find_5 rfl ?_
      refine q_icmp_ge 34 dX11_find_6 (by decide) (fun c6 => ?_) (fun c6 => absurd c6 (not_not_intro (nI_le (by omega) (by omega))))
      refine q_iconst (v := (-1)) dX11_find_34 (by decide) ?_
      exact q_ireturn dX11_find_35 rfl (by decide) (by decide) ⟨rfl, Or.inr ⟨fun j h1 h2 => hn j h1 (by omega), rfl⟩⟩
    | succ k ih =>
      intro i hfi hk hn hi
      by_cases hti : t ≤ i
      · refine q_iload dX11_find_3 rfl ?_
        refine q_iload_n dX11_find_5 rfl ?_
        refine q_icmp_ge 34 dX11_find_6 (by decide) (fun c6 => ?_) (fun c6 => absurd c6 (not_not_intro (nI_le hti (by omega))))
        refine q_iconst (v := (-1)) dX11_find_34 (by decide) ?_
        exact q_ireturn dX11_find_35 rfl (by decide) (by decide) ⟨rfl, Or.inr ⟨fun j h1 h2 => hn j h1 (by omega), rfl⟩⟩
      · refine q_iload dX11_find_3 rfl ?_
        refine q_iload_n dX11_find_5 rfl ?_
        refine q_icmp_ge 34 dX11_find_6 (by decide) (fun c6 => absurd c6 (nI_ge (by omega) (by omega))) (fun c6 => ?_)
        refine q_iload dX11_find_9 rfl ?_
        first | refine q_aload_n dX11_find_11 rfl ?_ | refine q_aload_nN dX11_find_11 rfl ?_
        refine q_alenJ dX11_find_12 (by first | assumption | (simp only [zK_sF, zK_sI, zK_sJ, zK_sR]; assumption)) ?_
        refine q_icmp_ge 34 dX11_find_13 (by decide) (fun c13 => absurd c13 (nI_ge (by omega) (by omega))) (fun c13 => ?_)
        first | refine q_aload_n dX11_find_16 rfl ?_ | refine q_aload_nN dX11_find_16 rfl ?_
        refine q_iload dX11_find_17 rfl ?_
        refine q_lald dX11_find_19 (by first | assumption | (simp only [zK_sF, zK_sI, zK_sJ, zK_sR]; assumption)) (vp_in_nI (by omega) hL) ?_
        refine q_lload_n dX11_find_20 rfl ?_
        refine q_lcmp_ne 28 dX11_find_21 dX11_find_22 (by decide) (fun c21 => ?_) (fun c21 => ?_)
        · rw [nI_clamp hi] at c21
          refine q_iinc 1 (ls' := [_, _, _, _, _, _]) dX11_find_28 rfl (by decide) rfl rfl (Nat.le_of_ble_eq_true rfl) (by decide) ?_
          refine q_goto 3 dX11_find_31 (by decide) ?_
          rw [nI_1]
          exact ih (i + 1) (by omega) (by omega) (fun j h1 h2 => by
            by_cases e : j = i
            · subst e; exact c21
            · exact hn j h1 (by omega)) (by omega)
        · rw [nI_clamp hi] at c21
          refine q_iload dX11_find_25 rfl ?_
          exact q_ireturn dX11_find_27 rfl (by decide) (by decide) ⟨rfl, Or.inl ⟨i, hfi, by omega, c21, hn, rfl⟩⟩
  refine q_iload_n dX11_find_0 rfl ?_
  refine q_istore (ls' := [_, _, _, _, _, _]) dX11_find_1 rfl rfl (Nat.le_of_ble_eq_true rfl) (by decide) ?_
  exact loop (t - f) f (Nat.le_refl _) (Nat.le_refl _) (fun j h1 h2 => absurd h2 (by omega)) hf
def sSt (Z : Zt) (a : Nat) (f s : Int64) (d : Int32) (c : Int64) : Zt := sF (sF (sF (sF Z 0 a (.long f)) 1 a (.long s)) 2 a (.int d)) 3 a (.long c)
def nSt (Z : Zt) (f s : Int64) (d : Int32) (c : Int64) : Zt := sSt (nO Z 9 (fun k => defaultValue (tyTab 8 k))) (zN Z) f s d c
set_option maxHeartbeats 600000 in
set_option maxRecDepth 100000 in
theorem c_X9_init (l : Launch) (G : Gt) (Z : Zt) (a : Nat) (f s c : Int64) (d : Int32) (hK : zK Z a = 9) (hd : d = 0 ∨ d = 1) : Ct l G YX9_init (1, 0, 0) Z [.ref a, .long f, .long s, .int d, .long c] (ΦV (fun Z1 => Z1 = sSt Z a f s d c)) := by
  refine ct_of [some (.ref a), some (.long f), none, some (.long s), none, some (.int d), some (.long c), none] (by decide +kernel) (Nat.le_of_ble_eq_true rfl) rfl (fun M => ?_)
  first | refine q_aload_n dX9_init_0 rfl ?_ | refine q_aload_nN dX9_init_0 rfl ?_
  refine q_objInit dX9_init_1 ok_X9_1 oi_m oi_c (by decide) (Nat.le_of_ble_eq_true rfl) ?_
  first | refine q_aload_n dX9_init_4 rfl ?_ | refine q_aload_nN dX9_init_4 rfl ?_
  refine q_lload_n dX9_init_5 rfl ?_
  refine q_putF dX9_init_6 fk_X9_7_8 rfl rfl rfl (by first | assumption | (simp only [zK_sF, zK_sI, zK_sJ, zK_sR]; assumption)) rfl rfl ?_
  first | refine q_aload_n dX9_init_9 rfl ?_ | refine q_aload_nN dX9_init_9 rfl ?_
  refine q_lload_n dX9_init_10 rfl ?_
  refine q_putF dX9_init_11 fk_X9_13_8 rfl rfl rfl (by first | assumption | (simp only [zK_sF, zK_sI, zK_sJ, zK_sR]; assumption)) rfl rfl ?_
  first | refine q_aload_n dX9_init_14 rfl ?_ | refine q_aload_nN dX9_init_14 rfl ?_
  refine q_iload dX9_init_15 rfl ?_
  refine q_putF dX9_init_17 fk_X9_16_8 rfl rfl rfl (by first | assumption | (simp only [zK_sF, zK_sI, zK_sJ, zK_sR]; assumption)) (by rcases hd with rfl | rfl <;> rfl) (by rcases hd with rfl | rfl <;> rfl) ?_
  first | refine q_aload_n dX9_init_20 rfl ?_ | refine q_aload_nN dX9_init_20 rfl ?_
  refine q_lload dX9_init_21 rfl ?_
  refine q_putF dX9_init_23 fk_X9_20_8 rfl rfl rfl (by first | assumption | (simp only [zK_sF, zK_sI, zK_sJ, zK_sR]; assumption)) rfl rfl ?_
  exact q_return dX9_init_26 rfl (by decide) (by decide) rfl
set_option maxHeartbeats 600000 in
set_option maxRecDepth 100000 in
theorem c_X9_numberAt (l : Launch) (G : Gt) (Z : Zt) (a : Nat) (f s c : Int64) (d : Int32) (hK : zK Z a = 9) (h0 : zF Z 0 a = .long f) (h1 : zF Z 1 a = .long s) (h2 : zF Z 2 a = .int d) (h3 : zF Z 3 a = .long c) (k : Int64) : Ct l G YX9_numberAt (0, 0, 0) Z [.ref a, .long k] (ΦL (fun r Z1 => Z1 = Z ∧ r = stAt f s d k)) := by
  refine ct_of [some (.ref a), some (.long k), none] (by decide +kernel) (Nat.le_of_ble_eq_true rfl) rfl (fun M => ?_)
  first | refine q_aload_n dX9_numberAt_0 rfl ?_ | refine q_aload_nN dX9_numberAt_0 rfl ?_
  refine q_getf dX9_numberAt_1 fk_X9_16_8 (by first | assumption | (simp only [zK_sF, zK_sI, zK_sJ, zK_sR]; assumption)) (by first | assumption | (simp only [zF_sF, zF_sI, zF_sJ, zF_sR, true_and, and_true, false_and, and_false, if_true, if_false, eq_self, reduceIte, Nat.reduceEqDiff, OfNat.ofNat_ne_zero, OfNat.zero_ne_ofNat, OfNat.ofNat_ne_one, OfNat.one_ne_ofNat, reduceCtorEq]; first | rfl | assumption)) ?_
  refine q_if_eq 21 dX9_numberAt_4 (by decide) (fun c4 => ?_) (fun c4 => ?_)
  · first | refine q_aload_n dX9_numberAt_21 rfl ?_ | refine q_aload_nN dX9_numberAt_21 rfl ?_
    refine q_getf dX9_numberAt_22 fk_X9_7_8 (by first | assumption | (simp only [zK_sF, zK_sI, zK_sJ, zK_sR]; assumption)) (by first | assumption | (simp only [zF_sF, zF_sI, zF_sJ, zF_sR, true_and, and_true, false_and, and_false, if_true, if_false, eq_self, reduceIte, Nat.reduceEqDiff, OfNat.ofNat_ne_zero, OfNat.zero_ne_ofNat, OfNat.ofNat_ne_one, OfNat.one_ne_ofNat, reduceCtorEq]; first | rfl | assumption)) ?_
    refine q_lload_n dX9_numberAt_25 rfl ?_
    first | refine q_aload_n dX9_numberAt_26 rfl ?_ | refine q_aload_nN dX9_numberAt_26 rfl ?_
    refine q_getf dX9_numberAt_27 fk_X9_13_8 (by first | assumption | (simp only [zK_sF, zK_sI, zK_sJ, zK_sR]; assumption)) (by first | assumption | (simp only [zF_sF, zF_sI, zF_sJ, zF_sR, true_and, and_true, false_and, and_false, if_true, if_false, eq_self, reduceIte, Nat.reduceEqDiff, OfNat.ofNat_ne_zero, OfNat.zero_ne_ofNat, OfNat.ofNat_ne_one, OfNat.one_ne_ofNat, reduceCtorEq]; first | rfl | assumption)) ?_
    refine q_lmul dX9_numberAt_30 ?_
    refine q_ladd dX9_numberAt_31 ?_
    exact q_lreturn dX9_numberAt_32 rfl (by decide) (by decide) (by first | exact ⟨rfl, (if_pos (by assumption)).symm⟩ | exact ⟨rfl, (if_neg (by assumption)).symm⟩)
  · first | refine q_aload_n dX9_numberAt_7 rfl ?_ | refine q_aload_nN dX9_numberAt_7 rfl ?_
    refine q_getf dX9_numberAt_8 fk_X9_7_8 (by first | assumption | (simp only [zK_sF, zK_sI, zK_sJ, zK_sR]; assumption)) (by first | assumption | (simp only [zF_sF, zF_sI, zF_sJ, zF_sR, true_and, and_true, false_and, and_false, if_true, if_false, eq_self, reduceIte, Nat.reduceEqDiff, OfNat.ofNat_ne_zero, OfNat.zero_ne_ofNat, OfNat.ofNat_ne_one, OfNat.one_ne_ofNat, reduceCtorEq]; first | rfl | assumption)) ?_
    refine q_lload_n dX9_numberAt_11 rfl ?_
    first | refine q_aload_n dX9_numberAt_12 rfl ?_ | refine q_aload_nN dX9_numberAt_12 rfl ?_
    refine q_getf dX9_numberAt_13 fk_X9_13_8 (by first | assumption | (simp only [zK_sF, zK_sI, zK_sJ, zK_sR]; assumption)) (by first | assumption | (simp only [zF_sF, zF_sI, zF_sJ, zF_sR, true_and, and_true, false_and, and_false, if_true, if_false, eq_self, reduceIte, Nat.reduceEqDiff, OfNat.ofNat_ne_zero, OfNat.zero_ne_ofNat, OfNat.ofNat_ne_one, OfNat.one_ne_ofNat, reduceCtorEq]; first | rfl | assumption)) ?_
    refine q_lmul dX9_numberAt_16 ?_
    refine q_lsub dX9_numberAt_17 ?_
    refine q_goto 32 dX9_numberAt_18 (by decide) ?_
    exact q_lreturn dX9_numberAt_32 rfl (by decide) (by decide) (by first | exact ⟨rfl, (if_pos (by assumption)).symm⟩ | exact ⟨rfl, (if_neg (by assumption)).symm⟩)
set_option maxHeartbeats 600000 in
set_option maxRecDepth 100000 in
theorem c_X9_indexOf (l : Launch) (G : Gt) (Z : Zt) (a : Nat) (f s c : Int64) (d : Int32) (hK : zK Z a = 9) (h0 : zF Z 0 a = .long f) (h1 : zF Z 1 a = .long s) (h2 : zF Z 2 a = .int d) (h3 : zF Z 3 a = .long c) (v : Int64) : Ct l G YX9_indexOf (3, 0, 0) Z [.ref a, .long v] (ΦL (fun r Z1 => Z1 = Z ∧ r = stIx f s d c v)) := by
  refine ct_of [some (.ref a), some (.long v), none, none, none, none, none] (by decide +kernel) (Nat.le_of_ble_eq_true rfl) rfl (fun M => ?_)
  first | refine q_aload_n dX9_indexOf_0 rfl ?_ | refine q_aload_nN dX9_indexOf_0 rfl ?_
  refine q_getf dX9_indexOf_1 fk_X9_20_8 (by first | assumption | (simp only [zK_sF, zK_sI, zK_sJ, zK_sR]; assumption)) (by first | assumption | (simp only [zF_sF, zF_sI, zF_sJ, zF_sR, true_and, and_true, false_and, and_false, if_true, if_false, eq_self, reduceIte, Nat.reduceEqDiff, OfNat.ofNat_ne_zero, OfNat.zero_ne_ofNat, OfNat.ofNat_ne_one, OfNat.one_ne_ofNat, reduceCtorEq]; first | rfl | assumption)) ?_
  refine q_lconst (v := 1) dX9_indexOf_4 (by decide) ?_
  refine q_lcmp_lt 37 dX9_indexOf_5 dX9_indexOf_6 (by decide) (fun c5 => ?_) (fun c5 => ?_)
  · refine q_ldc2 dX9_indexOf_37 kl_X9_23 ?_
    exact q_lreturn dX9_indexOf_40 rfl (by decide) (by decide) (by refine ⟨rfl, ?_⟩; first | (simp only [stIx, *, if_true, if_false, reduceIte]; done) | (simp only [stIx, *, if_true, if_false, reduceIte]; rw [if_neg (by decide)]) | (simp only [stIx, *, if_true, if_false, reduceIte]; rw [if_pos (Int64.le_refl _)]))
  · first | refine q_aload_n dX9_indexOf_9 rfl ?_ | refine q_aload_nN dX9_indexOf_9 rfl ?_
    refine q_getf dX9_indexOf_10 fk_X9_16_8 (by first | assumption | (simp only [zK_sF, zK_sI, zK_sJ, zK_sR]; assumption)) (by first | assumption | (simp only [zF_sF, zF_sI, zF_sJ, zF_sR, true_and, and_true, false_and, and_false, if_true, if_false, eq_self, reduceIte, Nat.reduceEqDiff, OfNat.ofNat_ne_zero, OfNat.zero_ne_ofNat, OfNat.ofNat_ne_one, OfNat.one_ne_ofNat, reduceCtorEq]; first | rfl | assumption)) ?_
    refine q_if_eq 28 dX9_indexOf_13 (by decide) (fun c13 => ?_) (fun c13 => ?_)
    · refine q_lload_n dX9_indexOf_28 rfl ?_
      first | refine q_aload_n dX9_indexOf_29 rfl ?_ | refine q_aload_nN dX9_indexOf_29 rfl ?_
      refine q_getf dX9_indexOf_30 fk_X9_7_8 (by first | assumption | (simp only [zK_sF, zK_sI, zK_sJ, zK_sR]; assumption)) (by first | assumption | (simp only [zF_sF, zF_sI, zF_sJ, zF_sR, true_and, and_true, false_and, and_false, if_true, if_false, eq_self, reduceIte, Nat.reduceEqDiff, OfNat.ofNat_ne_zero, OfNat.zero_ne_ofNat, OfNat.ofNat_ne_one, OfNat.one_ne_ofNat, reduceCtorEq]; first | rfl | assumption)) ?_
      refine q_lcmp_ge 41 dX9_indexOf_33 dX9_indexOf_34 (by decide) (fun c33 => ?_) (fun c33 => ?_)
      · refine q_lload_n dX9_indexOf_41 rfl ?_
        first | refine q_aload_n dX9_indexOf_42 rfl ?_ | refine q_aload_nN dX9_indexOf_42 rfl ?_
        refine q_getf dX9_indexOf_43 fk_X9_7_8 (by first | assumption | (simp only [zK_sF, zK_sI, zK_sJ, zK_sR]; assumption)) (by first | assumption | (simp only [zF_sF, zF_sI, zF_sJ, zF_sR, true_and, and_true, false_and, and_false, if_true, if_false, eq_self, reduceIte, Nat.reduceEqDiff, OfNat.ofNat_ne_zero, OfNat.zero_ne_ofNat, OfNat.ofNat_ne_one, OfNat.one_ne_ofNat, reduceCtorEq]; first | rfl | assumption)) ?_
        refine q_lcmp_ne 52 dX9_indexOf_46 dX9_indexOf_47 (by decide) (fun c46 => ?_) (fun c46 => ?_)
        · first | refine q_aload_n dX9_indexOf_52 rfl ?_ | refine q_aload_nN dX9_indexOf_52 rfl ?_
          refine q_getf dX9_indexOf_53 fk_X9_7_8 (by first | assumption | (simp only [zK_sF, zK_sI, zK_sJ, zK_sR]; assumption)) (by first | assumption | (simp only [zF_sF, zF_sI, zF_sJ, zF_sR, true_and, and_true, false_and, and_false, if_true, if_false, eq_self, reduceIte, Nat.reduceEqDiff, OfNat.ofNat_ne_zero, OfNat.zero_ne_ofNat, OfNat.ofNat_ne_one, OfNat.one_ne_ofNat, reduceCtorEq]; first | rfl | assumption)) ?_
          refine q_lload_n dX9_indexOf_56 rfl ?_
          refine q_callSN dX9_indexOf_57 mn_X9_25 (c_X11_gap l G _ f v) rfl np_X11_gap (by decide) (by decide) (by decide) (Nat.le_of_ble_eq_true rfl) (kL (fun r Z1 h => ?_))
          obtain ⟨rfl, rfl⟩ := h
          rw [show (if f < v then v - f else f - v) = gpf f v from rfl]
          refine q_lstore_n (ls' := [_, _, _, _, _, _, _]) dX9_indexOf_60 rfl rfl (Nat.le_of_ble_eq_true rfl) (by decide) ?_
          first | refine q_aload_n dX9_indexOf_61 rfl ?_ | refine q_aload_nN dX9_indexOf_61 rfl ?_
          refine q_getf dX9_indexOf_62 fk_X9_20_8 (by first | assumption | (simp only [zK_sF, zK_sI, zK_sJ, zK_sR]; assumption)) (by first | assumption | (simp only [zF_sF, zF_sI, zF_sJ, zF_sR, true_and, and_true, false_and, and_false, if_true, if_false, eq_self, reduceIte, Nat.reduceEqDiff, OfNat.ofNat_ne_zero, OfNat.zero_ne_ofNat, OfNat.ofNat_ne_one, OfNat.one_ne_ofNat, reduceCtorEq]; first | rfl | assumption)) ?_
          refine q_lconst (v := 1) dX9_indexOf_65 (by decide) ?_
          refine q_lcmp_eq 92 dX9_indexOf_66 dX9_indexOf_67 (by decide) (fun c66 => ?_) (fun c66 => ?_)
          · refine q_ldc2 dX9_indexOf_92 kl_X9_23 ?_
            exact q_lreturn dX9_indexOf_95 rfl (by decide) (by decide) (by refine ⟨rfl, ?_⟩; first | (simp only [stIx, *, if_true, if_false, reduceIte]; done) | (simp only [stIx, *, if_true, if_false, reduceIte]; rw [if_neg (by decide)]) | (simp only [stIx, *, if_true, if_false, reduceIte]; rw [if_pos (Int64.le_refl _)]))
          · first | refine q_aload_n dX9_indexOf_70 rfl ?_ | refine q_aload_nN dX9_indexOf_70 rfl ?_
            refine q_getf dX9_indexOf_71 fk_X9_13_8 (by first | assumption | (simp only [zK_sF, zK_sI, zK_sJ, zK_sR]; assumption)) (by first | assumption | (simp only [zF_sF, zF_sI, zF_sJ, zF_sR, true_and, and_true, false_and, and_false, if_true, if_false, eq_self, reduceIte, Nat.reduceEqDiff, OfNat.ofNat_ne_zero, OfNat.zero_ne_ofNat, OfNat.ofNat_ne_one, OfNat.one_ne_ofNat, reduceCtorEq]; first | rfl | assumption)) ?_
            refine q_lconst (v := 0) dX9_indexOf_74 (by decide) ?_
            refine q_lcmp_eq 92 dX9_indexOf_75 dX9_indexOf_76 (by decide) (fun c75 => ?_) (fun c75 => ?_)
            · refine q_ldc2 dX9_indexOf_92 kl_X9_23 ?_
              exact q_lreturn dX9_indexOf_95 rfl (by decide) (by decide) (by refine ⟨rfl, ?_⟩; first | (simp only [stIx, *, if_true, if_false, reduceIte]; done) | (simp only [stIx, *, if_true, if_false, reduceIte]; rw [if_neg (by decide)]) | (simp only [stIx, *, if_true, if_false, reduceIte]; rw [if_pos (Int64.le_refl _)]))
            · refine q_lload_n dX9_indexOf_79 rfl ?_
              first | refine q_aload_n dX9_indexOf_80 rfl ?_ | refine q_aload_nN dX9_indexOf_80 rfl ?_
              refine q_getf dX9_indexOf_81 fk_X9_13_8 (by first | assumption | (simp only [zK_sF, zK_sI, zK_sJ, zK_sR]; assumption)) (by first | assumption | (simp only [zF_sF, zF_sI, zF_sJ, zF_sR, true_and, and_true, false_and, and_false, if_true, if_false, eq_self, reduceIte, Nat.reduceEqDiff, OfNat.ofNat_ne_zero, OfNat.zero_ne_ofNat, OfNat.ofNat_ne_one, OfNat.one_ne_ofNat, reduceCtorEq]; first | rfl | assumption)) ?_
              refine q_callSN dX9_indexOf_84 mn_X9_31 (c_X11_unsignedRest l G _ (gpf f v) s) rfl np_X11_unsignedRest (by decide) (by decide) (by decide) (Nat.le_of_ble_eq_true rfl) (kL (fun r Z1 h => ?_))
              obtain ⟨rfl, rfl⟩ := h
              refine q_lconst (v := 0) dX9_indexOf_87 (by decide) ?_
              refine q_lcmp_eq 96 dX9_indexOf_88 dX9_indexOf_89 (by decide) (fun c88 => ?_) (fun c88 => ?_)
              · refine q_lload_n dX9_indexOf_96 rfl ?_
                first | refine q_aload_n dX9_indexOf_97 rfl ?_ | refine q_aload_nN dX9_indexOf_97 rfl ?_
                refine q_getf dX9_indexOf_98 fk_X9_13_8 (by first | assumption | (simp only [zK_sF, zK_sI, zK_sJ, zK_sR]; assumption)) (by first | assumption | (simp only [zF_sF, zF_sI, zF_sJ, zF_sR, true_and, and_true, false_and, and_false, if_true, if_false, eq_self, reduceIte, Nat.reduceEqDiff, OfNat.ofNat_ne_zero, OfNat.zero_ne_ofNat, OfNat.ofNat_ne_one, OfNat.one_ne_ofNat, reduceCtorEq]; first | rfl | assumption)) ?_
                refine q_callSN dX9_indexOf_101 mn_X9_34 (c_X11_unsignedQuotient l G _ (gpf f v) s) rfl np_X11_unsignedQuotient (by decide) (by decide) (by decide) (Nat.le_of_ble_eq_true rfl) (kL (fun r Z1 h => ?_))
                obtain ⟨rfl, rfl⟩ := h
                refine q_lstore (ls' := [_, _, _, _, _, _, _]) dX9_indexOf_104 rfl rfl (Nat.le_of_ble_eq_true rfl) (by decide) ?_
                refine q_lload dX9_indexOf_106 rfl ?_
                refine q_lconst (v := 0) dX9_indexOf_108 (by decide) ?_
                refine q_lcmp_le 128 dX9_indexOf_109 dX9_indexOf_110 (by decide) (fun c109 => ?_) (fun c109 => ?_)
                · refine q_ldc2 dX9_indexOf_128 kl_X9_23 ?_
                  exact q_lreturn dX9_indexOf_131 rfl (by decide) (by decide) (by refine ⟨rfl, ?_⟩; first | (simp only [stIx, *, if_true, if_false, reduceIte]; done) | (simp only [stIx, *, if_true, if_false, reduceIte]; rw [if_neg (by decide)]) | (simp only [stIx, *, if_true, if_false, reduceIte]; rw [if_pos (Int64.le_refl _)]))
                · refine q_lload dX9_indexOf_113 rfl ?_
                  first | refine q_aload_n dX9_indexOf_115 rfl ?_ | refine q_aload_nN dX9_indexOf_115 rfl ?_
                  refine q_getf dX9_indexOf_116 fk_X9_20_8 (by first | assumption | (simp only [zK_sF, zK_sI, zK_sJ, zK_sR]; assumption)) (by first | assumption | (simp only [zF_sF, zF_sI, zF_sJ, zF_sR, true_and, and_true, false_and, and_false, if_true, if_false, eq_self, reduceIte, Nat.reduceEqDiff, OfNat.ofNat_ne_zero, OfNat.zero_ne_ofNat, OfNat.ofNat_ne_one, OfNat.one_ne_ofNat, reduceCtorEq]; first | rfl | assumption)) ?_
                  refine q_lcmp_ge 128 dX9_indexOf_119 dX9_indexOf_120 (by decide) (fun c119 => ?_) (fun c119 => ?_)
                  · refine q_ldc2 dX9_indexOf_128 kl_X9_23 ?_
                    exact q_lreturn dX9_indexOf_131 rfl (by decide) (by decide) (by refine ⟨rfl, ?_⟩; first | (simp only [stIx, *, if_true, if_false, reduceIte]; done) | (simp only [stIx, *, if_true, if_false, reduceIte]; rw [if_neg (by decide)]) | (simp only [stIx, *, if_true, if_false, reduceIte]; rw [if_pos (Int64.le_refl _)]))
                  · refine q_lload dX9_indexOf_123 rfl ?_
                    refine q_goto 131 dX9_indexOf_125 (by decide) ?_
                    exact q_lreturn dX9_indexOf_131 rfl (by decide) (by decide) (by refine ⟨rfl, ?_⟩; first | (simp only [stIx, *, if_true, if_false, reduceIte]; done) | (simp only [stIx, *, if_true, if_false, reduceIte]; rw [if_neg (by decide)]) | (simp only [stIx, *, if_true, if_false, reduceIte]; rw [if_pos (Int64.le_refl _)]))
              · refine q_ldc2 dX9_indexOf_92 kl_X9_23 ?_
                exact q_lreturn dX9_indexOf_95 rfl (by decide) (by decide) (by refine ⟨rfl, ?_⟩; first | (simp only [stIx, *, if_true, if_false, reduceIte]; done) | (simp only [stIx, *, if_true, if_false, reduceIte]; rw [if_neg (by decide)]) | (simp only [stIx, *, if_true, if_false, reduceIte]; rw [if_pos (Int64.le_refl _)]))
        · refine q_lconst (v := 0) dX9_indexOf_50 (by decide) ?_
          exact q_lreturn dX9_indexOf_51 rfl (by decide) (by decide) (by refine ⟨rfl, ?_⟩; first | (simp only [stIx, *, if_true, if_false, reduceIte]; done) | (simp only [stIx, *, if_true, if_false, reduceIte]; rw [if_neg (by decide)]) | (simp only [stIx, *, if_true, if_false, reduceIte]; rw [if_pos (Int64.le_refl _)]))
      · refine q_ldc2 dX9_indexOf_37 kl_X9_23 ?_
        exact q_lreturn dX9_indexOf_40 rfl (by decide) (by decide) (by refine ⟨rfl, ?_⟩; first | (simp only [stIx, *, if_true, if_false, reduceIte]; done) | (simp only [stIx, *, if_true, if_false, reduceIte]; rw [if_neg (by decide)]) | (simp only [stIx, *, if_true, if_false, reduceIte]; rw [if_pos (Int64.le_refl _)]))
    · refine q_lload_n dX9_indexOf_16 rfl ?_
      first | refine q_aload_n dX9_indexOf_17 rfl ?_ | refine q_aload_nN dX9_indexOf_17 rfl ?_
      refine q_getf dX9_indexOf_18 fk_X9_7_8 (by first | assumption | (simp only [zK_sF, zK_sI, zK_sJ, zK_sR]; assumption)) (by first | assumption | (simp only [zF_sF, zF_sI, zF_sJ, zF_sR, true_and, and_true, false_and, and_false, if_true, if_false, eq_self, reduceIte, Nat.reduceEqDiff, OfNat.ofNat_ne_zero, OfNat.zero_ne_ofNat, OfNat.ofNat_ne_one, OfNat.one_ne_ofNat, reduceCtorEq]; first | rfl | assumption)) ?_
      refine q_lcmp_le 41 dX9_indexOf_21 dX9_indexOf_22 (by decide) (fun c21 => ?_) (fun c21 => ?_)
      · refine q_lload_n dX9_indexOf_41 rfl ?_
        first | refine q_aload_n dX9_indexOf_42 rfl ?_ | refine q_aload_nN dX9_indexOf_42 rfl ?_
        refine q_getf dX9_indexOf_43 fk_X9_7_8 (by first | assumption | (simp only [zK_sF, zK_sI, zK_sJ, zK_sR]; assumption)) (by first | assumption | (simp only [zF_sF, zF_sI, zF_sJ, zF_sR, true_and, and_true, false_and, and_false, if_true, if_false, eq_self, reduceIte, Nat.reduceEqDiff, OfNat.ofNat_ne_zero, OfNat.zero_ne_ofNat, OfNat.ofNat_ne_one, OfNat.one_ne_ofNat, reduceCtorEq]; first | rfl | assumption)) ?_
        refine q_lcmp_ne 52 dX9_indexOf_46 dX9_indexOf_47 (by decide) (fun c46 => ?_) (fun c46 => ?_)
        · first | refine q_aload_n dX9_indexOf_52 rfl ?_ | refine q_aload_nN dX9_indexOf_52 rfl ?_
          refine q_getf dX9_indexOf_53 fk_X9_7_8 (by first | assumption | (simp only [zK_sF, zK_sI, zK_sJ, zK_sR]; assumption)) (by first | assumption | (simp only [zF_sF, zF_sI, zF_sJ, zF_sR, true_and, and_true, false_and, and_false, if_true, if_false, eq_self, reduceIte, Nat.reduceEqDiff, OfNat.ofNat_ne_zero, OfNat.zero_ne_ofNat, OfNat.ofNat_ne_one, OfNat.one_ne_ofNat, reduceCtorEq]; first | rfl | assumption)) ?_
          refine q_lload_n dX9_indexOf_56 rfl ?_
          refine q_callSN dX9_indexOf_57 mn_X9_25 (c_X11_gap l G _ f v) rfl np_X11_gap (by decide) (by decide) (by decide) (Nat.le_of_ble_eq_true rfl) (kL (fun r Z1 h => ?_))
          obtain ⟨rfl, rfl⟩ := h
          rw [show (if f < v then v - f else f - v) = gpf f v from rfl]
          refine q_lstore_n (ls' := [_, _, _, _, _, _, _]) dX9_indexOf_60 rfl rfl (Nat.le_of_ble_eq_true rfl) (by decide) ?_
          first | refine q_aload_n dX9_indexOf_61 rfl ?_ | refine q_aload_nN dX9_indexOf_61 rfl ?_
          refine q_getf dX9_indexOf_62 fk_X9_20_8 (by first | assumption | (simp only [zK_sF, zK_sI, zK_sJ, zK_sR]; assumption)) (by first | assumption | (simp only [zF_sF, zF_sI, zF_sJ, zF_sR, true_and, and_true, false_and, and_false, if_true, if_false, eq_self, reduceIte, Nat.reduceEqDiff, OfNat.ofNat_ne_zero, OfNat.zero_ne_ofNat, OfNat.ofNat_ne_one, OfNat.one_ne_ofNat, reduceCtorEq]; first | rfl | assumption)) ?_
          refine q_lconst (v := 1) dX9_indexOf_65 (by decide) ?_
          refine q_lcmp_eq 92 dX9_indexOf_66 dX9_indexOf_67 (by decide) (fun c66 => ?_) (fun c66 => ?_)
          · refine q_ldc2 dX9_indexOf_92 kl_X9_23 ?_
            exact q_lreturn dX9_indexOf_95 rfl (by decide) (by decide) (by refine ⟨rfl, ?_⟩; first | (simp only [stIx, *, if_true, if_false, reduceIte]; done) | (simp only [stIx, *, if_true, if_false, reduceIte]; rw [if_neg (by decide)]) | (simp only [stIx, *, if_true, if_false, reduceIte]; rw [if_pos (Int64.le_refl _)]))
          · first | refine q_aload_n dX9_indexOf_70 rfl ?_ | refine q_aload_nN dX9_indexOf_70 rfl ?_
            refine q_getf dX9_indexOf_71 fk_X9_13_8 (by first | assumption | (simp only [zK_sF, zK_sI, zK_sJ, zK_sR]; assumption)) (by first | assumption | (simp only [zF_sF, zF_sI, zF_sJ, zF_sR, true_and, and_true, false_and, and_false, if_true, if_false, eq_self, reduceIte, Nat.reduceEqDiff, OfNat.ofNat_ne_zero, OfNat.zero_ne_ofNat, OfNat.ofNat_ne_one, OfNat.one_ne_ofNat, reduceCtorEq]; first | rfl | assumption)) ?_
            refine q_lconst (v := 0) dX9_indexOf_74 (by decide) ?_
            refine q_lcmp_eq 92 dX9_indexOf_75 dX9_indexOf_76 (by decide) (fun c75 => ?_) (fun c75 => ?_)
            · refine q_ldc2 dX9_indexOf_92 kl_X9_23 ?_
              exact q_lreturn dX9_indexOf_95 rfl (by decide) (by decide) (by refine ⟨rfl, ?_⟩; first | (simp only [stIx, *, if_true, if_false, reduceIte]; done) | (simp only [stIx, *, if_true, if_false, reduceIte]; rw [if_neg (by decide)]) | (simp only [stIx, *, if_true, if_false, reduceIte]; rw [if_pos (Int64.le_refl _)]))
            · refine q_lload_n dX9_indexOf_79 rfl ?_
              first | refine q_aload_n dX9_indexOf_80 rfl ?_ | refine q_aload_nN dX9_indexOf_80 rfl ?_
              refine q_getf dX9_indexOf_81 fk_X9_13_8 (by first | assumption | (simp only [zK_sF, zK_sI, zK_sJ, zK_sR]; assumption)) (by first | assumption | (simp only [zF_sF, zF_sI, zF_sJ, zF_sR, true_and, and_true, false_and, and_false, if_true, if_false, eq_self, reduceIte, Nat.reduceEqDiff, OfNat.ofNat_ne_zero, OfNat.zero_ne_ofNat, OfNat.ofNat_ne_one, OfNat.one_ne_ofNat, reduceCtorEq]; first | rfl | assumption)) ?_
              refine q_callSN dX9_indexOf_84 mn_X9_31 (c_X11_unsignedRest l G _ (gpf f v) s) rfl np_X11_unsignedRest (by decide) (by decide) (by decide) (Nat.le_of_ble_eq_true rfl) (kL (fun r Z1 h => ?_))
              obtain ⟨rfl, rfl⟩ := h
              refine q_lconst (v := 0) dX9_indexOf_87 (by decide) ?_
              refine q_lcmp_eq 96 dX9_indexOf_88 dX9_indexOf_89 (by decide) (fun c88 => ?_) (fun c88 => ?_)
              · refine q_lload_n dX9_indexOf_96 rfl ?_
                first | refine q_aload_n dX9_indexOf_97 rfl ?_ | refine q_aload_nN dX9_indexOf_97 rfl ?_
                refine q_getf dX9_indexOf_98 fk_X9_13_8 (by first | assumption | (simp only [zK_sF, zK_sI, zK_sJ, zK_sR]; assumption)) (by first | assumption | (simp only [zF_sF, zF_sI, zF_sJ, zF_sR, true_and, and_true, false_and, and_false, if_true, if_false, eq_self, reduceIte, Nat.reduceEqDiff, OfNat.ofNat_ne_zero, OfNat.zero_ne_ofNat, OfNat.ofNat_ne_one, OfNat.one_ne_ofNat, reduceCtorEq]; first | rfl | assumption)) ?_
                refine q_callSN dX9_indexOf_101 mn_X9_34 (c_X11_unsignedQuotient l G _ (gpf f v) s) rfl np_X11_unsignedQuotient (by decide) (by decide) (by decide) (Nat.le_of_ble_eq_true rfl) (kL (fun r Z1 h => ?_))
                obtain ⟨rfl, rfl⟩ := h
                refine q_lstore (ls' := [_, _, _, _, _, _, _]) dX9_indexOf_104 rfl rfl (Nat.le_of_ble_eq_true rfl) (by decide) ?_
                refine q_lload dX9_indexOf_106 rfl ?_
                refine q_lconst (v := 0) dX9_indexOf_108 (by decide) ?_
                refine q_lcmp_le 128 dX9_indexOf_109 dX9_indexOf_110 (by decide) (fun c109 => ?_) (fun c109 => ?_)
                · refine q_ldc2 dX9_indexOf_128 kl_X9_23 ?_
                  exact q_lreturn dX9_indexOf_131 rfl (by decide) (by decide) (by refine ⟨rfl, ?_⟩; first | (simp only [stIx, *, if_true, if_false, reduceIte]; done) | (simp only [stIx, *, if_true, if_false, reduceIte]; rw [if_neg (by decide)]) | (simp only [stIx, *, if_true, if_false, reduceIte]; rw [if_pos (Int64.le_refl _)]))
                · refine q_lload dX9_indexOf_113 rfl ?_
                  first | refine q_aload_n dX9_indexOf_115 rfl ?_ | refine q_aload_nN dX9_indexOf_115 rfl ?_
                  refine q_getf dX9_indexOf_116 fk_X9_20_8 (by first | assumption | (simp only [zK_sF, zK_sI, zK_sJ, zK_sR]; assumption)) (by first | assumption | (simp only [zF_sF, zF_sI, zF_sJ, zF_sR, true_and, and_true, false_and, and_false, if_true, if_false, eq_self, reduceIte, Nat.reduceEqDiff, OfNat.ofNat_ne_zero, OfNat.zero_ne_ofNat, OfNat.ofNat_ne_one, OfNat.one_ne_ofNat, reduceCtorEq]; first | rfl | assumption)) ?_
                  refine q_lcmp_ge 128 dX9_indexOf_119 dX9_indexOf_120 (by decide) (fun c119 => ?_) (fun c119 => ?_)
                  · refine q_ldc2 dX9_indexOf_128 kl_X9_23 ?_
                    exact q_lreturn dX9_indexOf_131 rfl (by decide) (by decide) (by refine ⟨rfl, ?_⟩; first | (simp only [stIx, *, if_true, if_false, reduceIte]; done) | (simp only [stIx, *, if_true, if_false, reduceIte]; rw [if_neg (by decide)]) | (simp only [stIx, *, if_true, if_false, reduceIte]; rw [if_pos (Int64.le_refl _)]))
                  · refine q_lload dX9_indexOf_123 rfl ?_
                    refine q_goto 131 dX9_indexOf_125 (by decide) ?_
                    exact q_lreturn dX9_indexOf_131 rfl (by decide) (by decide) (by refine ⟨rfl, ?_⟩; first | (simp only [stIx, *, if_true, if_false, reduceIte]; done) | (simp only [stIx, *, if_true, if_false, reduceIte]; rw [if_neg (by decide)]) | (simp only [stIx, *, if_true, if_false, reduceIte]; rw [if_pos (Int64.le_refl _)]))
              · refine q_ldc2 dX9_indexOf_92 kl_X9_23 ?_
                exact q_lreturn dX9_indexOf_95 rfl (by decide) (by decide) (by refine ⟨rfl, ?_⟩; first | (simp only [stIx, *, if_true, if_false, reduceIte]; done) | (simp only [stIx, *, if_true, if_false, reduceIte]; rw [if_neg (by decide)]) | (simp only [stIx, *, if_true, if_false, reduceIte]; rw [if_pos (Int64.le_refl _)]))
        · refine q_lconst (v := 0) dX9_indexOf_50 (by decide) ?_
          exact q_lreturn dX9_indexOf_51 rfl (by decide) (by decide) (by refine ⟨rfl, ?_⟩; first | (simp only [stIx, *, if_true, if_false, reduceIte]; done) | (simp only [stIx, *, if_true, if_false, reduceIte]; rw [if_neg (by decide)]) | (simp only [stIx, *, if_true, if_false, reduceIte]; rw [if_pos (Int64.le_refl _)]))
      · refine q_goto 37 dX9_indexOf_25 (by decide) ?_
        refine q_ldc2 dX9_indexOf_37 kl_X9_23 ?_
        exact q_lreturn dX9_indexOf_40 rfl (by decide) (by decide) (by refine ⟨rfl, ?_⟩; first | (simp only [stIx, *, if_true, if_false, reduceIte]; done) | (simp only [stIx, *, if_true, if_false, reduceIte]; rw [if_neg (by decide)]) | (simp only [stIx, *, if_true, if_false, reduceIte]; rw [if_pos (Int64.le_refl _)]))
set_option maxHeartbeats 600000 in
set_option maxRecDepth 100000 in
theorem c_X9_turned (l : Launch) (G : Gt) (Z : Zt) (a : Nat) (f s c : Int64) (d : Int32) (hK : zK Z a = 9) (h0 : zF Z 0 a = .long f) (h1 : zF Z 1 a = .long s) (h2 : zF Z 2 a = .int d) (h3 : zF Z 3 a = .long c) (hN : a ≠ zN Z) (hd : d = 0 ∨ d = 1) : Ct l G YX9_turned (2, 1, 4) Z [.ref a] (ΦA (fun r Z1 => (c < 1 → r = some a ∧ Z1 = Z) ∧ (¬ c < 1 → r = some (zN Z) ∧ Z1 = nSt Z (stAt f s d (c - 1)) s (if d = 0 then 1 else 0) c))) := by
  refine ct_of [some (.ref a)] (by decide +kernel) (Nat.le_of_ble_eq_true rfl) rfl (fun M => ?_)
  first | refine q_aload_n dX9_turned_0 rfl ?_ | refine q_aload_nN dX9_turned_0 rfl ?_
  refine q_getf dX9_turned_1 fk_X9_20_8 (by first | assumption | (simp only [zK_sF, zK_sI, zK_sJ, zK_sR]; assumption)) (by first | assumption | (simp only [zF_sF, zF_sI, zF_sJ, zF_sR, true_and, and_true, false_and, and_false, if_true, if_false, eq_self, reduceIte, Nat.reduceEqDiff, OfNat.ofNat_ne_zero, OfNat.zero_ne_ofNat, OfNat.ofNat_ne_one, OfNat.one_ne_ofNat, reduceCtorEq]; first | rfl | assumption)) ?_
  refine q_lconst (v := 1) dX9_turned_4 (by decide) ?_
  refine q_lcmp_ge 13 dX9_turned_5 dX9_turned_6 (by decide) (fun c5 => ?_) (fun c5 => ?_)
  · refine q_new dX9_turned_13 nk_X9_8 rfl (by decide) (by decide) ?_
    refine q_dup dX9_turned_16 rfl ?_
    first | refine q_aload_n dX9_turned_17 rfl ?_ | refine q_aload_nN dX9_turned_17 rfl ?_
    first | refine q_aload_n dX9_turned_18 rfl ?_ | refine q_aload_nN dX9_turned_18 rfl ?_
    refine q_getf dX9_turned_19 fk_X9_20_8 (by first | (rw [zK_nO hN]; exact hK) | exact zK_nO') ((zF_nO hN).trans h3) ?_
    refine q_lconst (v := 1) dX9_turned_22 (by decide) ?_
    refine q_lsub dX9_turned_23 ?_
    refine q_callV 8 dX9_turned_24 mk_X9_37 rfl (by first | (rw [zK_nO hN]; exact hK) | exact zK_nO') (c_X9_numberAt l G _ a f s c d (by first | (rw [zK_nO hN]; exact hK) | exact zK_nO') ((zF_nO hN).trans h0) ((zF_nO hN).trans h1) ((zF_nO hN).trans h2) ((zF_nO hN).trans h3) (c - 1)) rfl np_X9_numberAt (by decide) (by decide) (by decide) (Nat.le_of_ble_eq_true rfl) (kL (fun r Z1 h => ?_))
    obtain ⟨rfl, rfl⟩ := h
    first | refine q_aload_n dX9_turned_27 rfl ?_ | refine q_aload_nN dX9_turned_27 rfl ?_
    refine q_getf dX9_turned_28 fk_X9_13_8 (by first | (rw [zK_nO hN]; exact hK) | exact zK_nO') ((zF_nO hN).trans h1) ?_
    first | refine q_aload_n dX9_turned_31 rfl ?_ | refine q_aload_nN dX9_turned_31 rfl ?_
    refine q_getf dX9_turned_32 fk_X9_16_8 (by first | (rw [zK_nO hN]; exact hK) | exact zK_nO') ((zF_nO hN).trans h2) ?_
    refine q_if_ne 42 dX9_turned_35 (by decide) (fun c35 => ?_) (fun c35 => ?_)
    · refine q_iconst (v := 0) dX9_turned_42 (by decide) ?_
      first | refine q_aload_n dX9_turned_43 rfl ?_ | refine q_aload_nN dX9_turned_43 rfl ?_
      refine q_getf dX9_turned_44 fk_X9_20_8 (by first | (rw [zK_nO hN]; exact hK) | exact zK_nO') ((zF_nO hN).trans h3) ?_
      refine q_callI dX9_turned_47 mk_X9_41 rfl (c_X9_init l G _ (zN Z) _ s c _ zK_nO' (by first | exact Or.inl rfl | exact Or.inr rfl)) rfl np_X9_init (by decide) (by decide) (by decide) (Nat.le_of_ble_eq_true rfl) (kV (fun Z1 h => ?_))
      subst h
      first | exact q_areturn dX9_turned_50 rfl (Or.inl ⟨_, rfl⟩) (by decide) (by decide) (by first | exact ⟨fun _ => ⟨rfl, rfl⟩, fun z => absurd (Int64.not_le.mp (by assumption)) z⟩ | (refine ⟨fun z => absurd z (Int64.not_lt.mpr (by assumption)), fun _ => ⟨rfl, ?_⟩⟩; first | rw [if_pos (by assumption)]; rfl | rw [if_neg (by assumption)]; rfl)) | exact q_areturnN dX9_turned_50 rfl (Or.inl ⟨_, rfl⟩) (by decide) (by decide) (by first | exact ⟨fun _ => ⟨rfl, rfl⟩, fun z => absurd (Int64.not_le.mp (by assumption)) z⟩ | (refine ⟨fun z => absurd z (Int64.not_lt.mpr (by assumption)), fun _ => ⟨rfl, ?_⟩⟩; first | rw [if_pos (by assumption)]; rfl | rw [if_neg (by assumption)]; rfl))
    · refine q_iconst (v := 1) dX9_turned_38 (by decide) ?_
      refine q_goto 43 dX9_turned_39 (by decide) ?_
      first | refine q_aload_n dX9_turned_43 rfl ?_ | refine q_aload_nN dX9_turned_43 rfl ?_
      refine q_getf dX9_turned_44 fk_X9_20_8 (by first | (rw [zK_nO hN]; exact hK) | exact zK_nO') ((zF_nO hN).trans h3) ?_
      refine q_callI dX9_turned_47 mk_X9_41 rfl (c_X9_init l G _ (zN Z) _ s c _ zK_nO' (by first | exact Or.inl rfl | exact Or.inr rfl)) rfl np_X9_init (by decide) (by decide) (by decide) (Nat.le_of_ble_eq_true rfl) (kV (fun Z1 h => ?_))
      subst h
      first | exact q_areturn dX9_turned_50 rfl (Or.inl ⟨_, rfl⟩) (by decide) (by decide) (by first | exact ⟨fun _ => ⟨rfl, rfl⟩, fun z => absurd (Int64.not_le.mp (by assumption)) z⟩ | (refine ⟨fun z => absurd z (Int64.not_lt.mpr (by assumption)), fun _ => ⟨rfl, ?_⟩⟩; first | rw [if_pos (by assumption)]; rfl | rw [if_neg (by assumption)]; rfl)) | exact q_areturnN dX9_turned_50 rfl (Or.inl ⟨_, rfl⟩) (by decide) (by decide) (by first | exact ⟨fun _ => ⟨rfl, rfl⟩, fun z => absurd (Int64.not_le.mp (by assumption)) z⟩ | (refine ⟨fun z => absurd z (Int64.not_lt.mpr (by assumption)), fun _ => ⟨rfl, ?_⟩⟩; first | rw [if_pos (by assumption)]; rfl | rw [if_neg (by assumption)]; rfl))
  · first | refine q_aload_n dX9_turned_9 rfl ?_ | refine q_aload_nN dX9_turned_9 rfl ?_
    refine q_goto 50 dX9_turned_10 (by decide) ?_
    first | exact q_areturn dX9_turned_50 rfl (Or.inl ⟨_, rfl⟩) (by decide) (by decide) (by first | exact ⟨fun _ => ⟨rfl, rfl⟩, fun z => absurd (Int64.not_le.mp (by assumption)) z⟩ | (refine ⟨fun z => absurd z (Int64.not_lt.mpr (by assumption)), fun _ => ⟨rfl, ?_⟩⟩; first | rw [if_pos (by assumption)]; rfl | rw [if_neg (by assumption)]; rfl)) | exact q_areturnN dX9_turned_50 rfl (Or.inl ⟨_, rfl⟩) (by decide) (by decide) (by first | exact ⟨fun _ => ⟨rfl, rfl⟩, fun z => absurd (Int64.not_le.mp (by assumption)) z⟩ | (refine ⟨fun z => absurd z (Int64.not_lt.mpr (by assumption)), fun _ => ⟨rfl, ?_⟩⟩; first | rw [if_pos (by assumption)]; rfl | rw [if_neg (by assumption)]; rfl))
set_option maxHeartbeats 600000 in
set_option maxRecDepth 100000 in
theorem c_X9_every (l : Launch) (G : Gt) (Z : Zt) (a : Nat) (f s c : Int64) (d : Int32) (hK : zK Z a = 9) (h0 : zF Z 0 a = .long f) (h1 : zF Z 1 a = .long s) (h2 : zF Z 2 a = .int d) (h3 : zF Z 3 a = .long c) (hN : a ≠ zN Z) (n : Int32) (hn : ¬ n.toInt64 = 0) (hd : d = 0 ∨ d = 1) : Ct l G YX9_every (2, 1, 4) Z [.ref a, .int n] (ΦA (fun r Z1 => ((c < 1 ∨ ¬ 1 ≤ n) → r = some a ∧ Z1 = Z) ∧ (¬ (c < 1 ∨ ¬ 1 ≤ n) → r = some (zN Z) ∧ Z1 = nSt Z f (s * n.toInt64) d ((c - 1) / n.toInt64 + 1)))) := by
  refine ct_of [some (.ref a), some (.int n)] (by decide +kernel) (Nat.le_of_ble_eq_true rfl) rfl (fun M => ?_)
  first | refine q_aload_n dX9_every_0 rfl ?_ | refine q_aload_nN dX9_every_0 rfl ?_
  refine q_getf dX9_every_1 fk_X9_20_8 (by first | assumption | (simp only [zK_sF, zK_sI, zK_sJ, zK_sR]; assumption)) (by first | assumption | (simp only [zF_sF, zF_sI, zF_sJ, zF_sR, true_and, and_true, false_and, and_false, if_true, if_false, eq_self, reduceIte, Nat.reduceEqDiff, OfNat.ofNat_ne_zero, OfNat.zero_ne_ofNat, OfNat.ofNat_ne_one, OfNat.one_ne_ofNat, reduceCtorEq]; first | rfl | assumption)) ?_
  refine q_lconst (v := 1) dX9_every_4 (by decide) ?_
  refine q_lcmp_lt 14 dX9_every_5 dX9_every_6 (by decide) (fun c5 => ?_) (fun c5 => ?_)
  · first | refine q_aload_n dX9_every_14 rfl ?_ | refine q_aload_nN dX9_every_14 rfl ?_
    refine q_goto 51 dX9_every_15 (by decide) ?_
    first | exact q_areturn dX9_every_51 rfl (Or.inl ⟨_, rfl⟩) (by decide) (by decide) (by first | exact ⟨fun _ => ⟨rfl, rfl⟩, fun z => absurd (by first | exact Or.inl (by assumption) | exact Or.inr (by assumption)) z⟩ | exact ⟨fun z => absurd z (fun z => z.elim (by assumption) (fun z => z (by assumption))), fun _ => ⟨rfl, rfl⟩⟩) | exact q_areturnN dX9_every_51 rfl (Or.inl ⟨_, rfl⟩) (by decide) (by decide) (by first | exact ⟨fun _ => ⟨rfl, rfl⟩, fun z => absurd (by first | exact Or.inl (by assumption) | exact Or.inr (by assumption)) z⟩ | exact ⟨fun z => absurd z (fun z => z.elim (by assumption) (fun z => z (by assumption))), fun _ => ⟨rfl, rfl⟩⟩)
  · refine q_iload_n dX9_every_9 rfl ?_
    refine q_iconst (v := 1) dX9_every_10 (by decide) ?_
    refine q_icmp_ge 18 dX9_every_11 (by decide) (fun c11 => ?_) (fun c11 => ?_)
    · refine q_new dX9_every_18 nk_X9_8 rfl (by decide) (by decide) ?_
      refine q_dup dX9_every_21 rfl ?_
      first | refine q_aload_n dX9_every_22 rfl ?_ | refine q_aload_nN dX9_every_22 rfl ?_
      refine q_getf dX9_every_23 fk_X9_7_8 (by first | (rw [zK_nO hN]; exact hK) | exact zK_nO') ((zF_nO hN).trans h0) ?_
      first | refine q_aload_n dX9_every_26 rfl ?_ | refine q_aload_nN dX9_every_26 rfl ?_
      refine q_getf dX9_every_27 fk_X9_13_8 (by first | (rw [zK_nO hN]; exact hK) | exact zK_nO') ((zF_nO hN).trans h1) ?_
      refine q_iload_n dX9_every_30 rfl ?_
      refine q_i2l dX9_every_31 ?_
      refine q_lmul dX9_every_32 ?_
      first | refine q_aload_n dX9_every_33 rfl ?_ | refine q_aload_nN dX9_every_33 rfl ?_
      refine q_getf dX9_every_34 fk_X9_16_8 (by first | (rw [zK_nO hN]; exact hK) | exact zK_nO') ((zF_nO hN).trans h2) ?_
      first | refine q_aload_n dX9_every_37 rfl ?_ | refine q_aload_nN dX9_every_37 rfl ?_
      refine q_getf dX9_every_38 fk_X9_20_8 (by first | (rw [zK_nO hN]; exact hK) | exact zK_nO') ((zF_nO hN).trans h3) ?_
      refine q_lconst (v := 1) dX9_every_41 (by decide) ?_
      refine q_lsub dX9_every_42 ?_
      refine q_iload_n dX9_every_43 rfl ?_
      refine q_i2l dX9_every_44 ?_
      refine q_ldiv dX9_every_45 hn ?_
      refine q_lconst (v := 1) dX9_every_46 (by decide) ?_
      refine q_ladd dX9_every_47 ?_
      refine q_callI dX9_every_48 mk_X9_41 rfl (c_X9_init l G _ (zN Z) f _ _ d zK_nO' hd) rfl np_X9_init (by decide) (by decide) (by decide) (Nat.le_of_ble_eq_true rfl) (kV (fun Z1 h => ?_))
      subst h
      first | exact q_areturn dX9_every_51 rfl (Or.inl ⟨_, rfl⟩) (by decide) (by decide) (by first | exact ⟨fun _ => ⟨rfl, rfl⟩, fun z => absurd (by first | exact Or.inl (by assumption) | exact Or.inr (by assumption)) z⟩ | exact ⟨fun z => absurd z (fun z => z.elim (by assumption) (fun z => z (by assumption))), fun _ => ⟨rfl, rfl⟩⟩) | exact q_areturnN dX9_every_51 rfl (Or.inl ⟨_, rfl⟩) (by decide) (by decide) (by first | exact ⟨fun _ => ⟨rfl, rfl⟩, fun z => absurd (by first | exact Or.inl (by assumption) | exact Or.inr (by assumption)) z⟩ | exact ⟨fun z => absurd z (fun z => z.elim (by assumption) (fun z => z (by assumption))), fun _ => ⟨rfl, rfl⟩⟩)
    · first | refine q_aload_n dX9_every_14 rfl ?_ | refine q_aload_nN dX9_every_14 rfl ?_
      refine q_goto 51 dX9_every_15 (by decide) ?_
      first | exact q_areturn dX9_every_51 rfl (Or.inl ⟨_, rfl⟩) (by decide) (by decide) (by first | exact ⟨fun _ => ⟨rfl, rfl⟩, fun z => absurd (by first | exact Or.inl (by assumption) | exact Or.inr (by assumption)) z⟩ | exact ⟨fun z => absurd z (fun z => z.elim (by assumption) (fun z => z (by assumption))), fun _ => ⟨rfl, rfl⟩⟩) | exact q_areturnN dX9_every_51 rfl (Or.inl ⟨_, rfl⟩) (by decide) (by decide) (by first | exact ⟨fun _ => ⟨rfl, rfl⟩, fun z => absurd (by first | exact Or.inl (by assumption) | exact Or.inr (by assumption)) z⟩ | exact ⟨fun z => absurd z (fun z => z.elim (by assumption) (fun z => z (by assumption))), fun _ => ⟨rfl, rfl⟩⟩)
set_option maxHeartbeats 600000 in
set_option maxRecDepth 100000 in
theorem c_X5_becomePlain (l : Launch) (G : Gt) (Z : Zt) (a s : Nat) (hK : zK Z a = 5) : Ct l G YX5_becomePlain (0, 0, 0) Z [.ref a, .ref s] (ΦV (fun Z1 => Z1 = sF (sF Z 0 a (.ref s)) 2 a (.int 0))) := by
  refine ct_of [some (.ref a), some (.ref s)] (by decide +kernel) (Nat.le_of_ble_eq_true rfl) rfl (fun M => ?_)
  first | refine q_aload_n dX5_becomePlain_0 rfl ?_ | refine q_aload_nN dX5_becomePlain_0 rfl ?_
  first | refine q_aload_n dX5_becomePlain_1 rfl ?_ | refine q_aload_nN dX5_becomePlain_1 rfl ?_
  refine q_putf dX5_becomePlain_2 fk_X5_15_4 rfl (by first | assumption | (simp only [zK_sF, zK_sI, zK_sJ, zK_sR]; assumption)) rfl rfl ?_
  first | refine q_aload_n dX5_becomePlain_5 rfl ?_ | refine q_aload_nN dX5_becomePlain_5 rfl ?_
  refine q_iconst (v := 0) dX5_becomePlain_6 (by decide) ?_
  refine q_putf dX5_becomePlain_7 fk_X5_19_4 rfl (by first | assumption | (simp only [zK_sF, zK_sI, zK_sJ, zK_sR]; assumption)) rfl rfl ?_
  exact q_return dX5_becomePlain_10 rfl (by decide) (by decide) rfl
set_option maxHeartbeats 600000 in
set_option maxRecDepth 100000 in
theorem c_X5_many_g (l : Launch) (G : Gt) (Z : Zt) (a : Nat) (cn : Int32) (hK : zK Z a = 5) (h0 : zF Z 0 a = .null) (h2 : zF Z 2 a = .int cn) : Ct l G YX5_many (0, 0, 0) Z [.ref a] (ΦL (fun r Z1 => Z1 = Z ∧ r = cn.toInt64)) := by
  refine ct_of [some (.ref a)] (by decide +kernel) (Nat.le_of_ble_eq_true rfl) rfl (fun M => ?_)
  first | refine q_aload_n dX5_many_0 rfl ?_ | refine q_aload_nN dX5_many_0 rfl ?_
  refine q_getf dX5_many_1 fk_X5_15_4 (by first | assumption | (simp only [zK_sF, zK_sI, zK_sJ, zK_sR]; assumption)) (by first | assumption | (simp only [zF_sF, zF_sI, zF_sJ, zF_sR, true_and, and_true, false_and, and_false, if_true, if_false, eq_self, reduceIte, Nat.reduceEqDiff, OfNat.ofNat_ne_zero, OfNat.zero_ne_ofNat, OfNat.ofNat_ne_one, OfNat.one_ne_ofNat, reduceCtorEq]; first | rfl | assumption)) ?_
  refine q_ifnonnullN dX5_many_4 ?_
  first | refine q_aload_n dX5_many_7 rfl ?_ | refine q_aload_nN dX5_many_7 rfl ?_
  refine q_getf dX5_many_8 fk_X5_19_4 (by first | assumption | (simp only [zK_sF, zK_sI, zK_sJ, zK_sR]; assumption)) (by first | assumption | (simp only [zF_sF, zF_sI, zF_sJ, zF_sR, true_and, and_true, false_and, and_false, if_true, if_false, eq_self, reduceIte, Nat.reduceEqDiff, OfNat.ofNat_ne_zero, OfNat.zero_ne_ofNat, OfNat.ofNat_ne_one, OfNat.one_ne_ofNat, reduceCtorEq]; first | rfl | assumption)) ?_
  refine q_i2l dX5_many_11 ?_
  refine q_goto 22 dX5_many_12 (by decide) ?_
  exact q_lreturn dX5_many_22 rfl (by decide) (by decide) ⟨rfl, rfl⟩
set_option maxHeartbeats 600000 in
set_option maxRecDepth 100000 in
theorem c_X5_many_p (l : Launch) (G : Gt) (Z : Zt) (a s : Nat) (c : Int64) (hK : zK Z a = 5) (h0 : zF Z 0 a = .ref s) (hKs : zK Z s = 9) (hs : zF Z 3 s = .long c) : Ct l G YX5_many (0, 0, 0) Z [.ref a] (ΦL (fun r Z1 => Z1 = Z ∧ r = c)) := by
  refine ct_of [some (.ref a)] (by decide +kernel) (Nat.le_of_ble_eq_true rfl) rfl (fun M => ?_)
  first | refine q_aload_n dX5_many_0 rfl ?_ | refine q_aload_nN dX5_many_0 rfl ?_
  refine q_getf dX5_many_1 fk_X5_15_4 (by first | assumption | (simp only [zK_sF, zK_sI, zK_sJ, zK_sR]; assumption)) (by first | assumption | (simp only [zF_sF, zF_sI, zF_sJ, zF_sR, true_and, and_true, false_and, and_false, if_true, if_false, eq_self, reduceIte, Nat.reduceEqDiff, OfNat.ofNat_ne_zero, OfNat.zero_ne_ofNat, OfNat.ofNat_ne_one, OfNat.one_ne_ofNat, reduceCtorEq]; first | rfl | assumption)) ?_
  refine q_ifnonnull 15 dX5_many_4 (by decide) ?_
  first | refine q_aload_n dX5_many_15 rfl ?_ | refine q_aload_nN dX5_many_15 rfl ?_
  refine q_getf dX5_many_16 fk_X5_15_4 (by first | assumption | (simp only [zK_sF, zK_sI, zK_sJ, zK_sR]; assumption)) (by first | assumption | (simp only [zF_sF, zF_sI, zF_sJ, zF_sR, true_and, and_true, false_and, and_false, if_true, if_false, eq_self, reduceIte, Nat.reduceEqDiff, OfNat.ofNat_ne_zero, OfNat.zero_ne_ofNat, OfNat.ofNat_ne_one, OfNat.one_ne_ofNat, reduceCtorEq]; first | rfl | assumption)) ?_
  refine q_getf dX5_many_19 fk_X5_27_8 (by first | assumption | (simp only [zK_sF, zK_sI, zK_sJ, zK_sR]; assumption)) (by first | assumption | (simp only [zF_sF, zF_sI, zF_sJ, zF_sR, true_and, and_true, false_and, and_false, if_true, if_false, eq_self, reduceIte, Nat.reduceEqDiff, OfNat.ofNat_ne_zero, OfNat.zero_ne_ofNat, OfNat.ofNat_ne_one, OfNat.one_ne_ofNat, reduceCtorEq]; first | rfl | assumption)) ?_
  exact q_lreturn dX5_many_22 rfl (by decide) (by decide) ⟨rfl, rfl⟩
set_option maxHeartbeats 600000 in
set_option maxRecDepth 100000 in
theorem c_X5_numberAt_p (l : Launch) (G : Gt) (Z : Zt) (a q : Nat) (f s c : Int64) (d : Int32) (k : Int64) (hKr : zK Z a = 5) (hr : zF Z 0 a = .ref q) (hK : zK Z q = 9) (h0 : zF Z 0 q = .long f) (h1 : zF Z 1 q = .long s) (h2 : zF Z 2 q = .int d) (h3 : zF Z 3 q = .long c) : Ct l G YX5_numberAt (1, 0, 0) Z [.ref a, .long k] (ΦL (fun r Z1 => Z1 = Z ∧ r = stAt f s d k)) := by
  refine ct_of [some (.ref a), some (.long k), none] (by decide +kernel) (Nat.le_of_ble_eq_true rfl) rfl (fun M => ?_)
  first | refine q_aload_n dX5_numberAt_0 rfl ?_ | refine q_aload_nN dX5_numberAt_0 rfl ?_
  refine q_getf dX5_numberAt_1 fk_X5_15_4 (by first | assumption | (simp only [zK_sF, zK_sI, zK_sJ, zK_sR]; assumption)) (by first | assumption | (simp only [zF_sF, zF_sI, zF_sJ, zF_sR, true_and, and_true, false_and, and_false, if_true, if_false, eq_self, reduceIte, Nat.reduceEqDiff, OfNat.ofNat_ne_zero, OfNat.zero_ne_ofNat, OfNat.ofNat_ne_one, OfNat.one_ne_ofNat, reduceCtorEq]; first | rfl | assumption)) ?_
  refine q_ifnull dX5_numberAt_4 ?_
  first | refine q_aload_n dX5_numberAt_7 rfl ?_ | refine q_aload_nN dX5_numberAt_7 rfl ?_
  refine q_getf dX5_numberAt_8 fk_X5_15_4 (by first | assumption | (simp only [zK_sF, zK_sI, zK_sJ, zK_sR]; assumption)) (by first | assumption | (simp only [zF_sF, zF_sI, zF_sJ, zF_sR, true_and, and_true, false_and, and_false, if_true, if_false, eq_self, reduceIte, Nat.reduceEqDiff, OfNat.ofNat_ne_zero, OfNat.zero_ne_ofNat, OfNat.ofNat_ne_one, OfNat.one_ne_ofNat, reduceCtorEq]; first | rfl | assumption)) ?_
  refine q_lload_n dX5_numberAt_11 rfl ?_
  refine q_callV 8 dX5_numberAt_12 mk_X5_32 rfl (by first | assumption | (simp only [zK_sF, zK_sI, zK_sJ, zK_sR]; assumption)) (c_X9_numberAt l G _ q f s c d hK h0 h1 h2 h3 k) rfl np_X9_numberAt (by decide) (by decide) (by decide) (Nat.le_of_ble_eq_true rfl) (kL (fun r Z1 h => ?_))
  exact q_lreturn dX5_numberAt_15 rfl (by decide) (by decide) h
set_option maxHeartbeats 600000 in
set_option maxRecDepth 100000 in
theorem c_X5_numberAt_g (l : Launch) (G : Gt) (Z : Zt) (a nb : Nat) (cn : Int32) (k : Int64) (hK : zK Z a = 5) (h0 : zF Z 0 a = .null) (h1 : zF Z 1 a = .ref nb) (h2 : zF Z 2 a = .int cn) (hKn : zK Z nb = 21) (hk : ¬ k < 0) (hc : k < cn.toInt64) (hi : vp_in k.toInt32 (zL Z nb)) : Ct l G YX5_numberAt (1, 0, 0) Z [.ref a, .long k] (ΦL (fun r Z1 => Z1 = Z ∧ r = zJ Z nb k.toInt32.toNatClampNeg)) := by
  refine ct_of [some (.ref a), some (.long k), none] (by decide +kernel) (Nat.le_of_ble_eq_true rfl) rfl (fun M => ?_)
  first | refine q_aload_n dX5_numberAt_0 rfl ?_ | refine q_aload_nN dX5_numberAt_0 rfl ?_
  refine q_getf dX5_numberAt_1 fk_X5_15_4 (by first | assumption | (simp only [zK_sF, zK_sI, zK_sJ, zK_sR]; assumption)) (by first | assumption | (simp only [zF_sF, zF_sI, zF_sJ, zF_sR, true_and, and_true, false_and, and_false, if_true, if_false, eq_self, reduceIte, Nat.reduceEqDiff, OfNat.ofNat_ne_zero, OfNat.zero_ne_ofNat, OfNat.ofNat_ne_one, OfNat.one_ne_ofNat, reduceCtorEq]; first | rfl | assumption)) ?_
  refine q_ifnullN 16 dX5_numberAt_4 (by decide) ?_
  refine q_lload_n dX5_numberAt_16 rfl ?_
  refine q_lconst (v := 0) dX5_numberAt_17 (by decide) ?_
  refine q_lcmp_lt 32 dX5_numberAt_18 dX5_numberAt_19 (by decide) (fun c18 => absurd c18 hk) (fun c18 => ?_)
  refine q_lload_n dX5_numberAt_22 rfl ?_
  first | refine q_aload_n dX5_numberAt_23 rfl ?_ | refine q_aload_nN dX5_numberAt_23 rfl ?_
  refine q_getf dX5_numberAt_24 fk_X5_19_4 (by first | assumption | (simp only [zK_sF, zK_sI, zK_sJ, zK_sR]; assumption)) (by first | assumption | (simp only [zF_sF, zF_sI, zF_sJ, zF_sR, true_and, and_true, false_and, and_false, if_true, if_false, eq_self, reduceIte, Nat.reduceEqDiff, OfNat.ofNat_ne_zero, OfNat.zero_ne_ofNat, OfNat.ofNat_ne_one, OfNat.one_ne_ofNat, reduceCtorEq]; first | rfl | assumption)) ?_
  refine q_i2l dX5_numberAt_27 ?_
  refine q_lcmp_lt 36 dX5_numberAt_28 dX5_numberAt_29 (by decide) (fun c28 => ?_) (fun c28 => absurd c28 (not_not_intro hc))
  first | refine q_aload_n dX5_numberAt_36 rfl ?_ | refine q_aload_nN dX5_numberAt_36 rfl ?_
  refine q_getf dX5_numberAt_37 fk_X5_9_4 (by first | assumption | (simp only [zK_sF, zK_sI, zK_sJ, zK_sR]; assumption)) (by first | assumption | (simp only [zF_sF, zF_sI, zF_sJ, zF_sR, true_and, and_true, false_and, and_false, if_true, if_false, eq_self, reduceIte, Nat.reduceEqDiff, OfNat.ofNat_ne_zero, OfNat.zero_ne_ofNat, OfNat.ofNat_ne_one, OfNat.one_ne_ofNat, reduceCtorEq]; first | rfl | assumption)) ?_
  refine q_lload_n dX5_numberAt_40 rfl ?_
  refine q_l2i dX5_numberAt_41 ?_
  refine q_lald dX5_numberAt_42 (by first | assumption | (simp only [zK_sF, zK_sI, zK_sJ, zK_sR]; assumption)) hi ?_
  exact q_lreturn dX5_numberAt_43 rfl (by decide) (by decide) ⟨rfl, rfl⟩
set_option maxHeartbeats 600000 in
set_option maxRecDepth 100000 in
theorem c_X5_indexOf_p (l : Launch) (G : Gt) (Z : Zt) (a q : Nat) (f s c : Int64) (d : Int32) (v : Int64) (hKr : zK Z a = 5) (hr : zF Z 0 a = .ref q) (hK : zK Z q = 9) (h0 : zF Z 0 q = .long f) (h1 : zF Z 1 q = .long s) (h2 : zF Z 2 q = .int d) (h3 : zF Z 3 q = .long c) : Ct l G YX5_indexOf (4, 0, 0) Z [.ref a, .long v] (ΦL (fun r Z1 => Z1 = Z ∧ r = stIx f s d c v)) := by
  refine ct_of [some (.ref a), some (.long v), none] (by decide +kernel) (Nat.le_of_ble_eq_true rfl) rfl (fun M => ?_)
  first | refine q_aload_n dX5_indexOf_0 rfl ?_ | refine q_aload_nN dX5_indexOf_0 rfl ?_
  refine q_getf dX5_indexOf_1 fk_X5_15_4 (by first | assumption | (simp only [zK_sF, zK_sI, zK_sJ, zK_sR]; assumption)) (by first | assumption | (simp only [zF_sF, zF_sI, zF_sJ, zF_sR, true_and, and_true, false_and, and_false, if_true, if_false, eq_self, reduceIte, Nat.reduceEqDiff, OfNat.ofNat_ne_zero, OfNat.zero_ne_ofNat, OfNat.ofNat_ne_one, OfNat.one_ne_ofNat, reduceCtorEq]; first | rfl | assumption)) ?_
  refine q_ifnonnull 24 dX5_indexOf_4 (by decide) ?_
  first | refine q_aload_n dX5_indexOf_24 rfl ?_ | refine q_aload_nN dX5_indexOf_24 rfl ?_
  refine q_getf dX5_indexOf_25 fk_X5_15_4 (by first | assumption | (simp only [zK_sF, zK_sI, zK_sJ, zK_sR]; assumption)) (by first | assumption | (simp only [zF_sF, zF_sI, zF_sJ, zF_sR, true_and, and_true, false_and, and_false, if_true, if_false, eq_self, reduceIte, Nat.reduceEqDiff, OfNat.ofNat_ne_zero, OfNat.zero_ne_ofNat, OfNat.ofNat_ne_one, OfNat.one_ne_ofNat, reduceCtorEq]; first | rfl | assumption)) ?_
  refine q_lload_n dX5_indexOf_28 rfl ?_
  refine q_callV 8 dX5_indexOf_29 mk_X5_36 rfl (by first | assumption | (simp only [zK_sF, zK_sI, zK_sJ, zK_sR]; assumption)) (c_X9_indexOf l G _ q f s c d hK h0 h1 h2 h3 v) rfl np_X9_indexOf (by decide) (by decide) (by decide) (Nat.le_of_ble_eq_true rfl) (kL (fun r Z1 h => ?_))
  exact q_lreturn dX5_indexOf_32 rfl (by decide) (by decide) h
set_option maxHeartbeats 600000 in
set_option maxRecDepth 100000 in
theorem c_X5_indexOf_g (l : Launch) (G : Gt) (Z : Zt) (a nb n : Nat) (v : Int64) (hK : zK Z a = 5) (h0 : zF Z 0 a = .null) (h1 : zF Z 1 a = .ref nb) (h2 : zF Z 2 a = .int (nI n)) (hKn : zK Z nb = 21) (hL : zL Z nb = 200) (hn : n ≤ 200) : Ct l G YX5_indexOf (1, 0, 0) Z [.ref a, .long v] (ΦL (fun r Z1 => Z1 = Z ∧ ∃ i, r = i.toInt64 ∧ fnd (zJ Z nb) 0 n v i)) := by
  refine ct_of [some (.ref a), some (.long v), none] (by decide +kernel) (Nat.le_of_ble_eq_true rfl) rfl (fun M => ?_)
  first | refine q_aload_n dX5_indexOf_0 rfl ?_ | refine q_aload_nN dX5_indexOf_0 rfl ?_
  refine q_getf dX5_indexOf_1 fk_X5_15_4 (by first | assumption | (simp only [zK_sF, zK_sI, zK_sJ, zK_sR]; assumption)) (by first | assumption | (simp only [zF_sF, zF_sI, zF_sJ, zF_sR, true_and, and_true, false_and, and_false, if_true, if_false, eq_self, reduceIte, Nat.reduceEqDiff, OfNat.ofNat_ne_zero, OfNat.zero_ne_ofNat, OfNat.ofNat_ne_one, OfNat.one_ne_ofNat, reduceCtorEq]; first | rfl | assumption)) ?_
  refine q_ifnonnullN dX5_indexOf_4 ?_
  first | refine q_aload_n dX5_indexOf_7 rfl ?_ | refine q_aload_nN dX5_indexOf_7 rfl ?_
  refine q_getf dX5_indexOf_8 fk_X5_9_4 (by first | assumption | (simp only [zK_sF, zK_sI, zK_sJ, zK_sR]; assumption)) (by first | assumption | (simp only [zF_sF, zF_sI, zF_sJ, zF_sR, true_and, and_true, false_and, and_false, if_true, if_false, eq_self, reduceIte, Nat.reduceEqDiff, OfNat.ofNat_ne_zero, OfNat.zero_ne_ofNat, OfNat.ofNat_ne_one, OfNat.one_ne_ofNat, reduceCtorEq]; first | rfl | assumption)) ?_
  refine q_iconst (v := 0) dX5_indexOf_11 (by decide) ?_
  first | refine q_aload_n dX5_indexOf_12 rfl ?_ | refine q_aload_nN dX5_indexOf_12 rfl ?_
  refine q_getf dX5_indexOf_13 fk_X5_19_4 (by first | assumption | (simp only [zK_sF, zK_sI, zK_sJ, zK_sR]; assumption)) (by first | assumption | (simp only [zF_sF, zF_sI, zF_sJ, zF_sR, true_and, and_true, false_and, and_false, if_true, if_false, eq_self, reduceIte, Nat.reduceEqDiff, OfNat.ofNat_ne_zero, OfNat.zero_ne_ofNat, OfNat.ofNat_ne_one, OfNat.one_ne_ofNat, reduceCtorEq]; first | rfl | assumption)) ?_
  refine q_lload_n dX5_indexOf_16 rfl ?_
  refine q_callSN dX5_indexOf_17 mn_X5_23 (c_X11_find l G _ nb 0 n v hKn (by rw [hL]; decide) (by rw [hL]; exact hn) (by decide)) rfl np_X11_find (by decide) (by decide) (by decide) (Nat.le_of_ble_eq_true rfl) (kI (fun r Z1 h => ?_))
  obtain ⟨rfl, h⟩ := h
  refine q_i2l dX5_indexOf_20 ?_
  refine q_goto 32 dX5_indexOf_21 (by decide) ?_
  exact q_lreturn dX5_indexOf_32 rfl (by decide) (by decide) ⟨rfl, _, rfl, h⟩
set_option maxHeartbeats 600000 in
set_option maxRecDepth 100000 in
theorem c_X5_init (l : Launch) (G : Gt) (Z : Zt) (a : Nat) (hK : zK Z a = 5) (hN : a ≠ zN Z) : Ct l G YX5_init (1, 1, 200) Z [.ref a] (ΦV (fun Z1 => Z1 = sF (nA Z 21 200) 1 a (.ref (zN Z)))) := by
  refine ct_of [some (.ref a)] (by decide +kernel) (Nat.le_of_ble_eq_true rfl) rfl (fun M => ?_)
  first | refine q_aload_n dX5_init_0 rfl ?_ | refine q_aload_nN dX5_init_0 rfl ?_
  refine q_objInit dX5_init_1 ok_X5_3 oi_m oi_c (by decide) (Nat.le_of_ble_eq_true rfl) ?_
  first | refine q_aload_n dX5_init_4 rfl ?_ | refine q_aload_nN dX5_init_4 rfl ?_
  refine q_sipush (v := 200) dX5_init_5 (by decide) ?_
  refine q_newa (w := 1) (N := 200) dX5_init_8 rfl (by decide) ac_1 (by decide) rfl (by decide) (by decide) (by decide) ?_
  refine q_putF dX5_init_10 fk_X5_9_4 rfl rfl rfl ((zK_nA hN).trans hK) rfl rfl ?_
  exact q_return dX5_init_13 rfl (by decide) (by decide) rfl
set_option maxHeartbeats 600000 in
set_option maxRecDepth 100000 in
theorem c_X6_init (l : Launch) (G : Gt) (Z : Zt) (a : Nat) (hK : zK Z a = 6) (hN : a ≠ zN Z) : Ct l G YX6_init (1, 1, 12) Z [.ref a] (ΦV (fun Z1 => Z1 = sF (sF (nA Z 21 12) 0 a (.ref (zN Z))) 1 a (.int 0))) := by
  refine ct_of [some (.ref a)] (by decide +kernel) (Nat.le_of_ble_eq_true rfl) rfl (fun M => ?_)
  first | refine q_aload_n dX6_init_0 rfl ?_ | refine q_aload_nN dX6_init_0 rfl ?_
  refine q_objInit dX6_init_1 ok_X6_3 oi_m oi_c (by decide) (Nat.le_of_ble_eq_true rfl) ?_
  first | refine q_aload_n dX6_init_4 rfl ?_ | refine q_aload_nN dX6_init_4 rfl ?_
  refine q_bipush (v := 12) dX6_init_5 (by decide) ?_
  refine q_newa (w := 1) (N := 12) dX6_init_7 rfl (by decide) ac_1 (by decide) rfl (by decide) (by decide) (by decide) ?_
  refine q_putF dX6_init_9 fk_X6_9_5 rfl rfl rfl ((zK_nA hN).trans hK) rfl rfl ?_
  first | refine q_aload_n dX6_init_12 rfl ?_ | refine q_aload_nN dX6_init_12 rfl ?_
  refine q_iconst (v := 0) dX6_init_13 (by decide) ?_
  refine q_putf dX6_init_14 fk_X6_15_5 rfl (by rw [zK_sF]; exact (zK_nA hN).trans hK) rfl rfl ?_
  exact q_return dX6_init_17 rfl (by decide) (by decide) rfl
set_option maxHeartbeats 600000 in
set_option maxRecDepth 100000 in
theorem c_X0_init (l : Launch) (G : Gt) (Z : Zt) (a : Nat) (n : Int32) (hK : zK Z a = 1) (hN : a ≠ zN Z) : Ct l G YX0_init (1, 1, 3) Z [.ref a, .int n] (ΦV (fun Z1 => Z1 = sF (sF (nA Z 20 3) 0 a (.ref (zN Z))) 1 a (.int n))) := by
  refine ct_of [some (.ref a), some (.int n)] (by decide +kernel) (Nat.le_of_ble_eq_true rfl) rfl (fun M => ?_)
  first | refine q_aload_n dX0_init_0 rfl ?_ | refine q_aload_nN dX0_init_0 rfl ?_
  refine q_objInit dX0_init_1 ok_X0_3 oi_m oi_c (by decide) (Nat.le_of_ble_eq_true rfl) ?_
  first | refine q_aload_n dX0_init_4 rfl ?_ | refine q_aload_nN dX0_init_4 rfl ?_
  refine q_iconst (v := 3) dX0_init_5 (by decide) ?_
  refine q_newa (w := 0) (N := 3) dX0_init_6 rfl (by decide) ac_0 (by decide) rfl (by decide) (by decide) (by decide) ?_
  refine q_putF dX0_init_8 fk_X0_9_0 rfl rfl rfl ((zK_nA hN).trans hK) rfl rfl ?_
  first | refine q_aload_n dX0_init_11 rfl ?_ | refine q_aload_nN dX0_init_11 rfl ?_
  refine q_iload_n dX0_init_12 rfl ?_
  refine q_putF dX0_init_13 fk_X0_15_0 rfl rfl rfl (by rw [zK_sF]; exact (zK_nA hN).trans hK) rfl rfl ?_
  exact q_return dX0_init_16 rfl (by decide) (by decide) rfl
set_option maxHeartbeats 600000 in
set_option maxRecDepth 100000 in
theorem c_X10_init (l : Launch) (G : Gt) (Z : Zt) (a : Nat) (hK : zK Z a = 10) (hN : a < zN Z) : Ct l G YX10_init (1, 3, 60) Z [.ref a] (ΦV (fun Z1 => Z1 = sF (sF (nA (sF (nA (sF (nA Z 21 20) 0 a (.ref (zN Z))) 20 20) 1 a (.ref (zN Z + 1))) 20 20) 2 a (.ref (zN Z + 2))) 5 a (.int (-1)))) := by
  refine ct_of [some (.ref a)] (by decide +kernel) (Nat.le_of_ble_eq_true rfl) rfl (fun M => ?_)
  first | refine q_aload_n dX10_init_0 rfl ?_ | refine q_aload_nN dX10_init_0 rfl ?_
  refine q_objInit dX10_init_1 ok_X10_3 oi_m oi_c (by decide) (Nat.le_of_ble_eq_true rfl) ?_
  first | refine q_aload_n dX10_init_4 rfl ?_ | refine q_aload_nN dX10_init_4 rfl ?_
  refine q_bipush (v := 20) dX10_init_5 (by decide) ?_
  refine q_newa (w := 1) (N := 20) dX10_init_7 rfl (by decide) ac_1 (by decide) rfl (by decide) (by decide) (by decide) ?_
  refine q_putF dX10_init_9 fk_X10_9_9 rfl rfl rfl ((zK_nA (by omega)).trans hK) rfl rfl ?_
  first | refine q_aload_n dX10_init_12 rfl ?_ | refine q_aload_nN dX10_init_12 rfl ?_
  refine q_bipush (v := 20) dX10_init_13 (by decide) ?_
  refine q_newa (w := 0) (N := 20) dX10_init_15 rfl (by decide) ac_0 (by decide) rfl (by decide) (by decide) (by decide) ?_
  refine q_putF dX10_init_17 fk_X10_15_9 rfl rfl rfl (by rw [zK_nA (by show a ≠ zN Z + 1; omega), zK_sF, zK_nA (by omega)]; exact hK) rfl rfl ?_
  first | refine q_aload_n dX10_init_20 rfl ?_ | refine q_aload_nN dX10_init_20 rfl ?_
  refine q_bipush (v := 20) dX10_init_21 (by decide) ?_
  refine q_newa (w := 0) (N := 20) dX10_init_23 rfl (by decide) ac_0 (by decide) rfl (by decide) (by decide) (by decide) ?_
  refine q_putF dX10_init_25 fk_X10_19_9 rfl rfl rfl (by rw [zK_nA (by show a ≠ zN Z + 1 + 1; omega), zK_sF, zK_nA (by show a ≠ zN Z + 1; omega), zK_sF, zK_nA (by omega)]; exact hK) rfl rfl ?_
  first | refine q_aload_n dX10_init_28 rfl ?_ | refine q_aload_nN dX10_init_28 rfl ?_
  refine q_iconst (v := (-1)) dX10_init_29 (by decide) ?_
  refine q_putf dX10_init_30 fk_X10_22_9 rfl (by rw [zK_sF, zK_nA (by show a ≠ zN Z + 1 + 1; omega), zK_sF, zK_nA (by show a ≠ zN Z + 1; omega), zK_sF, zK_nA (by omega)]; exact hK) rfl rfl ?_
  exact q_return dX10_init_33 rfl (by decide) (by decide) rfl
