def uN (x : Int64) : Nat := x.toUInt64.toNat
theorem uN_lt (x : Int64) : uN x < 18446744073709551616 := x.toUInt64.toNat_lt
theorem uN_inj {x y : Int64} (h : uN x = uN y) : x = y := congrArg UInt64.toInt64 (UInt64.toNat_inj.mp h)
theorem uN_add (x y : Int64) : uN (x + y) = (uN x + uN y) % 18446744073709551616 := by
  show (x.toUInt64 + y.toUInt64).toNat = _
  exact UInt64.toNat_add _ _
theorem uN_mul (x y : Int64) : uN (x * y) = (uN x * uN y) % 18446744073709551616 := by
  show (x.toUInt64 * y.toUInt64).toNat = _
  exact UInt64.toNat_mul _ _
theorem uN_shl (x : Int64) : uN (x <<< ((1 : Int32).toInt64 &&& 63)) = (2 * uN x) % 18446744073709551616 := by
  have h : (((1 : Int32).toInt64 &&& 63).toBitVec.smod 64).toNat = 1 := by decide
  show (x.toBitVec <<< (((1 : Int32).toInt64 &&& 63).toBitVec.smod 64).toNat).toNat = _
  rw [h, BitVec.toNat_shiftLeft, Nat.shiftLeft_eq, Nat.mul_comm]
  rfl
theorem uN_shr (x : Int64) (s : UInt64) : uN (x.toUInt64 >>> s).toInt64 = uN x / 2 ^ (s.toNat % 64) := by
  show (x.toUInt64 >>> s).toNat = _
  rw [UInt64.toNat_shiftRight, Nat.shiftRight_eq_div_pow]
  rfl
theorem nat_xor {a : Nat} (h : a < 18446744073709551616) : a ^^^ 2 ^ 63 = (a + 9223372036854775808) % 18446744073709551616 := by
  have h1 : (a ^^^ 2 ^ 63) % 2 ^ 63 = a % 2 ^ 63 := by rw [Nat.xor_mod_two_pow, Nat.mod_self, Nat.xor_zero]
  have h2 : (a ^^^ 2 ^ 63) / 2 ^ 63 = (a / 2 ^ 63) ^^^ 1 := by rw [Nat.xor_div_two_pow, Nat.div_self (Nat.two_pow_pos 63)]
  have h3 : a / 2 ^ 63 = 0 ∨ a / 2 ^ 63 = 1 := by omega
  generalize a ^^^ 2 ^ 63 = t at h1 h2
  rcases h3 with h3 | h3
  · rw [h3] at h2
    have h2 : t / 2 ^ 63 = 1 := h2
    omega
  · rw [h3] at h2
    have h2 : t / 2 ^ 63 = 0 := h2
    omega
theorem uN_xor (x : Int64) : uN (x ^^^ (-9223372036854775808)) = (uN x + 9223372036854775808) % 18446744073709551616 := by
  rw [← nat_xor (uN_lt x)]
  exact UInt64.toNat_xor _ _
theorem uN_int (x : Int64) : x.toInt = if 2 * uN x < 18446744073709551616 then (uN x : Int) else (uN x : Int) - 18446744073709551616 := BitVec.toInt_eq_toNat_cond _
theorem uN_le (x y : Int64) : (x ^^^ (-9223372036854775808)) ≤ (y ^^^ (-9223372036854775808)) ↔ uN x ≤ uN y := by
  have hx := uN_lt x
  have hy := uN_lt y
  rw [Int64.le_iff_toInt_le, uN_int, uN_int, uN_xor, uN_xor]
  omega
theorem uN_sub (x y : Int64) : uN (x - y) = (uN x + 18446744073709551616 - uN y) % 18446744073709551616 := by
  have h : uN ((x - y) + y) = (uN (x - y) + uN y) % 18446744073709551616 := uN_add _ _
  rw [Int64.sub_add_cancel] at h
  have h1 := uN_lt x
  have h2 := uN_lt y
  have h3 := uN_lt (x - y)
  omega
theorem uN_neg (x : Int64) : uN (-x) = (18446744073709551616 - uN x) % 18446744073709551616 := by
  have h : uN (-x + x) = (uN (-x) + uN x) % 18446744073709551616 := uN_add _ _
  have e : -x + x = 0 := by rw [Int64.add_comm, Int64.add_right_neg]
  rw [e] at h
  have h0 : uN 0 = 0 := rfl
  have h1 := uN_lt x
  have h3 := uN_lt (-x)
  omega
theorem uN_ofNat {n : Nat} (h : n < 18446744073709551616) : uN (lN n) = n := by
  show (BitVec.ofNat 64 n).toNat = n
  rw [BitVec.toNat_ofNat]
  exact Nat.mod_eq_of_lt h
theorem uN_pos {x : Int64} (h : ¬ x < 0) : x.toInt = (uN x : Int) ∧ uN x < 9223372036854775808 := by
  have h1 : ¬ x.toInt < 0 := fun z => h (Int64.lt_iff_toInt_lt.mpr (by simpa using z))
  have h2 := uN_int x
  have h3 := uN_lt x
  split at h2 <;> omega
theorem uN_neg_iff (x : Int64) : x < 0 ↔ 9223372036854775808 ≤ uN x := by
  have h2 := uN_int x
  have h3 := uN_lt x
  rw [Int64.lt_iff_toInt_lt]
  show x.toInt < 0 ↔ _
  split at h2 <;> omega
theorem uN_div {x y : Int64} (hx : ¬ x < 0) (hy : ¬ y < 0) : uN (x / y) = uN x / uN y := by
  obtain ⟨h1, h2⟩ := uN_pos hx
  obtain ⟨h3, h4⟩ := uN_pos hy
  have h5 : (0 : Int) ≤ (uN x : Int) / (uN y : Int) := Int.ediv_nonneg (by omega) (by omega)
  have h9 : (uN x : Int) / (uN y : Int) ≤ (uN x : Int) := Int.ediv_le_self _ (by omega)
  have h6 : (x / y).toInt = (uN x : Int) / (uN y : Int) := by
    rw [Int64.toInt_div, h1, h3, Int.tdiv_eq_ediv_of_nonneg (by omega)]
    rw [Int.bmod_eq_of_le (by omega) (by omega)]
  have h7 := uN_int (x / y)
  have h8 := uN_lt (x / y)
  rw [h6] at h7
  have h10 : ((uN (x / y) : Nat) : Int) = ((uN x / uN y : Nat) : Int) := by
    rw [Int.natCast_ediv]
    split at h7 <;> omega
  omega
def uQ (x y : Int64) : Int64 := lN (uN x / uN y)
def uR (x y : Int64) : Int64 := lN (uN x % uN y)
theorem uN_uQ (x y : Int64) : uN (uQ x y) = uN x / uN y := uN_ofNat (Nat.lt_of_le_of_lt (Nat.div_le_self _ _) (uN_lt x))
theorem uN_uR (x y : Int64) : uN (uR x y) = uN x % uN y := uN_ofNat (Nat.lt_of_le_of_lt (Nat.mod_le _ _) (uN_lt x))
theorem uN_uR_eq (x y : Int64) : x - uQ x y * y = uR x y := by
  apply uN_inj
  rw [uN_sub, uN_mul, uN_uQ, uN_uR]
  have h1 := Nat.div_add_mod (uN x) (uN y)
  have h2 := uN_lt x
  have h3 : uN x / uN y * uN y = uN y * (uN x / uN y) := Nat.mul_comm _ _
  rw [h3]
  generalize uN y * (uN x / uN y) = t at h1
  omega
theorem uN_below (x y : Int64) : (x ^^^ (-9223372036854775808)) < (y ^^^ (-9223372036854775808)) ↔ uN x < uN y := by
  have hx := uN_lt x
  have hy := uN_lt y
  rw [Int64.lt_iff_toInt_lt, uN_int, uN_int, uN_xor, uN_xor]
  omega
theorem uN_half (x : Int64) : uN (x.toUInt64 >>> ((1 : Int32).toInt64.toUInt64 &&& Int64.toUInt64 63)).toInt64 = uN x / 2 := by
  have h : (((1 : Int32).toInt64.toUInt64 &&& Int64.toUInt64 63).toNat % 64) = 1 := by decide
  rw [uN_shr, h]
/-- half the number divided, doubled, is the quotient or one less -/
theorem uQ_half {x y q : Int64} (h0 : ¬ y < 0) (hy : ¬ y = 0) (hq : uN q = 2 * (uN x / 2 / uN y)) : uN (x - q * y) = uN x - 2 * (uN x / 2 / uN y) * uN y ∧ (uN (x - q * y) < uN y → q = uQ x y) ∧ (¬ uN (x - q * y) < uN y → q + 1 = uQ x y) ∧ uN (x - q * y) < 2 * uN y := by
  obtain ⟨-, hb⟩ := uN_pos h0
  have hy0 : uN y ≠ 0 := fun z => hy (uN_inj (z.trans rfl))
  have hx := uN_lt x
  generalize hX : uN x = X at *
  generalize hYy : uN y = Yy at *
  have h1 := Nat.div_add_mod (X / 2) Yy
  have h2 : X / 2 % Yy < Yy := Nat.mod_lt _ (by omega)
  generalize hc : X / 2 / Yy = c at *
  have h3 : 2 * c * Yy = 2 * (Yy * c) := by rw [Nat.mul_assoc, Nat.mul_comm c Yy]
  have h4 : uN (x - q * y) = X - 2 * c * Yy := by
    rw [uN_sub, uN_mul, hX, hYy, hq, h3]
    generalize Yy * c = t at *
    omega
  rw [h4, h3]
  refine ⟨rfl, fun h => uN_inj ?_, fun h => uN_inj ?_, ?_⟩
  · rw [uN_uQ, hq, hX, hYy]
    refine (Nat.div_eq_of_lt_le ?_ ?_).symm
    · rw [h3]; generalize Yy * c = t at *; omega
    · rw [Nat.add_mul, Nat.one_mul, h3]; generalize Yy * c = t at *; omega
  · rw [uN_uQ, uN_add, hq, hX, hYy]
    have e1 : uN 1 = 1 := rfl
    rw [e1]
    have hd : X / Yy = 2 * c + 1 := by
      refine Nat.div_eq_of_lt_le ?_ ?_
      · rw [Nat.add_mul, Nat.one_mul, h3]; generalize Yy * c = t at *; omega
      · rw [Nat.add_mul, Nat.add_mul, Nat.one_mul, h3]; generalize Yy * c = t at *; omega
    have h5 : X / Yy ≤ X := Nat.div_le_self _ _
    omega
  · generalize Yy * c = t at *; omega
theorem uQ_small {x y : Int64} (h : uN x < uN y) : uQ x y = 0 := uN_inj (by rw [uN_uQ, Nat.div_eq_of_lt h]; rfl)
theorem uQ_big {x y : Int64} (h : ¬ uN x < uN y) (hy : y < 0) : uQ x y = 1 := uN_inj (by
  have h1 := (uN_neg_iff y).mp hy
  have h2 := uN_lt x
  rw [uN_uQ, show uN 1 = 1 from rfl]
  exact Nat.div_eq_of_lt_le (by omega) (by omega))
theorem uQ_zero {x : Int64} : uQ x 0 = 0 := uN_inj (by rw [uN_uQ, show uN 0 = 0 from rfl, Nat.div_zero])
theorem uQ_low {x y : Int64} (h0 : ¬ y < 0) (hy : ¬ y = 0) : uN (((x.toUInt64 >>> ((1 : Int32).toInt64.toUInt64 &&& Int64.toUInt64 63)).toInt64 / y) <<< ((1 : Int32).toInt64 &&& 63)) = 2 * (uN x / 2 / uN y) := by
  have hx := uN_lt x
  have h1 : ¬ (x.toUInt64 >>> ((1 : Int32).toInt64.toUInt64 &&& Int64.toUInt64 63)).toInt64 < 0 := by
    rw [uN_neg_iff, uN_half]; omega
  have h2 : uN x / 2 / uN y ≤ uN x / 2 := Nat.div_le_self _ _
  rw [uN_shl, uN_div h1 h0, uN_half]
  omega
set_option maxHeartbeats 600000 in
set_option maxRecDepth 100000 in
theorem c_X11_unsignedQuotient (l : Launch) (G : Gt) (Z : Zt) (x y : Int64) : Ct l G YX11_unsignedQuotient (1, 0, 0) Z [.long x, .long y] (ΦL (fun r Z1 => Z1 = Z ∧ r = uQ x y)) := by
  refine ct_of [some (.long x), none, some (.long y), none, none, none] (by decide +kernel) (Nat.le_of_ble_eq_true rfl) rfl (fun M => ?_)
  refine q_lload_n dX11_unsignedQuotient_0 rfl ?_
  refine q_lconst (v := 0) dX11_unsignedQuotient_1 (by decide) ?_
  refine q_lcmp_eq 14 dX11_unsignedQuotient_2 dX11_unsignedQuotient_3 (by decide) (fun c2 => ?_) (fun c2 => ?_)
  · subst c2
    refine q_lconst (v := 0) dX11_unsignedQuotient_14 (by decide) ?_
    exact q_lreturn dX11_unsignedQuotient_15 rfl (by decide) (by decide) (by first | exact ⟨rfl, uQ_zero.symm⟩ | exact ⟨rfl, (uQ_small (rb_t h c11)).symm⟩)
  · refine q_lload_n dX11_unsignedQuotient_6 rfl ?_
    refine q_lload_n dX11_unsignedQuotient_7 rfl ?_
    refine q_callS dX11_unsignedQuotient_8 mk_X11_263 (c_X11_unsignedBelow l G _ x y) rfl np_X11_unsignedBelow (by decide) (by decide) (by decide) (Nat.le_of_ble_eq_true rfl) (kI (fun r Z1 h => ?_))
    obtain ⟨rfl, h⟩ := h
    rw [uN_below] at h
    refine q_if_eq 16 dX11_unsignedQuotient_11 (by decide) (fun c11 => ?_) (fun c11 => ?_)
    · refine q_lload_n dX11_unsignedQuotient_16 rfl ?_
      refine q_lconst (v := 0) dX11_unsignedQuotient_17 (by decide) ?_
      refine q_lcmp_ge 24 dX11_unsignedQuotient_18 dX11_unsignedQuotient_19 (by decide) (fun c18 => ?_) (fun c18 => ?_)
      · have c18 := Int64.not_lt.mpr c18
        refine q_lload_n dX11_unsignedQuotient_24 rfl ?_
        refine q_iconst (v := 1) dX11_unsignedQuotient_25 (by decide) ?_
        refine q_lushr dX11_unsignedQuotient_26 ?_
        refine q_lload_n dX11_unsignedQuotient_27 rfl ?_
        refine q_ldiv dX11_unsignedQuotient_28 (by assumption) ?_
        refine q_iconst (v := 1) dX11_unsignedQuotient_29 (by decide) ?_
        refine q_lshl dX11_unsignedQuotient_30 ?_
        refine q_lstore (ls' := [_, _, _, _, _, _]) dX11_unsignedQuotient_31 rfl rfl (Nat.le_of_ble_eq_true rfl) (by decide) ?_
        refine q_lload_n dX11_unsignedQuotient_33 rfl ?_
        refine q_lload dX11_unsignedQuotient_34 rfl ?_
        refine q_lload_n dX11_unsignedQuotient_36 rfl ?_
        refine q_lmul dX11_unsignedQuotient_37 ?_
        refine q_lsub dX11_unsignedQuotient_38 ?_
        refine q_lload_n dX11_unsignedQuotient_39 rfl ?_
        refine q_callS dX11_unsignedQuotient_40 mk_X11_263 (c_X11_unsignedBelow l G _ _ y) rfl np_X11_unsignedBelow (by decide) (by decide) (by decide) (Nat.le_of_ble_eq_true rfl) (kI (fun r Z2 h2 => ?_))
        obtain ⟨rfl, h2⟩ := h2
        rw [uN_below] at h2
        have hq := uQ_half c18 c2 (uQ_low (x := x) c18 c2)
        refine q_if_eq 51 dX11_unsignedQuotient_43 (by decide) (fun c43 => ?_) (fun c43 => ?_)
        · refine q_lload dX11_unsignedQuotient_51 rfl ?_
          refine q_lconst (v := 1) dX11_unsignedQuotient_53 (by decide) ?_
          refine q_ladd dX11_unsignedQuotient_54 ?_
          exact q_lreturn dX11_unsignedQuotient_55 rfl (by decide) (by decide) (by first | exact ⟨rfl, hq.2.1 (rb_t h2 c43)⟩ | exact ⟨rfl, hq.2.2.1 (rb_f h2 c43)⟩)
        · refine q_lload dX11_unsignedQuotient_46 rfl ?_
          refine q_goto 55 dX11_unsignedQuotient_48 (by decide) ?_
          exact q_lreturn dX11_unsignedQuotient_55 rfl (by decide) (by decide) (by first | exact ⟨rfl, hq.2.1 (rb_t h2 c43)⟩ | exact ⟨rfl, hq.2.2.1 (rb_f h2 c43)⟩)
      · have c18 := Int64.not_le.mp c18
        refine q_lconst (v := 1) dX11_unsignedQuotient_22 (by decide) ?_
        exact q_lreturn dX11_unsignedQuotient_23 rfl (by decide) (by decide) ⟨rfl, (uQ_big (rb_f h c11) c18).symm⟩
    · refine q_lconst (v := 0) dX11_unsignedQuotient_14 (by decide) ?_
      exact q_lreturn dX11_unsignedQuotient_15 rfl (by decide) (by decide) (by first | exact ⟨rfl, uQ_zero.symm⟩ | exact ⟨rfl, (uQ_small (rb_t h c11)).symm⟩)
set_option maxHeartbeats 600000 in
set_option maxRecDepth 100000 in
theorem c_X11_unsignedRest (l : Launch) (G : Gt) (Z : Zt) (x y : Int64) : Ct l G YX11_unsignedRest (2, 0, 0) Z [.long x, .long y] (ΦL (fun r Z1 => Z1 = Z ∧ r = uR x y)) := by
  refine ct_of [some (.long x), none, some (.long y), none] (by decide +kernel) (Nat.le_of_ble_eq_true rfl) rfl (fun M => ?_)
  refine q_lload_n dX11_unsignedRest_0 rfl ?_
  refine q_lload_n dX11_unsignedRest_1 rfl ?_
  refine q_lload_n dX11_unsignedRest_2 rfl ?_
  refine q_callS dX11_unsignedRest_3 mk_X11_134 (c_X11_unsignedQuotient l G _ x y) rfl np_X11_unsignedQuotient (by decide) (by decide) (by decide) (Nat.le_of_ble_eq_true rfl) (kL (fun r Z1 h => ?_))
  obtain ⟨rfl, rfl⟩ := h
  refine q_lload_n dX11_unsignedRest_6 rfl ?_
  refine q_lmul dX11_unsignedRest_7 ?_
  refine q_lsub dX11_unsignedRest_8 ?_
  exact q_lreturn dX11_unsignedRest_9 rfl (by decide) (by decide) ⟨rfl, uN_uR_eq x y⟩
