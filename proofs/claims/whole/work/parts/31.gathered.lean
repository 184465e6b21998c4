/-- each number once, at its first place -/
def ddS (D : List Int64) : List Int64 → List Int64
  | [] => D
  | c :: L => if D.contains c = true then ddS D L else ddS (D ++ [c]) L
theorem ddS_len : ∀ (L D : List Int64), (ddS D L).length ≤ D.length + L.length
  | [], D => by simp [ddS]
  | c :: L, D => by
    rw [ddS]
    split
    · have := ddS_len L D; simp; omega
    · have := ddS_len L (D ++ [c]); simp at this ⊢; omega
def RG (Z Z1 : Zt) (a nb : Nat) (L : List Int64) : Prop := zK Z1 = zK Z ∧ zL Z1 = zL Z ∧ zR Z1 = zR Z ∧ zN Z1 = zN Z ∧ zI Z1 = zI Z ∧ (∀ b, b ≠ nb → zJ Z1 b = zJ Z b) ∧ (∀ k b, ¬ (b = a ∧ (k = 0 ∨ k = 2)) → zF Z1 k b = zF Z k b) ∧ zF Z1 0 a = .null ∧ zF Z1 2 a = .int (nI L.length) ∧ At (zJ Z1 nb) 0 L
theorem RG_nil (Z : Zt) (a nb : Nat) : RG Z (sF (sF Z 0 a .null) 2 a (.int 0)) a nb [] := by
  refine ⟨rfl, rfl, rfl, rfl, rfl, fun b hb => by rw [zJ_sF, zJ_sF], fun k b h => by rw [zF_sF, if_neg (by omega), zF_sF, if_neg (by omega)], by rw [zF_sF, if_neg (by omega), zF_sF, if_pos ⟨rfl, rfl⟩], by rw [zF_sF, if_pos ⟨rfl, rfl⟩]; rfl, At_nil⟩
theorem RG_snoc {Z Z1 : Zt} {a nb : Nat} {D : List Int64} (c : Int64) (h : RG Z Z1 a nb D) (hl : D.length < 2 ^ 31) : RG Z (sF (sJ Z1 nb (nI D.length).toNatClampNeg c) 2 a (.int (nI D.length + 1))) a nb (D ++ [c]) := by
  obtain ⟨g1, g2, g3, g4, g5, g6, g7, g8, g9, g10⟩ := h
  refine ⟨g1, g2, g3, g4, g5, fun b hb => by rw [zJ_sF, zJ_sJ, if_neg hb]; exact g6 b hb, fun k b h => by rw [zF_sF, if_neg (by omega), zF_sJ]; exact g7 k b h, by rw [zF_sF, if_neg (by omega), zF_sJ]; exact g8, by rw [zF_sF, if_pos ⟨rfl, rfl⟩, nI_1, List.length_append]; rfl, ?_⟩
  rw [zJ_sF, zJ_sJ, if_pos rfl, nI_clamp hl]
  exact At_snoc (At_same g10 (fun j h1 h2 => by rw [pk_uLn (by omega)])) (by rw [Nat.zero_add, pk_uLs])
set_option maxHeartbeats 600000 in
set_option maxRecDepth 100000 in
theorem c_X5_becomeGathered (l : Launch) (G : Gt) (Z : Zt) (a p nb : Nat) (L : List Int64) (hK : zK Z a = 5) (h1 : zF Z 1 a = .ref nb) (hKn : zK Z nb = 21) (hLn : zL Z nb = 200) (hKp : zK Z p = 21) (hLp : zL Z p = 1200) (hpn : p ≠ nb) (hL : L.length ≤ 200) (hA : At (zJ Z p) 0 L) : Ct l G YX5_becomeGathered (1, 0, 0) Z [.ref a, .ref p, .int (nI L.length)] (ΦV (fun Z1 => RG Z Z1 a nb (ddS [] L))) := by
  refine ct_of [some (.ref a), some (.ref p), some (.int (nI L.length)), none] (by decide +kernel) (Nat.le_of_ble_eq_true rfl) rfl (fun M => ?_)
  have loop : ∀ (R D : List Int64) (i : Nat) (Zc : Zt), i + R.length = L.length → At (zJ Z p) i R → D.length ≤ i → ddS D R = ddS [] L → RG Z Zc a nb D → Jd l G YX5_becomeGathered (1, 0, 0) M Zc 0 0 (Qm G (1, 0, 0) M (ΦV (fun Z1 => RG Z Z1 a nb (ddS [] L)))) 12 [some (.ref a), some (.ref p), some (.int (nI L.length)), some (.int (nI i))] [] := by
    intro R
    induction R with
    | nil =>
      intro D i Zc hi hA hD hdd hR
      have hR2 : RG Z Zc a nb (ddS [] L) := by rw [← hdd]; exact hR
      have hi2 : i = L.length := by simpa using hi
      refine q_iload_n dX5_becomeGathered_12 rfl ?_
      refine q_iload_n dX5_becomeGathered_13 rfl ?_
      refine q_icmp_ge 79 dX5_becomeGathered_14 (by decide) (fun c14 => ?_) (fun c14 => absurd c14 (not_not_intro (nI_le (by omega) (by omega))))
      exact q_return dX5_becomeGathered_79 rfl (by decide) (by decide) hR2
    | cons c R ih =>
      intro D i Zc hi hA hD hdd hR
      obtain ⟨g1, g2, g3, g4, g5, g6, g7, g8, g9, g10⟩ := id hR
      have hi2 : i + 1 + R.length = L.length := by simp at hi; omega
      have hA2 : At (zJ Z p) (i + 1) R := At_r (L := [c]) hA
      have hc : zJ Z p i = c := hA 0 c rfl
      have hKa : zK Zc a = 5 := by rw [g1]; exact hK
      have hKn2 : zK Zc nb = 21 := by rw [g1]; exact hKn
      have hLn2 : zL Zc nb = 200 := by rw [g2]; exact hLn
      have hKp2 : zK Zc p = 21 := by rw [g1]; exact hKp
      have hLp2 : zL Zc p = 1200 := by rw [g2]; exact hLp
      have h1c : zF Zc 1 a = .ref nb := by rw [g7 1 a (by omega)]; exact h1
      have hcp : zJ Zc p (nI i).toNatClampNeg = c := by rw [g6 p hpn, nI_clamp (by omega)]; exact hc
      refine q_iload_n dX5_becomeGathered_12 rfl ?_
      refine q_iload_n dX5_becomeGathered_13 rfl ?_
      refine q_icmp_ge 79 dX5_becomeGathered_14 (by decide) (fun c14 => absurd c14 (nI_ge (by omega) (by omega))) (fun c14 => ?_)
      refine q_iload_n dX5_becomeGathered_17 rfl ?_
      first | refine q_aload_n dX5_becomeGathered_18 rfl ?_ | refine q_aload_nN dX5_becomeGathered_18 rfl ?_
      refine q_alenJ dX5_becomeGathered_19 hKp2 ?_
      rw [show Int32.ofNat (zL Zc p) = nI 1200 by rw [hLp2]; rfl]
      refine q_icmp_ge 79 dX5_becomeGathered_20 (by decide) (fun c20 => absurd c20 (nI_ge (by omega) (by omega))) (fun c20 => ?_)
      first | refine q_aload_n dX5_becomeGathered_23 rfl ?_ | refine q_aload_nN dX5_becomeGathered_23 rfl ?_
      refine q_getf dX5_becomeGathered_24 fk_X5_19_4 hKa g9 ?_
      refine q_sipush (v := 200) dX5_becomeGathered_27 (by decide) ?_
      rw [show (200 : Int32) = nI 200 from rfl]
      refine q_icmp_ge 73 dX5_becomeGathered_30 (by decide) (fun c30 => absurd c30 (nI_ge (by omega) (by omega))) (fun c30 => ?_)
      first | refine q_aload_n dX5_becomeGathered_33 rfl ?_ | refine q_aload_nN dX5_becomeGathered_33 rfl ?_
      refine q_getf dX5_becomeGathered_34 fk_X5_9_4 hKa h1c ?_
      refine q_iconst (v := 0) dX5_becomeGathered_37 (by decide) ?_
      first | refine q_aload_n dX5_becomeGathered_38 rfl ?_ | refine q_aload_nN dX5_becomeGathered_38 rfl ?_
      refine q_getf dX5_becomeGathered_39 fk_X5_19_4 hKa g9 ?_
      first | refine q_aload_n dX5_becomeGathered_42 rfl ?_ | refine q_aload_nN dX5_becomeGathered_42 rfl ?_
      refine q_iload_n dX5_becomeGathered_43 rfl ?_
      refine q_lald dX5_becomeGathered_44 hKp2 (by rw [hLp2]; exact vp_in_nI (by omega) (by decide)) ?_
      rw [hcp]
      refine q_callSN dX5_becomeGathered_45 mn_X5_23 (c_X11_find l G Zc nb 0 D.length c hKn2 (by rw [hLn2]; decide) (by rw [hLn2]; omega) (by decide)) rfl np_X11_find (by decide) (by decide) (by decide) (Nat.le_of_ble_eq_true rfl) (kI (fun r45 Z45 h45 => ?_))
      obtain ⟨e45, h45⟩ := h45
      rw [e45]
      have hm := fnd_in g10 (by omega) (by rw [Nat.zero_add]; exact h45)
      refine q_if_ge 73 dX5_becomeGathered_48 (by decide) (fun c48 => ?_) (fun c48 => ?_)
      · have hm2 := hm.2 (Int32.not_lt.mpr c48)
        refine q_iinc 1 (ls' := [_, _, _, _]) dX5_becomeGathered_73 rfl (by decide) rfl rfl (Nat.le_of_ble_eq_true rfl) (by decide) ?_
        refine q_goto 12 dX5_becomeGathered_76 (by decide) ?_
        rw [nI_1 i]
        exact ih D (i + 1) Zc hi2 hA2 (by omega) (by rw [← hdd, ddS, if_pos hm2]) hR
      · have hm2 := hm.1 (Int32.not_le.mp c48)
        first | refine q_aload_n dX5_becomeGathered_51 rfl ?_ | refine q_aload_nN dX5_becomeGathered_51 rfl ?_
        refine q_getf dX5_becomeGathered_52 fk_X5_9_4 hKa h1c ?_
        first | refine q_aload_n dX5_becomeGathered_55 rfl ?_ | refine q_aload_nN dX5_becomeGathered_55 rfl ?_
        refine q_getf dX5_becomeGathered_56 fk_X5_19_4 hKa g9 ?_
        first | refine q_aload_n dX5_becomeGathered_59 rfl ?_ | refine q_aload_nN dX5_becomeGathered_59 rfl ?_
        refine q_iload_n dX5_becomeGathered_60 rfl ?_
        refine q_lald dX5_becomeGathered_61 hKp2 (by rw [hLp2]; exact vp_in_nI (by omega) (by decide)) ?_
        rw [hcp]
        refine q_last dX5_becomeGathered_62 hKn2 (by rw [hLn2]; exact vp_in_nI (by omega) (by decide)) ?_
        first | refine q_aload_n dX5_becomeGathered_63 rfl ?_ | refine q_aload_nN dX5_becomeGathered_63 rfl ?_
        refine q_dup dX5_becomeGathered_64 rfl ?_
        refine q_getf dX5_becomeGathered_65 fk_X5_19_4 hKa g9 ?_
        refine q_iconst (v := 1) dX5_becomeGathered_68 (by decide) ?_
        refine q_iadd dX5_becomeGathered_69 ?_
        refine q_putf dX5_becomeGathered_70 fk_X5_19_4 rfl hKa rfl rfl ?_
        refine q_iinc 1 (ls' := [_, _, _, _]) dX5_becomeGathered_73 rfl (by decide) rfl rfl (Nat.le_of_ble_eq_true rfl) (by decide) ?_
        refine q_goto 12 dX5_becomeGathered_76 (by decide) ?_
        rw [nI_1 i]
        exact ih (D ++ [c]) (i + 1) _ hi2 hA2 (by simp; omega) (by rw [← hdd, ddS, if_neg (by rw [hm2]; decide)]) (RG_snoc c hR (by omega))
  first | refine q_aload_n dX5_becomeGathered_0 rfl ?_ | refine q_aload_nN dX5_becomeGathered_0 rfl ?_
  refine q_aconst_null dX5_becomeGathered_1 ?_
  refine q_putf dX5_becomeGathered_2 fk_X5_15_4 rfl hK rfl rfl ?_
  first | refine q_aload_n dX5_becomeGathered_5 rfl ?_ | refine q_aload_nN dX5_becomeGathered_5 rfl ?_
  refine q_iconst (v := 0) dX5_becomeGathered_6 (by decide) ?_
  refine q_putf dX5_becomeGathered_7 fk_X5_19_4 rfl hK rfl rfl ?_
  refine q_iconst (v := 0) dX5_becomeGathered_10 (by decide) ?_
  refine q_istore_n (ls' := [_, _, _, _]) dX5_becomeGathered_11 rfl rfl (Nat.le_of_ble_eq_true rfl) (by decide) ?_
  exact loop L [] 0 _ (by simp) hA (by simp) rfl (RG_nil Z a nb)
