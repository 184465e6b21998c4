def appK (K : List Int64) (q : (Int32 ⊕ List Int64) × St) : (Int32 ⊕ List Int64) × St := match q.1 with
  | .inl e => (.inl e, q.2)
  | .inr L => (.inr (K ++ L), q.2)
theorem appK_cns (K : List Int64) (c : Int64) (q : (Int32 ⊕ List Int64) × St) : appK K (cns c q) = appK (K ++ [c]) q := by
  unfold appK cns
  rcases q with ⟨e | L, τ⟩ <;> simp
theorem appK_nil (q : (Int32 ⊕ List Int64) × St) : appK [] q = q := by
  unfold appK
  rcases q with ⟨e | L, τ⟩ <;> simp
/-- what going through gives: the world behind it, and the numbers in the pool from f on, or a refusal -/
def gP (x : Nat) (af : Nat → Nat) (nf f : Nat) (Z : Zt) (q : (Int32 ⊕ List Int64) × St) (r : Int32) (Z1 : Zt) : Prop := FIs Z1 x q.2 af nf ∧ brO Z1 x q.2 ∧ bLe q.2 ∧ GF x Z Z1 ∧ (∀ j, j < f → zJ Z1 (x + 11) j = zJ Z (x + 11) j) ∧ (match q.1 with
  | .inl e => r = e ∧ ¬ 0 ≤ e
  | .inr K => r = nI K.length ∧ At (zJ Z1 (x + 11)) f K)
theorem bLe_4 {σ τ : St} {n f : Nat} {c : Int64} (h : bLe σ) (hτ : τ = (jS n f c σ).2) : bLe τ := by
  obtain ⟨b, m, h1, h2, h3, h4⟩ := h
  obtain ⟨m', a1, a2, a3, -⟩ := jOK_jS n f c σ m h2 h4
  subst hτ
  exact ⟨b, m', by rw [(kp4_jS n f c σ).1 32 (by decide) (by decide) (by decide) (by decide)]; exact h1, a3, by omega, a2⟩
set_option maxHeartbeats 600000 in
set_option maxRecDepth 100000 in
theorem cg_passing (l : Launch) (G : Gt) (Z : Zt) (x nf fi a f : Nat) (af : Nat → Nat) (σ : St) (L : List Int64) (hF : FIs Z x σ af nf) (hb : brO Z x σ) (hbl : bLe σ) (hfi : fi < nf) (ha : x + 61 ≤ a) (hK : zK Z a = 8) (h6 : zF Z 6 a = .ref (af fi)) (hfn : f + L.length ≤ 1200) (hL : At (zJ Z (x + 11)) f L) : Ct l G YX8_keepPassing (10, 0, 0) Z [.ref a, .ref (x + 11), .int (nI f), .int (nI (f + L.length)), .ref (x + 5)] (ΦI (gP x af nf f Z (pS fi L σ))) := by
  refine ct_of [some (.ref a), some (.ref (x + 11)), some (.int (nI f)), some (.int (nI (f + L.length))), some (.ref (x + 5)), none, none, none] (by decide +kernel) (Nat.le_of_ble_eq_true rfl) rfl (fun M => ?_)
  have loop : ∀ (Lr : List Int64) (i : Nat) (K : List Int64) (τ : St) (Zc : Zt) (x7 : Option Value), L.drop i = Lr → i + Lr.length = L.length → K.length ≤ i → FIs Zc x τ af nf → brO Zc x τ → bLe τ → GF x Z Zc → At (zJ Zc (x + 11)) f K → (∀ j, (j < f ∨ f + i ≤ j) → zJ Zc (x + 11) j = zJ Z (x + 11) j) → pS fi L σ = appK K (pS fi Lr τ) → Jd l G YX8_keepPassing (10, 0, 0) M Zc 0 0 (Qm G (10, 0, 0) M (ΦI (gP x af nf f Z (pS fi L σ)))) 6 [some (.ref a), some (.ref (x + 11)), some (.int (nI f)), some (.int (nI (f + L.length))), some (.ref (x + 5)), some (.int (nI K.length)), some (.int (nI (f + i))), x7] [] := by
    intro Lr
    induction Lr with
    | nil =>
      intro i K τ Zc x7 hLr hil hKi hFc hbc hlc hG hA ho hT
      have hil : i = L.length := by simpa using hil
      subst hil
      have hT : pS fi L σ = (.inr K, τ) := by rw [hT]; simp [appK, pS]
      refine q_iload dX8_keepPassing_6 rfl ?_
      refine q_iload_n dX8_keepPassing_8 rfl ?_
      refine q_icmp_ge 92 dX8_keepPassing_9 (by decide) (fun c9 => ?_) (fun c9 => absurd c9 (not_not_intro (nI_le (by omega) (by omega))))
      refine q_iload dX8_keepPassing_92 rfl ?_
      exact q_ireturn dX8_keepPassing_94 rfl (by decide) (by decide) (by rw [hT]; exact ⟨hFc, hbc, hlc, hG, fun j hj => ho j (Or.inl hj), rfl, hA⟩)
    | cons c Lr ih =>
      intro i K τ Zc x7 hLr hil hKi hFc hbc hlc hG hA ho hT
      have hil2 : i < L.length := by simp at hil; omega
      have hLr2 : L.drop (i + 1) = Lr := by rw [← List.drop_drop, hLr]; rfl
      have hci : L[i]? = some c := by
        have : (L.drop i)[0]? = some c := by rw [hLr]; rfl
        rw [List.getElem?_drop] at this
        simpa using this
      have hx : zJ Zc (x + 11) (nI (f + i)).toNatClampNeg = c := by rw [nI_clamp (by omega), ho _ (Or.inr (Nat.le_refl _))]; exact hL i c hci
      have hKa : zK Zc a = 8 := by rw [hG.1]; exact hK
      have h6a : zF Zc 6 a = .ref (af fi) := (hG.2.2.2.2.1 6 a (by omega) (by omega)).trans h6
      have hKp : zK Zc (x + 11) = 21 := hFc.1.2.2.2.1.2.2.2.2.1
      have hLp : zL Zc (x + 11) = 1200 := hFc.1.2.2.2.1.2.2.2.2.2
      have hdp : dpt τ fi ≤ 6 := by
        obtain ⟨d, d1, d2, d3, d4⟩ := (hFc.2.2.2.2.2.2 fi hfi).1.1.2.2
        unfold dpt; rw [d3, nI_clamp (by omega)]; exact d1
      have hj4 := kp4_jS 6 fi c τ
      have hbl2 := bLe_4 (n := 6) (f := fi) (c := c) hlc rfl
      refine q_iload dX8_keepPassing_6 rfl ?_
      refine q_iload_n dX8_keepPassing_8 rfl ?_
      refine q_icmp_ge 92 dX8_keepPassing_9 (by decide) (fun c9 => absurd c9 (nI_ge (by omega) (by omega))) (fun c9 => ?_)
      first | refine q_aload_n dX8_keepPassing_12 rfl ?_ | refine q_aload_nN dX8_keepPassing_12 rfl ?_
      refine q_getf dX8_keepPassing_13 fk_X8_33_7 hKa h6a ?_
      refine q_ifnull dX8_keepPassing_16 ?_
      first | refine q_aload_n dX8_keepPassing_19 rfl ?_ | refine q_aload_nN dX8_keepPassing_19 rfl ?_
      refine q_getf dX8_keepPassing_20 fk_X8_33_7 hKa h6a ?_
      first | refine q_aload_n dX8_keepPassing_23 rfl ?_ | refine q_aload_nN dX8_keepPassing_23 rfl ?_
      refine q_iload dX8_keepPassing_24 rfl ?_
      refine q_lald dX8_keepPassing_26 hKp (by rw [hLp]; exact vp_in_nI (by omega) (by decide)) ?_
      rw [hx]
      first | refine q_aload dX8_keepPassing_27 rfl ?_ | refine q_aloadN dX8_keepPassing_27 rfl ?_
      refine q_callJ dX8_keepPassing_29 uj_X8_X1 uj_X8_X3 uj_X8_X4 uj_X8_X7 (cj l G x nf af 6 fi c Zc τ hfi hdp hFc) rfl rfl (by decide) (by decide) (by decide) (Nat.le_of_ble_eq_true rfl) (kI (fun r29 Z29 h29 => ?_))
      obtain ⟨hr, hF2, hJ⟩ := h29
      have hb2 := brO_JF hbc hJ hj4
      have hG2 := hG.tr hJ.gf
      have hK2 : zK Z29 (x + 11) = 21 := hF2.1.2.2.2.1.2.2.2.2.1
      have hLp2 : zL Z29 (x + 11) = 1200 := hF2.1.2.2.2.1.2.2.2.2.2
      have hJe : zJ Z29 = zJ Zc := hJ.2.2.1
      have hx2 : zJ Z29 (x + 11) (nI (f + i)).toNatClampNeg = c := by rw [hJe]; exact hx
      rw [pS] at hT
      refine q_istore (ls' := [_, _, _, _, _, _, _, _]) dX8_keepPassing_32 rfl rfl (Nat.le_of_ble_eq_true rfl) (by decide) ?_
      refine q_iload dX8_keepPassing_34 rfl ?_
      refine q_iconst (v := 1) dX8_keepPassing_36 (by decide) ?_
      refine q_icmp_ne 56 dX8_keepPassing_37 (by decide) (fun c37 => ?_) (fun c37 => ?_)
      · have hn1 : ¬ (jS 6 fi c τ).1 = 1 := by rw [← hr]; exact c37
        rw [if_neg hn1] at hT
        refine q_iload dX8_keepPassing_56 rfl ?_
        refine q_callS dX8_keepPassing_58 mk_X8_147 (c_X10_canBeMet l G Z29 r29) rfl np_X10_canBeMet (by decide) (by decide) (by decide) (Nat.le_of_ble_eq_true rfl) (kI (fun r58 Z58 h58 => ?_))
        obtain ⟨hz58, h58⟩ := h58
        rw [hz58]
        rw [hr] at h58
        refine q_if_eq 78 dX8_keepPassing_61 (by decide) (fun c61 => ?_) (fun c61 => ?_)
        · have hcm := rb_f h58 c61
          rw [if_neg hcm] at hT
          refine q_iload dX8_keepPassing_78 rfl ?_
          refine q_if_ge 86 dX8_keepPassing_80 (by decide) (fun c80 => ?_) (fun c80 => ?_)
          · skip
            refine q_iinc 1 (ls' := [_, _, _, _, _, _, _, _]) dX8_keepPassing_86 rfl (by decide) rfl rfl (Nat.le_of_ble_eq_true rfl) (by decide) ?_
            refine q_goto 6 dX8_keepPassing_89 (by decide) ?_
            rw [nI_1 (f + i), show f + i + 1 = f + (i + 1) by omega]
            have hge : ¬ (jS 6 fi c τ).1 < 0 := by rw [← hr]; exact Int32.not_lt.mpr c80
            rw [if_neg hge] at hT
            exact ih (i + 1) K _ _ _ hLr2 (by simp at hil; omega) (by omega) hF2 hb2 hbl2 hG2 (by rw [hJe]; exact hA) (fun j hj => by rw [hJe]; exact ho j (by omega)) hT
          · have hlt : (jS 6 fi c τ).1 < 0 := by rw [← hr]; exact Int32.not_le.mp c80
            rw [if_pos hlt] at hT
            refine q_iload dX8_keepPassing_83 rfl ?_
            exact q_ireturn dX8_keepPassing_85 rfl (by decide) (by decide) (by rw [hT]; exact ⟨hF2, hb2, hbl2, hG2, fun j hj => by rw [hJe]; exact ho j (Or.inl hj), hr, by rw [← hr]; exact c80⟩)
        · have hcm := rb_t h58 c61
          rw [if_pos hcm] at hT
          obtain ⟨b0, m0, q1, q2, q3, q4⟩ := hlc
          obtain ⟨m2, t1, t2, t3, t4⟩ := jOK_jS 6 fi c τ m0 q2 q4
          have t5 : m0 + 1 ≤ m2 := by
            rcases t4 with e | e | e | e
            · rw [e] at hcm; exact absurd (by decide) hcm.1
            · exact absurd e hn1
            · exact absurd e hcm.2
            · exact e.2
          have q5 : (jS 6 fi c τ).2.1 32 0 = nI b0 := by rw [hj4.1 32 (by decide) (by decide) (by decide) (by decide)]; exact q1
          obtain ⟨u1, ⟨ar, u2, u3⟩, -⟩ := hF2.2.2.2.1
          have har := u3 (by rw [t3, ← nI_0]; exact nI_lt (by omega) (by omega))
          have u4 : zF Z29 3 (x + 5) = .int (nI b0) := by
            obtain ⟨b9, v1, v2, v3, v4⟩ := hb2
            rw [v3, ← v2, q5]
          first | refine q_aload dX8_keepPassing_64 rfl ?_ | refine q_aloadN dX8_keepPassing_64 rfl ?_
          first | refine q_aload_n dX8_keepPassing_66 rfl ?_ | refine q_aload_nN dX8_keepPassing_66 rfl ?_
          refine q_iload dX8_keepPassing_67 rfl ?_
          refine q_lald dX8_keepPassing_69 hK2 (by rw [hLp2]; exact vp_in_nI (by omega) (by decide)) ?_
          refine q_iload dX8_keepPassing_70 rfl ?_
          rw [hx2]
          refine q_callV 9 dX8_keepPassing_72 mk_X8_151 rfl hF2.1.2.2.1.1 (c_X10_barByLatest l G Z29 (x + 5) (x + 6) (x + 7) (x + 8) (nI b0) ar r29 c hF2.1.2.2.1.1 hF2.1.2.2.1.2.1 hF2.1.2.2.1.2.2.1 hF2.1.2.2.1.2.2.2.1 u4 u2 hF2.1.2.2.1.2.2.2.2.1 hF2.1.2.2.1.2.2.2.2.2.2.1 hF2.1.2.2.1.2.2.2.2.2.2.2.2.1 hF2.1.2.2.1.2.2.2.2.2.1 hF2.1.2.2.1.2.2.2.2.2.2.2.1 hF2.1.2.2.1.2.2.2.2.2.2.2.2.2 (vp_in_nI (by omega) (by decide)) (nI_ge (b := 20) (by omega) (by decide))) rfl np_X10_barByLatest (by decide) (by decide) (by decide) (Nat.le_of_ble_eq_true rfl) (kV (fun Z72 h72 => ?_))
          subst h72
          rw [nI_clamp (by omega)]
          refine q_goto 86 dX8_keepPassing_75 (by decide) ?_
          refine q_iinc 1 (ls' := [_, _, _, _, _, _, _, _]) dX8_keepPassing_86 rfl (by decide) rfl rfl (Nat.le_of_ble_eq_true rfl) (by decide) ?_
          refine q_goto 6 dX8_keepPassing_89 (by decide) ?_
          rw [nI_1 (f + i), show f + i + 1 = f + (i + 1) by omega]
          obtain ⟨w1, w2, w3⟩ := bar_step (vd := r29) (c := c) hF2 hb2 q5 (by omega) har
          rw [← hr] at hT
          refine ih (i + 1) K _ _ _ hLr2 (by simp at hil; omega) (by omega) w1 w2 ⟨b0 + 1, m2, ?_, ?_, by omega, t2⟩ (hG2.tr w3) ?_ ?_ hT
          · show (pI _ 32 0 _).1 32 0 = _
            rw [pI_at, q5, nI_1]
          · rw [barS_1 (by decide) (by decide) (by decide)]; exact t3
          · rw [zJ_sF, zJ_sI, zJ_sI, zJ_sJ, if_neg (by omega), hJe]; exact hA
          · intro j hj
            rw [zJ_sF, zJ_sI, zJ_sI, zJ_sJ, if_neg (by omega), hJe]; exact ho j (by omega)
      · have h1 : (jS 6 fi c τ).1 = 1 := by rw [← hr]; exact c37
        rw [if_pos h1, appK_cns] at hT
        first | refine q_aload_n dX8_keepPassing_40 rfl ?_ | refine q_aload_nN dX8_keepPassing_40 rfl ?_
        refine q_iload_n dX8_keepPassing_41 rfl ?_
        refine q_iload dX8_keepPassing_42 rfl ?_
        refine q_iadd dX8_keepPassing_44 ?_
        first | refine q_aload_n dX8_keepPassing_45 rfl ?_ | refine q_aload_nN dX8_keepPassing_45 rfl ?_
        refine q_iload dX8_keepPassing_46 rfl ?_
        refine q_lald dX8_keepPassing_48 hK2 (by rw [hLp2]; exact vp_in_nI (by omega) (by decide)) ?_
        rw [nI_add, hx2]
        refine q_last dX8_keepPassing_49 hK2 (by rw [hLp2]; exact vp_in_nI (by omega) (by decide)) ?_
        refine q_iinc 1 (ls' := [_, _, _, _, _, _, _, _]) dX8_keepPassing_50 rfl (by decide) rfl rfl (Nat.le_of_ble_eq_true rfl) (by decide) ?_
        refine q_goto 86 dX8_keepPassing_53 (by decide) ?_
        refine q_iinc 1 (ls' := [_, _, _, _, _, _, _, _]) dX8_keepPassing_86 rfl (by decide) rfl rfl (Nat.le_of_ble_eq_true rfl) (by decide) ?_
        refine q_goto 6 dX8_keepPassing_89 (by decide) ?_
        rw [nI_1 K.length]
        rw [nI_1 (f + i), show f + i + 1 = f + (i + 1) by omega]
        have hKl : (K ++ [c]).length = K.length + 1 := by simp
        rw [← hKl]
        refine ih (i + 1) (K ++ [c]) _ _ _ hLr2 (by simp at hil; omega) (by rw [hKl]; omega) (FIs_pool hF2 _) (hb2.cong rfl (by rw [sJ_t, zJ_tJ, if_neg (by omega)]) rfl rfl rfl rfl rfl rfl) hbl2 (hG2.tr (GF_pool x Z29 _)) ?_ ?_ hT
        · rw [sJ_t, zJ_tJ, if_pos rfl, nI_clamp (by omega), hJe]
          exact At_snoc (At_same hA (fun j h1 h2 => by rw [pk_uLn (by omega)])) pk_uLs
        · intro j hj
          rw [sJ_t, zJ_tJ, if_pos rfl, nI_clamp (by omega), hJe, pk_uLn (by omega)]
          exact ho j (by omega)
  refine q_iconst (v := 0) dX8_keepPassing_0 (by decide) ?_
  refine q_istore (ls' := [_, _, _, _, _, _, _, _]) dX8_keepPassing_1 rfl rfl (Nat.le_of_ble_eq_true rfl) (by decide) ?_
  refine q_iload_n dX8_keepPassing_3 rfl ?_
  refine q_istore (ls' := [_, _, _, _, _, _, _, _]) dX8_keepPassing_4 rfl rfl (Nat.le_of_ble_eq_true rfl) (by decide) ?_
  exact loop L 0 [] σ Z none (by simp) (by simp) (by simp) hF hb hbl (GF.rf x Z) At_nil (fun j _ => rfl) (by rw [appK_nil])
