theorem rest3 (v : Int64) : v - v / 3 * 3 = -2 ∨ v - v / 3 * 3 = -1 ∨ v - v / 3 * 3 = 0 ∨ v - v / 3 * 3 = 1 ∨ v - v / 3 * 3 = 2 := by
  have h := rem3 v
  have b : -3 < v.toInt.tmod 3 ∧ v.toInt.tmod 3 < 3 := tmod_bounds (by omega)
  have c : v.toInt.tmod 3 = -2 ∨ v.toInt.tmod 3 = -1 ∨ v.toInt.tmod 3 = 0 ∨ v.toInt.tmod 3 = 1 ∨ v.toInt.tmod 3 = 2 := by omega
  rcases c with e | e | e | e | e
  · exact Or.inl (Int64.toInt_inj.mp (by rw [h, e]; decide))
  · exact Or.inr (Or.inl (Int64.toInt_inj.mp (by rw [h, e]; decide)))
  · exact Or.inr (Or.inr (Or.inl (Int64.toInt_inj.mp (by rw [h, e]; decide))))
  · exact Or.inr (Or.inr (Or.inr (Or.inl (Int64.toInt_inj.mp (by rw [h, e]; decide)))))
  · exact Or.inr (Or.inr (Or.inr (Or.inr (Int64.toInt_inj.mp (by rw [h, e]; decide)))))
theorem pl3_abs (v : Int64) : (if 0 < v - v / 3 * 3 then v - v / 3 * 3 else -(v - v / 3 * 3)).toInt32 = pl3 v := by
  unfold pl3
  rcases rest3 v with e | e | e | e | e <;> rw [e] <;> decide
set_option maxHeartbeats 600000 in
set_option maxRecDepth 100000 in
theorem cc_filterOfBox (l : Launch) (G : Gt) (Z : Zt) (x nf ns : Nat) (af as : Nat → Nat) (σ : St) (h : CR Z x σ af as nf ns) (a fb : Int32) (v : Int64) : Ct l G YX11_filterOfBox (3, 1, 4) Z [.ref x, .int a, .long v] (ΦI (fun r Z1 => ∃ af1 nf1, r = (if a < 0 ∨ ¬ a < 3 then (-2, σ) else keepF σ 5 a fb 1 v).1 ∧ CR Z1 x (if a < 0 ∨ ¬ a < 3 then (-2, σ) else keepF σ 5 a fb 1 v).2 af1 as nf1 ns ∧ KM x Z Z1)) := by
  refine ct_of [some (.ref x), some (.int a), some (.long v), none, none] (by decide +kernel) (Nat.le_of_ble_eq_true rfl) rfl (fun M => ?_)
  have hx := h.1.1.1
  have hT := h.2.2.2.2.1
  have hn20 := h.1.2.2.2.2.2.1
  have hN := h.2.2.2.2.2.2
  first | refine q_aload_n dX11_filterOfBox_0 rfl ?_ | refine q_aload_nN dX11_filterOfBox_0 rfl ?_
  refine q_iload_n dX11_filterOfBox_1 rfl ?_
  refine q_callV 10 dX11_filterOfBox_2 mk_X11_75 rfl hx.1 (cc_boxAt l G Z x nf ns af as σ h a) rfl np_X11_boxAt (by decide) (by decide) (by decide) (Nat.le_of_ble_eq_true rfl) (kA (fun r2 Z2 h2 => ?_))
  obtain ⟨e2, h2⟩ := h2
  rw [e2]
  rcases h2 with ⟨j, hj, rfl, rfl⟩ | ⟨hn, rfl⟩
  · have hnk : ¬ (nI j < 0 ∨ ¬ nI j < 3) := fun z => z.elim (ix_in (m := 3) (by decide) hj).1 (fun y => y (ix_in (m := 3) (by decide) hj).2)
    first | refine q_astore (ls' := [_, _, _, _, _]) dX11_filterOfBox_5 rfl rfl (Nat.le_of_ble_eq_true rfl) (by decide) ?_ | refine q_astoreN (ls' := [_, _, _, _, _]) dX11_filterOfBox_5 rfl rfl (Nat.le_of_ble_eq_true rfl) (by decide) ?_
    first | refine q_aload dX11_filterOfBox_7 rfl ?_ | refine q_aloadN dX11_filterOfBox_7 rfl ?_
    refine q_ifnonnull 15 dX11_filterOfBox_9 (by decide) ?_
    first | refine q_aload_n dX11_filterOfBox_15 rfl ?_ | refine q_aload_nN dX11_filterOfBox_15 rfl ?_
    refine q_new dX11_filterOfBox_16 nk_X11_245 rfl (by decide) (by decide) ?_
    refine q_dup dX11_filterOfBox_19 rfl ?_
    first | refine q_aload_n dX11_filterOfBox_20 rfl ?_ | refine q_aload_nN dX11_filterOfBox_20 rfl ?_
    refine q_getf dX11_filterOfBox_21 fk_X11_97_10 (by rw [zK_nO (by omega)]; exact hx.1) ((zF_nO (by omega)).trans hT.1) ?_
    first | refine q_aload dX11_filterOfBox_24 rfl ?_ | refine q_aloadN dX11_filterOfBox_24 rfl ?_
    refine q_lload_n dX11_filterOfBox_26 rfl ?_
    refine q_ldc2 dX11_filterOfBox_27 kl_X11_247 ?_
    refine q_lrem dX11_filterOfBox_30 (by decide) ?_
    refine q_mabs dX11_filterOfBox_31 mk_X11_249 (by decide) (Nat.le_of_ble_eq_true rfl) (by decide) (by decide) ?_
    refine q_l2i dX11_filterOfBox_34 ?_
    rw [pl3_abs]
    refine q_callI dX11_filterOfBox_35 mk_X11_254 rfl (c_X1_init l G _ (zN Z) (x + 24 + 2 * j) (nI nf) (pl3 v) zK_nO') rfl np_X1_init (by decide) (by decide) (by decide) (Nat.le_of_ble_eq_true rfl) (kV (fun Z35 h35 => ?_))
    have F : ∀ k b, zF Z35 k b = _ := fun k b => by rw [h35, zF_sF, zF_sF, zF_sF, zF_sF]
    have hK35 : zK Z35 (zN Z) = 2 := by rw [h35, zK_sF, zK_sF, zK_sF, zK_sF]; exact zK_nO'
    have hD35 : zF Z35 1 (zN Z) = .int 1 := by rw [F, if_neg (by omega), if_neg (by omega), if_pos ⟨rfl, rfl⟩]
    have hFr : Fr (zN Z) Z Z35 := by
      rw [h35]
      exact ((((Fr_nO (Nat.le_refl _)).tr (Fr_sF (Nat.le_refl _))).tr (Fr_sF (Nat.le_refl _))).tr (Fr_sF (Nat.le_refl _))).tr (Fr_sF (Nat.le_refl _))
    have hC := h.fr hFr
    have hkm := hFr.km hN
    have hnew := box_newF (Z := Z35) (x := x) (nf := nf) (a := zN Z) (j := j) (σ := σ) (af' := fun f => if f = nf then zN Z else af f) (fb := fb) (v := v) (if_pos rfl) hN hj hK35 (by rw [F, if_neg (by omega), if_neg (by omega), if_neg (by omega), if_pos ⟨rfl, rfl⟩]) hD35 (by rw [F, if_neg (by omega), if_pos ⟨rfl, rfl⟩]) (by rw [F, if_pos ⟨rfl, rfl⟩])
    refine q_callV 10 dX11_filterOfBox_38 mk_X11_104 rfl hC.1.1.1.1 (cc_keepFilter l G Z35 x nf ns af as σ hC (zN Z) 1 _ 1 rfl (List.Mem.head _) fk_X11_257_1 hK35 hD35) rfl np_X11_keepFilter (by decide) (by decide) (by decide) (Nat.le_of_ble_eq_true rfl) (kI (fun r38 Z38 h38 => ?_))
    exact q_ireturn dX11_filterOfBox_41 rfl (by decide) (by decide) (by rw [if_neg hnk]; exact filt_end h hC hkm (fun _ => hnew) h38)
  · first | refine q_astore (ls' := [_, _, _, _, _]) dX11_filterOfBox_5 rfl rfl (Nat.le_of_ble_eq_true rfl) (by decide) ?_ | refine q_astoreN (ls' := [_, _, _, _, _]) dX11_filterOfBox_5 rfl rfl (Nat.le_of_ble_eq_true rfl) (by decide) ?_
    first | refine q_aload dX11_filterOfBox_7 rfl ?_ | refine q_aloadN dX11_filterOfBox_7 rfl ?_
    refine q_ifnonnullN dX11_filterOfBox_9 ?_
    refine q_bipush (v := (-2)) dX11_filterOfBox_12 (by decide) ?_
    exact q_ireturn dX11_filterOfBox_14 rfl (by decide) (by decide) (by rw [if_pos hn]; exact ⟨af, nf, rfl, h, KM.rf x Z⟩)
