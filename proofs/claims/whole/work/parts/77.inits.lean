/-! the reference's constructor -/
def IM (Z0 : Zt) (y i : Nat) (Z : Zt) : Prop := zN Z = y + 1 + i ∧ zK Z y = 12 ∧ (∀ k, k < 41 → 20 ≤ mT k → mA k ≤ i → zF Z k y = .ref (y + mA k) ∧ zK Z (y + mA k) = mT k ∧ zL Z (y + mA k) = mL k ∧ zI Z (y + mA k) = (fun _ => 0) ∧ zJ Z (y + mA k) = (fun _ => 0)) ∧ (∀ k, k < 41 → mT k = 0 → zF Z k y = .int 0) ∧ (∀ k, k < 41 → mT k = 1 → zF Z k y = .long 0) ∧ (∀ b, b < y → Eq1 Z0 Z b) ∧ WN Z
theorem IM_step {Z0 Z : Zt} {y i k w N : Nat} (h : IM Z0 y i Z) (hk : k < 41) (ht : 20 + w = mT k) (hN : N = mL k) (hi : mA k = i + 1) : IM Z0 y (i + 1) (sF (nA Z (20 + w) N) k y (.ref (zN Z))) := by
  obtain ⟨a1, a2, a3, a4, a5, a6, a7⟩ := h
  have hy : y ≠ zN Z := by omega
  refine ⟨by rw [zN_sF, zN_nA]; omega, by rw [zK_sF, zK_nA hy]; exact a2, fun k' h1 h2 h3 => ?_, fun k' h1 h2 => ?_, fun k' h1 h2 => ?_, fun b hb => ?_, fun b hb => ?_⟩
  · rw [zF_sF, zK_sF, zL_sF, zI_sF, zJ_sF]
    by_cases c : k' = k
    · subst c
      have e : y + mA k' = zN Z := by omega
      rw [if_pos ⟨rfl, rfl⟩, e, zK_nA', zL_nA', zI_nA', zJ_nA']
      exact ⟨rfl, ht, hN, rfl, rfl⟩
    · have hne : mA k' ≠ mA k := fun z => c (mA_inj k' h1 k hk h2 (by omega) z)
      have e : y + mA k' ≠ zN Z := by omega
      rw [if_neg (fun z => c z.1), zF_nA, zK_nA e, zL_nA e, zI_nA e, zJ_nA e]
      exact a3 k' h1 h2 (by omega)
  · rw [zF_sF, if_neg (fun z => by rw [z.1] at h2; omega), zF_nA]
    exact a4 k' h1 h2
  · rw [zF_sF, if_neg (fun z => by rw [z.1] at h2; omega), zF_nA]
    exact a5 k' h1 h2
  · exact ((a6 b hb).tr (Eq1_nA (by omega))).tr (Eq1_sF (by omega))
  · rw [zN_sF, zN_nA] at hb
    rw [zK_sF, zK_nA (by omega)]
    exact a7 b (by omega)
section QMk
variable {l : Launch} {G : Gt} {Y : Yt} {B : Bt} {M : Mt} {Z Z0 : Zt} {cells slots : Nat} {Q : State → Prop} {pc y i : Nat} {ls : List (Option Value)} {st : List Value}
theorem m_mk {n : Int32} {N j w : Nat} {at0 : ArrayType} (k : Nat) (h : IM Z0 y i Z) (hd : decode Y.2.1 pc = .ok (.newarray at0, 2)) (hd2 : decode Y.2.1 (pc + 2) = .ok (.putfield j, 3)) (hty : newarray.typeOf at0 = aTy w) (hw : w < 3) (ha : Cond.arrayClass (aTy w) ∈ WS) (h0 : ¬ n < 0) (hN : n.toNatClampNeg = N) (hbt : N * componentBytes (aTy w) ≤ 536870912) (hc : cells + 1 ≤ B.2.1) (hs : slots + N ≤ B.2.2)
    (hfk : fOK Y.1.cls j 11 k) (hf : (vwCl[11]?).map (fun q => (q.2.1 k).2.2.2) = some true) (hdc : (vwCl[11]?).map (fun q => (q.2.1 k).1) = some Y.1.cls) (hin : Y.1.name = "<init>") (hn : narrow (tyTab 11 k) (.ref (zN Z)) = .ref (zN Z)) (hfit : fits (tyTab 11 k) (.ref (zN Z)) = true) (hk : k < 41) (ht : 20 + w = mT k) (hL : N = mL k) (hi : mA k = i + 1)
    (kk : ∀ Z', IM Z0 y (i + 1) Z' → Jd l G Y B M Z' (cells + 1) (slots + N) Q (pc + 2 + 3) ls st) : Jd l G Y B M Z cells slots Q pc ls (.int n :: .ref y :: st) := by
  have e : y ≠ zN Z := by have := h.1; omega
  exact q_newa hd hty hw ha h0 hN hbt hc hs (q_putF hd2 hfk hf hdc hin (by rw [zK_nA e]; exact h.2.1) hn hfit (kk _ (IM_step h hk ht hL hi)))
end QMk
set_option maxHeartbeats 600000 in
set_option maxRecDepth 100000 in
theorem mc_init (l : Launch) (G : Gt) (Z0 Z : Zt) (y : Nat) (h : IM Z0 y 0 Z) : Ct l G YX12_init (1, 29, 4183) Z [.ref y] (ΦV (IM Z0 y 29)) := by
  refine ct_of [some (.ref y)] (by decide +kernel) (Nat.le_of_ble_eq_true rfl) rfl (fun M => ?_)
  first | refine q_aload_n dX12_init_0 rfl ?_ | refine q_aload_nN dX12_init_0 rfl ?_
  refine q_objInit dX12_init_1 ok_X12_1 oi_m oi_c (by decide) (Nat.le_of_ble_eq_true rfl) ?_
  refine q_aload_n dX12_init_4 rfl ?_
  refine q_bipush (v := 6) dX12_init_5 (by decide) ?_
  refine m_mk (w := 0) (N := 6) 1 h dX12_init_7 dX12_init_9 rfl (by decide) ac_0 (by decide) rfl (by decide) (by decide) (by decide) fk_X12_7_11 rfl rfl rfl rfl rfl (by decide) rfl rfl rfl (fun Z h => ?_)
  refine q_aload_n dX12_init_12 rfl ?_
  refine q_bipush (v := 6) dX12_init_13 (by decide) ?_
  refine m_mk (w := 0) (N := 6) 2 h dX12_init_15 dX12_init_17 rfl (by decide) ac_0 (by decide) rfl (by decide) (by decide) (by decide) fk_X12_13_11 rfl rfl rfl rfl rfl (by decide) rfl rfl rfl (fun Z h => ?_)
  refine q_aload_n dX12_init_20 rfl ?_
  refine q_bipush (v := 6) dX12_init_21 (by decide) ?_
  refine m_mk (w := 1) (N := 6) 3 h dX12_init_23 dX12_init_25 rfl (by decide) ac_1 (by decide) rfl (by decide) (by decide) (by decide) fk_X12_16_11 rfl rfl rfl rfl rfl (by decide) rfl rfl rfl (fun Z h => ?_)
  refine q_aload_n dX12_init_28 rfl ?_
  refine q_bipush (v := 72) dX12_init_29 (by decide) ?_
  refine m_mk (w := 1) (N := 72) 4 h dX12_init_31 dX12_init_33 rfl (by decide) ac_1 (by decide) rfl (by decide) (by decide) (by decide) fk_X12_20_11 rfl rfl rfl rfl rfl (by decide) rfl rfl rfl (fun Z h => ?_)
  refine q_aload_n dX12_init_36 rfl ?_
  refine q_bipush (v := 9) dX12_init_37 (by decide) ?_
  refine m_mk (w := 0) (N := 9) 5 h dX12_init_39 dX12_init_41 rfl (by decide) ac_0 (by decide) rfl (by decide) (by decide) (by decide) fk_X12_23_11 rfl rfl rfl rfl rfl (by decide) rfl rfl rfl (fun Z h => ?_)
  refine q_aload_n dX12_init_44 rfl ?_
  refine q_bipush (v := 20) dX12_init_45 (by decide) ?_
  refine m_mk (w := 0) (N := 20) 7 h dX12_init_47 dX12_init_49 rfl (by decide) ac_0 (by decide) rfl (by decide) (by decide) (by decide) fk_X12_26_11 rfl rfl rfl rfl rfl (by decide) rfl rfl rfl (fun Z h => ?_)
  refine q_aload_n dX12_init_52 rfl ?_
  refine q_bipush (v := 20) dX12_init_53 (by decide) ?_
  refine m_mk (w := 0) (N := 20) 8 h dX12_init_55 dX12_init_57 rfl (by decide) ac_0 (by decide) rfl (by decide) (by decide) (by decide) fk_X12_29_11 rfl rfl rfl rfl rfl (by decide) rfl rfl rfl (fun Z h => ?_)
  refine q_aload_n dX12_init_60 rfl ?_
  refine q_bipush (v := 20) dX12_init_61 (by decide) ?_
  refine m_mk (w := 0) (N := 20) 9 h dX12_init_63 dX12_init_65 rfl (by decide) ac_0 (by decide) rfl (by decide) (by decide) (by decide) fk_X12_32_11 rfl rfl rfl rfl rfl (by decide) rfl rfl rfl (fun Z h => ?_)
  refine q_aload_n dX12_init_68 rfl ?_
  refine q_bipush (v := 20) dX12_init_69 (by decide) ?_
  refine m_mk (w := 1) (N := 20) 10 h dX12_init_71 dX12_init_73 rfl (by decide) ac_1 (by decide) rfl (by decide) (by decide) (by decide) fk_X12_35_11 rfl rfl rfl rfl rfl (by decide) rfl rfl rfl (fun Z h => ?_)
  refine q_aload_n dX12_init_76 rfl ?_
  refine q_bipush (v := 20) dX12_init_77 (by decide) ?_
  refine m_mk (w := 0) (N := 20) 11 h dX12_init_79 dX12_init_81 rfl (by decide) ac_0 (by decide) rfl (by decide) (by decide) (by decide) fk_X12_38_11 rfl rfl rfl rfl rfl (by decide) rfl rfl rfl (fun Z h => ?_)
  refine q_aload_n dX12_init_84 rfl ?_
  refine q_bipush (v := 20) dX12_init_85 (by decide) ?_
  refine m_mk (w := 0) (N := 20) 12 h dX12_init_87 dX12_init_89 rfl (by decide) ac_0 (by decide) rfl (by decide) (by decide) (by decide) fk_X12_41_11 rfl rfl rfl rfl rfl (by decide) rfl rfl rfl (fun Z h => ?_)
  refine q_aload_n dX12_init_92 rfl ?_
  refine q_bipush (v := 20) dX12_init_93 (by decide) ?_
  refine m_mk (w := 0) (N := 20) 17 h dX12_init_95 dX12_init_97 rfl (by decide) ac_0 (by decide) rfl (by decide) (by decide) (by decide) fk_X12_44_11 rfl rfl rfl rfl rfl (by decide) rfl rfl rfl (fun Z h => ?_)
  refine q_aload_n dX12_init_100 rfl ?_
  refine q_bipush (v := 20) dX12_init_101 (by decide) ?_
  refine m_mk (w := 0) (N := 20) 18 h dX12_init_103 dX12_init_105 rfl (by decide) ac_0 (by decide) rfl (by decide) (by decide) (by decide) fk_X12_47_11 rfl rfl rfl rfl rfl (by decide) rfl rfl rfl (fun Z h => ?_)
  refine q_aload_n dX12_init_108 rfl ?_
  refine q_bipush (v := 20) dX12_init_109 (by decide) ?_
  refine m_mk (w := 0) (N := 20) 19 h dX12_init_111 dX12_init_113 rfl (by decide) ac_0 (by decide) rfl (by decide) (by decide) (by decide) fk_X12_50_11 rfl rfl rfl rfl rfl (by decide) rfl rfl rfl (fun Z h => ?_)
  refine q_aload_n dX12_init_116 rfl ?_
  refine q_bipush (v := 20) dX12_init_117 (by decide) ?_
  refine m_mk (w := 0) (N := 20) 20 h dX12_init_119 dX12_init_121 rfl (by decide) ac_0 (by decide) rfl (by decide) (by decide) (by decide) fk_X12_53_11 rfl rfl rfl rfl rfl (by decide) rfl rfl rfl (fun Z h => ?_)
  refine q_aload_n dX12_init_124 rfl ?_
  refine q_bipush (v := 20) dX12_init_125 (by decide) ?_
  refine m_mk (w := 0) (N := 20) 21 h dX12_init_127 dX12_init_129 rfl (by decide) ac_0 (by decide) rfl (by decide) (by decide) (by decide) fk_X12_56_11 rfl rfl rfl rfl rfl (by decide) rfl rfl rfl (fun Z h => ?_)
  refine q_aload_n dX12_init_132 rfl ?_
  refine q_bipush (v := 20) dX12_init_133 (by decide) ?_
  refine m_mk (w := 1) (N := 20) 22 h dX12_init_135 dX12_init_137 rfl (by decide) ac_1 (by decide) rfl (by decide) (by decide) (by decide) fk_X12_59_11 rfl rfl rfl rfl rfl (by decide) rfl rfl rfl (fun Z h => ?_)
  refine q_aload_n dX12_init_140 rfl ?_
  refine q_bipush (v := 20) dX12_init_141 (by decide) ?_
  refine m_mk (w := 0) (N := 20) 23 h dX12_init_143 dX12_init_145 rfl (by decide) ac_0 (by decide) rfl (by decide) (by decide) (by decide) fk_X12_62_11 rfl rfl rfl rfl rfl (by decide) rfl rfl rfl (fun Z h => ?_)
  refine q_aload_n dX12_init_148 rfl ?_
  refine q_bipush (v := 20) dX12_init_149 (by decide) ?_
  refine m_mk (w := 2) (N := 20) 24 h dX12_init_151 dX12_init_153 rfl (by decide) ac_2 (by decide) rfl (by decide) (by decide) (by decide) fk_X12_65_11 rfl rfl rfl rfl rfl (by decide) rfl rfl rfl (fun Z h => ?_)
  refine q_aload_n dX12_init_156 rfl ?_
  refine q_bipush (v := 20) dX12_init_157 (by decide) ?_
  refine m_mk (w := 1) (N := 20) 25 h dX12_init_159 dX12_init_161 rfl (by decide) ac_1 (by decide) rfl (by decide) (by decide) (by decide) fk_X12_69_11 rfl rfl rfl rfl rfl (by decide) rfl rfl rfl (fun Z h => ?_)
  refine q_aload_n dX12_init_164 rfl ?_
  refine q_bipush (v := 20) dX12_init_165 (by decide) ?_
  refine m_mk (w := 1) (N := 20) 26 h dX12_init_167 dX12_init_169 rfl (by decide) ac_1 (by decide) rfl (by decide) (by decide) (by decide) fk_X12_72_11 rfl rfl rfl rfl rfl (by decide) rfl rfl rfl (fun Z h => ?_)
  refine q_aload_n dX12_init_172 rfl ?_
  refine q_bipush (v := 20) dX12_init_173 (by decide) ?_
  refine m_mk (w := 1) (N := 20) 27 h dX12_init_175 dX12_init_177 rfl (by decide) ac_1 (by decide) rfl (by decide) (by decide) (by decide) fk_X12_75_11 rfl rfl rfl rfl rfl (by decide) rfl rfl rfl (fun Z h => ?_)
  refine q_aload_n dX12_init_180 rfl ?_
  refine q_sipush (v := 240) dX12_init_181 (by decide) ?_
  refine m_mk (w := 1) (N := 240) 28 h dX12_init_184 dX12_init_186 rfl (by decide) ac_1 (by decide) rfl (by decide) (by decide) (by decide) fk_X12_78_11 rfl rfl rfl rfl rfl (by decide) rfl rfl rfl (fun Z h => ?_)
  refine q_aload_n dX12_init_189 rfl ?_
  refine q_sipush (v := 3216) dX12_init_190 (by decide) ?_
  refine m_mk (w := 1) (N := 3216) 29 h dX12_init_193 dX12_init_195 rfl (by decide) ac_1 (by decide) rfl (by decide) (by decide) (by decide) fk_X12_81_11 rfl rfl rfl rfl rfl (by decide) rfl rfl rfl (fun Z h => ?_)
  refine q_aload_n dX12_init_198 rfl ?_
  refine q_bipush (v := 16) dX12_init_199 (by decide) ?_
  refine m_mk (w := 0) (N := 16) 30 h dX12_init_201 dX12_init_203 rfl (by decide) ac_0 (by decide) rfl (by decide) (by decide) (by decide) fk_X12_84_11 rfl rfl rfl rfl rfl (by decide) rfl rfl rfl (fun Z h => ?_)
  refine q_aload_n dX12_init_206 rfl ?_
  refine q_bipush (v := 24) dX12_init_207 (by decide) ?_
  refine m_mk (w := 1) (N := 24) 33 h dX12_init_209 dX12_init_211 rfl (by decide) ac_1 (by decide) rfl (by decide) (by decide) (by decide) fk_X12_87_11 rfl rfl rfl rfl rfl (by decide) rfl rfl rfl (fun Z h => ?_)
  refine q_aload_n dX12_init_214 rfl ?_
  refine q_bipush (v := 24) dX12_init_215 (by decide) ?_
  refine m_mk (w := 0) (N := 24) 34 h dX12_init_217 dX12_init_219 rfl (by decide) ac_0 (by decide) rfl (by decide) (by decide) (by decide) fk_X12_90_11 rfl rfl rfl rfl rfl (by decide) rfl rfl rfl (fun Z h => ?_)
  refine q_aload_n dX12_init_222 rfl ?_
  refine q_bipush (v := 24) dX12_init_223 (by decide) ?_
  refine m_mk (w := 0) (N := 24) 35 h dX12_init_225 dX12_init_227 rfl (by decide) ac_0 (by decide) rfl (by decide) (by decide) (by decide) fk_X12_93_11 rfl rfl rfl rfl rfl (by decide) rfl rfl rfl (fun Z h => ?_)
  refine q_aload_n dX12_init_230 rfl ?_
  refine q_sipush (v := 200) dX12_init_231 (by decide) ?_
  refine m_mk (w := 1) (N := 200) 40 h dX12_init_234 dX12_init_236 rfl (by decide) ac_1 (by decide) rfl (by decide) (by decide) (by decide) fk_X12_96_11 rfl rfl rfl rfl rfl (by decide) rfl rfl rfl (fun Z h => ?_)
  exact q_return dX12_init_239 rfl (by decide) (by decide) h
def σ0 : St := (fun _ _ => 0, fun _ _ => 0)
theorem mA_29 : ∀ k, k < 41 → 20 ≤ mT k → mA k ≤ 29 := fun k h1 h2 => (mA_b k h1 h2).2
theorem mx_00 : mx σ0 σ0 = σ0 := by
  refine Prod.ext (funext fun k => funext fun i => ?_) (funext fun k => funext fun i => ?_)
  · show (if xt k = true then (0 : Int32) else 0) = 0
    split <;> rfl
  · show (if xt k = true then (0 : Int64) else 0) = 0
    split <;> rfl
theorem IM.mr {Z0 Z Z1 : Zt} {y : Nat} (h : IM Z0 y 29 Z) (e : ∀ b, y ≤ b → b < y + 30 → Eq1 Z Z1 b) : MR Z1 y σ0 σ0 := by
  obtain ⟨a1, a2, a3, a4, a5, -⟩ := h
  unfold MR
  rw [mx_00]
  have ey := e y (by omega) (by omega)
  refine ⟨ey.1.trans a2, fun k h1 h2 => ?_, fun k h1 h2 i hi => ?_, fun k h1 h2 => ?_, fun k h1 h2 => ?_⟩
  · have b := mA_b k h1 h2
    obtain ⟨c1, c2, c3, -⟩ := a3 k h1 h2 b.2
    have eb := e (y + mA k) (by omega) (by omega)
    exact ⟨(ey.2.2.2.2.2 k).trans c1, eb.1.trans c2, eb.2.1.trans c3⟩
  · have b := mA_b k h1 h2
    obtain ⟨-, -, -, c4, c5⟩ := a3 k h1 h2 b.2
    have eb := e (y + mA k) (by omega) (by omega)
    exact ⟨fun _ => by rw [eb.2.2.1, c4]; rfl, fun _ => by rw [eb.2.2.2.1, c5]; rfl⟩
  · exact (ey.2.2.2.2.2 k).trans (a4 k h1 h2)
  · exact (ey.2.2.2.2.2 k).trans (a5 k h1 h2)
theorem ty_0 : ∀ k, k < 41 → mT k = 0 → defaultValue (tyTab 11 k) = .int 0 := by decide +kernel
theorem ty_1 : ∀ k, k < 41 → mT k = 1 → defaultValue (tyTab 11 k) = .long 0 := by decide +kernel
/-- a new reference: nothing made yet -/
theorem IM_new {Z : Zt} (hW : WN Z) : IM Z (zN Z) 0 (nO Z 12 (fun k => defaultValue (tyTab 11 k))) := by
  refine ⟨zN_nO, zK_nO', fun k h1 h2 h3 => ?_, fun k h1 h2 => ?_, fun k h1 h2 => ?_, fun b hb => Eq1_nO hb, fun b hb => ?_⟩
  · have := mA_b k h1 h2
    omega
  · rw [zF_nO']
    exact ty_0 k h1 h2
  · rw [zF_nO']
    exact ty_1 k h1 h2
  · rw [zN_nO] at hb
    rw [zK_nO (by omega)]
    exact hW b (by omega)
/-! the class's constructor -/
def Gr (x : Nat) (Z Z' : Zt) : Prop := zN Z ≤ zN Z' ∧ (∀ b, b < zN Z → b ≠ x → Eq1 Z Z' b) ∧ zK Z' x = zK Z x ∧ (WN Z → WN Z')
theorem Gr.tr {x : Nat} {Z Z1 Z2 : Zt} (h : Gr x Z Z1) (k : Gr x Z1 Z2) : Gr x Z Z2 := ⟨Nat.le_trans h.1 k.1, fun b h1 h2 => (h.2.1 b h1 h2).tr (k.2.1 b (Nat.lt_of_lt_of_le h1 h.1) h2), k.2.2.1.trans h.2.2.1, fun w => k.2.2.2 (h.2.2.2 w)⟩
theorem Fr.gr {x : Nat} {Z Z1 : Zt} (h : Fr (zN Z) Z Z1) (hx : x < zN Z) : Gr x Z Z1 := ⟨h.1, fun b hb _ => h.2.2 b hb, (h.2.2 x hx).1, fun w => h.wn w⟩
def PuX (x k : Nat) (v : Value) (Z Z1 : Zt) : Prop := Gr x Z Z1 ∧ zN Z1 = zN Z ∧ zF Z1 k x = v ∧ ∀ j, j ≠ k → zF Z1 j x = zF Z j x
theorem putx_f {x k : Nat} {v : Value} {Z Z1 : Zt} (h : sF Z k x v = Z1) : PuX x k v Z Z1 := by
  subst h
  exact ⟨⟨Nat.le_refl _, fun b _ hb => Eq1_sF hb, rfl, fun w => w⟩, rfl, by rw [zF_sF, if_pos ⟨rfl, rfl⟩], fun j hj => by rw [zF_sF, if_neg (fun z => hj z.1)]⟩
def MkA (x k kd N : Nat) (Z Z1 : Zt) : Prop := Gr x Z Z1 ∧ zN Z1 = zN Z + 1 ∧ zF Z1 k x = .ref (zN Z) ∧ (∀ j, j ≠ k → zF Z1 j x = zF Z j x) ∧ zK Z1 (zN Z) = kd ∧ zL Z1 (zN Z) = N
theorem mka_f {x k kd N : Nat} {Z Z1 : Zt} (hx : x < zN Z) (h : sF (nA Z kd N) k x (.ref (zN Z)) = Z1) : MkA x k kd N Z Z1 := by
  obtain ⟨a, b, c, d⟩ := putx_f h
  have g : Gr x Z (nA Z kd N) := (Fr_nA (Nat.le_refl _)).gr hx
  have e := a.2.1 (zN Z) (by rw [zN_nA]; omega) (by omega)
  exact ⟨g.tr a, b, c, fun j hj => (d j hj).trans rfl, e.1.trans zK_nA', e.2.1.trans zL_nA'⟩
def TaF (Z Z1 : Zt) : Prop := Fr (zN Z) Z Z1 ∧ zN Z1 = zN Z + 4 ∧ (zK Z1 (zN Z) = 10 ∧ zF Z1 0 (zN Z) = .ref (zN Z + 1) ∧ zF Z1 1 (zN Z) = .ref (zN Z + 2) ∧ zF Z1 2 (zN Z) = .ref (zN Z + 3) ∧ zF Z1 3 (zN Z) = .int 0 ∧ zF Z1 4 (zN Z) = .int 0 ∧ zF Z1 5 (zN Z) = .int (-1)) ∧ zK Z1 (zN Z + 1) = 21 ∧ zL Z1 (zN Z + 1) = 20 ∧ zK Z1 (zN Z + 2) = 20 ∧ zL Z1 (zN Z + 2) = 20 ∧ zK Z1 (zN Z + 3) = 20 ∧ zL Z1 (zN Z + 3) = 20
/-- the step: a row is made, a field of a takes it -/
def MkO (a k kd N : Nat) (Z Z1 : Zt) : Prop := Fr a Z Z1 ∧ zN Z1 = zN Z + 1 ∧ (∀ b, b < zN Z → zK Z1 b = zK Z b ∧ zL Z1 b = zL Z b) ∧ zF Z1 k a = .ref (zN Z) ∧ (∀ j, j ≠ k → zF Z1 j a = zF Z j a) ∧ zK Z1 (zN Z) = kd ∧ zL Z1 (zN Z) = N ∧ zI Z1 (zN Z) = (fun _ => 0) ∧ zJ Z1 (zN Z) = (fun _ => 0)
theorem mko_f {a k kd N : Nat} {Z Z1 : Zt} (ha : a < zN Z) (h : Z1 = sF (nA Z kd N) k a (.ref (zN Z))) : MkO a k kd N Z Z1 := by
  subst h
  refine ⟨(Fr_nA (by omega)).tr (Fr_sF (Nat.le_refl _)), by rw [zN_sF, zN_nA], fun b hb => ⟨by rw [zK_sF, zK_nA (by omega)], by rw [zL_sF, zL_nA (by omega)]⟩, by rw [zF_sF, if_pos ⟨rfl, rfl⟩], fun j hj => by rw [zF_sF, if_neg (fun z => hj z.1), zF_nA], by rw [zK_sF, zK_nA'], by rw [zL_sF, zL_nA'], by rw [zI_sF, zI_nA'], by rw [zJ_sF, zJ_nA']⟩
theorem tally_f {Z Z1 : Zt} (h : Z1 = sF (sF (nA (sF (nA (sF (nA (nO Z 10 (fun k => defaultValue (tyTab 9 k))) 21 20) 0 (zN Z) (.ref (zN Z + 1))) 20 20) 1 (zN Z) (.ref (zN Z + 1 + 1))) 20 20) 2 (zN Z) (.ref (zN Z + 1 + 2))) 5 (zN Z) (.int (-1))) : TaF Z Z1 := by
  generalize hO : nO Z 10 (fun k => defaultValue (tyTab 9 k)) = ZO at h
  have f0 : Fr (zN Z) Z ZO := by rw [← hO]; exact Fr_nO (Nat.le_refl _)
  have n0 : zN ZO = zN Z + 1 := by rw [← hO]; exact zN_nO
  have k0 : zK ZO (zN Z) = 10 := by rw [← hO]; exact zK_nO'
  have d3 : zF ZO 3 (zN Z) = .int 0 := by rw [← hO]; exact zF_nO'
  have d4 : zF ZO 4 (zN Z) = .int 0 := by rw [← hO]; exact zF_nO'
  generalize hA : sF (nA ZO 21 20) 0 (zN Z) (.ref (zN Z + 1)) = ZA at h
  have mA := mko_f (Z := ZO) (Z1 := ZA) (a := zN Z) (k := 0) (kd := 21) (N := 20) (by omega) (by rw [n0]; exact hA.symm)
  have nA1 : zN ZA = zN Z + 2 := by have := mA.2.1; omega
  generalize hB : sF (nA ZA 20 20) 1 (zN Z) (.ref (zN Z + 1 + 1)) = ZB at h
  have mB := mko_f (Z := ZA) (Z1 := ZB) (a := zN Z) (k := 1) (kd := 20) (N := 20) (by omega) (by rw [nA1]; exact hB.symm)
  have nB1 : zN ZB = zN Z + 3 := by have := mB.2.1; omega
  generalize hC : sF (nA ZB 20 20) 2 (zN Z) (.ref (zN Z + 1 + 2)) = ZC at h
  have mC := mko_f (Z := ZB) (Z1 := ZC) (a := zN Z) (k := 2) (kd := 20) (N := 20) (by omega) (by rw [nB1]; exact hC.symm)
  have nC1 : zN ZC = zN Z + 4 := by have := mC.2.1; omega
  subst h
  unfold MkO at mA
  rw [n0] at mA
  unfold MkO at mB mC
  rw [nA1] at mB
  rw [nB1] at mC
  obtain ⟨a1, -, a3, a4, a5, a6, a7, -⟩ := mA
  obtain ⟨b1, -, b3, b4, b5, b6, b7, -⟩ := mB
  obtain ⟨c1, -, c3, c4, c5, c6, c7, -⟩ := mC
  have e : ∀ j, j ≠ 5 → zF (sF ZC 5 (zN Z) (.int (-1))) j (zN Z) = zF ZC j (zN Z) := fun j hj => by rw [zF_sF, if_neg (fun z => hj z.1)]
  refine ⟨((f0.tr a1).tr b1).tr (c1.tr (Fr_sF (Nat.le_refl _))), by rw [zN_sF]; exact nC1, ⟨?_, ?_, ?_, ?_, ?_, ?_, ?_⟩, ?_, ?_, ?_, ?_, ?_, ?_⟩
  · rw [zK_sF, (c3 _ (by omega)).1, (b3 _ (by omega)).1, (a3 _ (by omega)).1]; exact k0
  · rw [e 0 (by decide), c5 0 (by decide), b5 0 (by decide)]; exact a4
  · rw [e 1 (by decide), c5 1 (by decide)]; exact b4
  · rw [e 2 (by decide)]; exact c4
  · rw [e 3 (by decide), c5 3 (by decide), b5 3 (by decide), a5 3 (by decide)]; exact d3
  · rw [e 4 (by decide), c5 4 (by decide), b5 4 (by decide), a5 4 (by decide)]; exact d4
  · rw [zF_sF, if_pos ⟨rfl, rfl⟩]
  · rw [zK_sF, (c3 _ (by omega)).1, (b3 _ (by omega)).1]; exact a6
  · rw [zL_sF, (c3 _ (by omega)).2, (b3 _ (by omega)).2]; exact a7
  · rw [zK_sF, (c3 _ (by omega)).1]; exact b6
  · rw [zL_sF, (c3 _ (by omega)).2]; exact b7
  · rw [zK_sF]; exact c6
  · rw [zL_sF]; exact c7
def RaF (Z Z1 : Zt) : Prop := Fr (zN Z) Z Z1 ∧ zN Z1 = zN Z + 2 ∧ zK Z1 (zN Z) = 5 ∧ zF Z1 0 (zN Z) = .null ∧ zF Z1 1 (zN Z) = .ref (zN Z + 1) ∧ zF Z1 2 (zN Z) = .int 0 ∧ zK Z1 (zN Z + 1) = 21 ∧ zL Z1 (zN Z + 1) = 200
theorem range_f {Z Z1 : Zt} (h : Z1 = sF (nA (nO Z 5 (fun k => defaultValue (tyTab 4 k))) 21 200) 1 (zN Z) (.ref (zN Z + 1))) : RaF Z Z1 := by
  generalize hO : nO Z 5 (fun k => defaultValue (tyTab 4 k)) = ZO at h
  have f0 : Fr (zN Z) Z ZO := by rw [← hO]; exact Fr_nO (Nat.le_refl _)
  have n0 : zN ZO = zN Z + 1 := by rw [← hO]; exact zN_nO
  have k0 : zK ZO (zN Z) = 5 := by rw [← hO]; exact zK_nO'
  have d0 : zF ZO 0 (zN Z) = .null := by rw [← hO]; exact zF_nO'
  have d2 : zF ZO 2 (zN Z) = .int 0 := by rw [← hO]; exact zF_nO'
  have mA := mko_f (Z := ZO) (Z1 := Z1) (a := zN Z) (k := 1) (kd := 21) (N := 200) (by omega) (by rw [n0]; exact h)
  unfold MkO at mA
  rw [n0] at mA
  obtain ⟨a1, a2, a3, a4, a5, a6, a7, -⟩ := mA
  exact ⟨f0.tr a1, a2, by rw [(a3 _ (by omega)).1]; exact k0, by rw [a5 0 (by decide)]; exact d0, a4, by rw [a5 2 (by decide)]; exact d2, a6, a7⟩
def ShF (Z Z1 : Zt) : Prop := Fr (zN Z) Z Z1 ∧ zN Z1 = zN Z + 2 ∧ (zK Z1 (zN Z) = 6 ∧ zF Z1 0 (zN Z) = .ref (zN Z + 1) ∧ zF Z1 1 (zN Z) = .int 0 ∧ zF Z1 2 (zN Z) = .int 0 ∧ zF Z1 3 (zN Z) = .int 0) ∧ zK Z1 (zN Z + 1) = 21 ∧ zL Z1 (zN Z + 1) = 12 ∧ zJ Z1 (zN Z + 1) = (fun _ => 0)
theorem shelf_f {Z Z1 : Zt} (h : Z1 = sF (sF (nA (nO Z 6 (fun k => defaultValue (tyTab 5 k))) 21 12) 0 (zN Z) (.ref (zN Z + 1))) 1 (zN Z) (.int 0)) : ShF Z Z1 := by
  generalize hO : nO Z 6 (fun k => defaultValue (tyTab 5 k)) = ZO at h
  have f0 : Fr (zN Z) Z ZO := by rw [← hO]; exact Fr_nO (Nat.le_refl _)
  have n0 : zN ZO = zN Z + 1 := by rw [← hO]; exact zN_nO
  have k0 : zK ZO (zN Z) = 6 := by rw [← hO]; exact zK_nO'
  have d2 : zF ZO 2 (zN Z) = .int 0 := by rw [← hO]; exact zF_nO'
  have d3 : zF ZO 3 (zN Z) = .int 0 := by rw [← hO]; exact zF_nO'
  generalize hA : sF (nA ZO 21 12) 0 (zN Z) (.ref (zN Z + 1)) = ZA at h
  have mA := mko_f (Z := ZO) (Z1 := ZA) (a := zN Z) (k := 0) (kd := 21) (N := 12) (by omega) (by rw [n0]; exact hA.symm)
  unfold MkO at mA
  rw [n0] at mA
  obtain ⟨a1, a2, a3, a4, a5, a6, a7, -, a9⟩ := mA
  subst h
  have e : ∀ j, j ≠ 1 → zF (sF ZA 1 (zN Z) (.int 0)) j (zN Z) = zF ZA j (zN Z) := fun j hj => by rw [zF_sF, if_neg (fun z => hj z.1)]
  exact ⟨(f0.tr a1).tr (Fr_sF (Nat.le_refl _)), by rw [zN_sF]; exact a2, ⟨by rw [zK_sF, (a3 _ (by omega)).1]; exact k0, by rw [e 0 (by decide)]; exact a4, by rw [zF_sF, if_pos ⟨rfl, rfl⟩], by rw [e 2 (by decide), a5 2 (by decide)]; exact d2, by rw [e 3 (by decide), a5 3 (by decide)]; exact d3⟩, by rw [zK_sF]; exact a6, by rw [zL_sF]; exact a7, by rw [zJ_sF]; exact a9⟩
def BoF (n : Int32) (Z Z1 : Zt) : Prop := Fr (zN Z) Z Z1 ∧ zN Z1 = zN Z + 2 ∧ (zK Z1 (zN Z) = 1 ∧ zF Z1 0 (zN Z) = .ref (zN Z + 1) ∧ zF Z1 1 (zN Z) = .int n) ∧ zK Z1 (zN Z + 1) = 20 ∧ zL Z1 (zN Z + 1) = 3 ∧ zI Z1 (zN Z + 1) = (fun _ => 0)
theorem box_f {Z Z1 : Zt} {n : Int32} (h : Z1 = sF (sF (nA (nO Z 1 (fun k => defaultValue (tyTab 0 k))) 20 3) 0 (zN Z) (.ref (zN Z + 1))) 1 (zN Z) (.int n)) : BoF n Z Z1 := by
  generalize hO : nO Z 1 (fun k => defaultValue (tyTab 0 k)) = ZO at h
  have f0 : Fr (zN Z) Z ZO := by rw [← hO]; exact Fr_nO (Nat.le_refl _)
  have n0 : zN ZO = zN Z + 1 := by rw [← hO]; exact zN_nO
  have k0 : zK ZO (zN Z) = 1 := by rw [← hO]; exact zK_nO'
  generalize hA : sF (nA ZO 20 3) 0 (zN Z) (.ref (zN Z + 1)) = ZA at h
  have mA := mko_f (Z := ZO) (Z1 := ZA) (a := zN Z) (k := 0) (kd := 20) (N := 3) (by omega) (by rw [n0]; exact hA.symm)
  unfold MkO at mA
  rw [n0] at mA
  obtain ⟨a1, a2, a3, a4, a5, a6, a7, a8, -⟩ := mA
  subst h
  have e : ∀ j, j ≠ 1 → zF (sF ZA 1 (zN Z) (.int n)) j (zN Z) = zF ZA j (zN Z) := fun j hj => by rw [zF_sF, if_neg (fun z => hj z.1)]
  exact ⟨(f0.tr a1).tr (Fr_sF (Nat.le_refl _)), by rw [zN_sF]; exact a2, ⟨by rw [zK_sF, (a3 _ (by omega)).1]; exact k0, by rw [e 0 (by decide)]; exact a4, by rw [zF_sF, if_pos ⟨rfl, rfl⟩]⟩, by rw [zK_sF]; exact a6, by rw [zL_sF]; exact a7, by rw [zI_sF]; exact a8⟩
/-- all but shelves and boxes -/
def CA (Z0 : Zt) (x : Nat) (Z : Zt) : Prop := zN Z = x + 12 ∧ WN Z ∧
  (zK Z x = 11 ∧ zF Z 0 x = .ref (x + 1) ∧ zF Z 1 x = .ref (x + 2) ∧ zF Z 2 x = .ref (x + 3) ∧ zF Z 3 x = .ref (x + 4) ∧ zF Z 6 x = .ref (x + 5) ∧ zF Z 7 x = .ref (x + 9) ∧ zF Z 8 x = .ref (x + 11)) ∧
  (zK Z (x + 1) = 25 ∧ zL Z (x + 1) = 6 ∧ zK Z (x + 2) = 23 ∧ zL Z (x + 2) = 3 ∧ zK Z (x + 3) = 24 ∧ zL Z (x + 3) = 20 ∧ zK Z (x + 4) = 26 ∧ zL Z (x + 4) = 20) ∧
  (zK Z (x + 5) = 10 ∧ zF Z 0 (x + 5) = .ref (x + 6) ∧ zF Z 1 (x + 5) = .ref (x + 7) ∧ zF Z 2 (x + 5) = .ref (x + 8) ∧ zK Z (x + 6) = 21 ∧ zL Z (x + 6) = 20 ∧ zK Z (x + 7) = 20 ∧ zL Z (x + 7) = 20 ∧ zK Z (x + 8) = 20 ∧ zL Z (x + 8) = 20) ∧
  (zK Z (x + 9) = 5 ∧ zF Z 1 (x + 9) = .ref (x + 10) ∧ zK Z (x + 10) = 21 ∧ zL Z (x + 10) = 200 ∧ zK Z (x + 11) = 21 ∧ zL Z (x + 11) = 1200) ∧
  (zF Z 3 (x + 5) = .int 0 ∧ zF Z 4 (x + 5) = .int 0 ∧ zF Z 5 (x + 5) = .int (-1) ∧ zF Z 0 (x + 9) = .null ∧ zF Z 2 (x + 9) = .int 0 ∧ zF Z 4 x = .int 0 ∧ zF Z 5 x = .int 0) ∧ ∀ b, b < x → Eq1 Z0 Z b
theorem ci_A {Z0 Z1 Z2 Z3 Z4 Za Z5 Zb Z6 Z7 : Zt} {x : Nat} (hN : zN Z0 = x + 1) (hK : zK Z0 x = 11) (hW : WN Z0) (h4 : zF Z0 4 x = .int 0) (h5 : zF Z0 5 x = .int 0) (m1 : MkA x 0 25 6 Z0 Z1) (m2 : MkA x 1 23 3 Z1 Z2) (m3 : MkA x 2 24 20 Z2 Z3) (m4 : MkA x 3 26 20 Z3 Z4) (t : TaF Z4 Za) (p5 : PuX x 6 (.ref (zN Z4)) Za Z5) (r : RaF Z5 Zb) (p6 : PuX x 7 (.ref (zN Z5)) Zb Z6) (m7 : MkA x 8 21 1200 Z6 Z7) : CA Z0 x Z7 := by
  obtain ⟨g1, n1, f1, e1, k1, l1⟩ := m1
  obtain ⟨g2, n2, f2, e2, k2, l2⟩ := m2
  obtain ⟨g3, n3, f3, e3, k3, l3⟩ := m3
  obtain ⟨g4, n4, f4, e4, k4, l4⟩ := m4
  obtain ⟨ft, nt, ⟨t1, t2, t3, t4, t5, t6, t7⟩, t8, t9, t10, t11, t12, t13⟩ := t
  obtain ⟨g5, n5, f5, e5⟩ := p5
  obtain ⟨fr, nr, r1, r2, r3, r4, r5, r6⟩ := r
  obtain ⟨g6, n6, f6, e6⟩ := p6
  obtain ⟨g7, n7, f7, e7, k7, l7⟩ := m7
  have hx4 : x < zN Z4 := by omega
  have hx5 : x < zN Z5 := by omega
  have G6 := g6.tr g7
  have Gb := (fr.gr hx5).tr G6
  have G5 := g5.tr Gb
  have Ga := (ft.gr hx4).tr G5
  have G4 := g4.tr Ga
  have G3 := g3.tr G4
  have G2 := g2.tr G3
  have G1 := g1.tr G2
  have er : ∀ j, zF Zb j x = zF Z5 j x := (fr.2.2 x hx5).2.2.2.2.2
  have et : ∀ j, zF Za j x = zF Z4 j x := (ft.2.2 x hx4).2.2.2.2.2
  have N1 : zN Z1 = x + 2 := by omega
  have N2 : zN Z2 = x + 3 := by omega
  have N3 : zN Z3 = x + 4 := by omega
  have N4 : zN Z4 = x + 5 := by omega
  have N5 : zN Z5 = x + 9 := by omega
  have N6 : zN Z6 = x + 11 := by omega
  have Na : zN Za = x + 9 := by omega
  have Nb : zN Zb = x + 11 := by omega
  rw [hN] at f1 k1 l1
  rw [N1] at f2 k2 l2
  rw [N2] at f3 k3 l3
  rw [N3] at f4 k4 l4
  rw [N4] at f5 t1 t2 t3 t4 t5 t6 t7 t8 t9 t10 t11 t12 t13
  rw [N5] at f6 r1 r2 r3 r4 r5 r6
  rw [N6] at f7 k7 l7
  have E1 := G2.2.1 (x + 1) (by omega) (by omega)
  have E2 := G3.2.1 (x + 2) (by omega) (by omega)
  have E3 := G4.2.1 (x + 3) (by omega) (by omega)
  have E4 := Ga.2.1 (x + 4) (by omega) (by omega)
  have E5 := G5.2.1 (x + 5) (by omega) (by omega)
  have E6 := G5.2.1 (x + 5 + 1) (by omega) (by omega)
  have E7 := G5.2.1 (x + 5 + 2) (by omega) (by omega)
  have E8 := G5.2.1 (x + 5 + 3) (by omega) (by omega)
  have E9 := G6.2.1 (x + 9) (by omega) (by omega)
  have E10 := G6.2.1 (x + 9 + 1) (by omega) (by omega)
  refine ⟨by omega, G1.2.2.2 hW, ⟨G1.2.2.1.trans hK, ?_, ?_, ?_, ?_, ?_, ?_, f7⟩, ⟨E1.1.trans k1, E1.2.1.trans l1, E2.1.trans k2, E2.2.1.trans l2, E3.1.trans k3, E3.2.1.trans l3, E4.1.trans k4, E4.2.1.trans l4⟩,
    ⟨E5.1.trans t1, (E5.2.2.2.2.2 0).trans t2, (E5.2.2.2.2.2 1).trans t3, (E5.2.2.2.2.2 2).trans t4, E6.1.trans t8, E6.2.1.trans t9, E7.1.trans t10, E7.2.1.trans t11, E8.1.trans t12, E8.2.1.trans t13⟩,
    ⟨E9.1.trans r1, (E9.2.2.2.2.2 1).trans r3, E10.1.trans r5, E10.2.1.trans r6, k7, l7⟩,
    ⟨(E5.2.2.2.2.2 3).trans t5, (E5.2.2.2.2.2 4).trans t6, (E5.2.2.2.2.2 5).trans t7, (E9.2.2.2.2.2 0).trans r2, (E9.2.2.2.2.2 2).trans r4, ?_, ?_⟩, fun b hb => G1.2.1 b (by omega) (by omega)⟩
  · rw [e7 0 (by decide), e6 0 (by decide), er, e5 0 (by decide), et, e4 0 (by decide), e3 0 (by decide), e2 0 (by decide)]; exact f1
  · rw [e7 1 (by decide), e6 1 (by decide), er, e5 1 (by decide), et, e4 1 (by decide), e3 1 (by decide)]; exact f2
  · rw [e7 2 (by decide), e6 2 (by decide), er, e5 2 (by decide), et, e4 2 (by decide)]; exact f3
  · rw [e7 3 (by decide), e6 3 (by decide), er, e5 3 (by decide), et]; exact f4
  · rw [e7 6 (by decide), e6 6 (by decide), er]; exact f5
  · rw [e7 7 (by decide)]; exact f6
  · rw [e7 4 (by decide), e6 4 (by decide), er, e5 4 (by decide), et, e4 4 (by decide), e3 4 (by decide), e2 4 (by decide), e1 4 (by decide)]; exact h4
  · rw [e7 5 (by decide), e6 5 (by decide), er, e5 5 (by decide), et, e4 5 (by decide), e3 5 (by decide), e2 5 (by decide), e1 5 (by decide)]; exact h5
def SL (Za : Zt) (x k : Nat) (Z : Zt) : Prop := zN Z = x + 12 + 2 * k ∧ WN Z ∧ (∀ b, b < x + 12 → b ≠ x + 1 → Eq1 Za Z b) ∧ zK Z (x + 1) = 25 ∧ zL Z (x + 1) = 6 ∧ ∀ j, j < k → (zR Z (x + 1) j = some (x + 12 + 2 * j) ∧ zK Z (x + 12 + 2 * j) = 6 ∧ zF Z 0 (x + 12 + 2 * j) = .ref (x + 13 + 2 * j) ∧ zK Z (x + 13 + 2 * j) = 21 ∧ zL Z (x + 13 + 2 * j) = 12) ∧ zF Z 1 (x + 12 + 2 * j) = .int 0 ∧ zF Z 2 (x + 12 + 2 * j) = .int 0 ∧ zF Z 3 (x + 12 + 2 * j) = .int 0 ∧ zJ Z (x + 13 + 2 * j) = (fun _ => 0)
theorem Eq1_sR {Z : Zt} {a i b : Nat} {v : Option Nat} (h : b ≠ a) : Eq1 Z (sR Z a i v) b := ⟨rfl, rfl, rfl, rfl, by rw [zR_sR, if_neg h], fun _ => rfl⟩
theorem SL_step {Za Z Zs Z1 : Zt} {x k : Nat} (h : SL Za x k Z) (hs : ShF Z Zs) (h1 : sR Zs (x + 1) k (some (zN Z)) = Z1) : SL Za x (k + 1) Z1 := by
  subst h1
  obtain ⟨a1, a2, a3, a4, a5, a6⟩ := h
  obtain ⟨s1, s2, ⟨s3, s4, s5, s6, s7⟩, s8, s9, s10⟩ := hs
  have X1 := s1.2.2 (x + 1) (by omega)
  refine ⟨by rw [zN_sR]; omega, s1.wn a2, fun b h1 h2 => ((a3 b h1 h2).tr (s1.2.2 b (by omega))).tr (Eq1_sR h2), X1.1.trans a4, X1.2.1.trans a5, fun j hj => ?_⟩
  by_cases c : j = k
  · subst c
    have e0 : zN Z = x + 12 + 2 * j := a1
    have e1 : zN Z + 1 = x + 13 + 2 * j := by omega
    rw [e1] at s4 s8 s9 s10
    rw [e0] at s3 s4 s5 s6 s7
    rw [zR_sR, if_pos rfl, zK_sR, zL_sR, zF_sR, zJ_sR, e0]
    exact ⟨⟨if_pos rfl, s3, s4, s8, s9⟩, s5, s6, s7, s10⟩
  · obtain ⟨⟨c1, c2, c3, c4, c5⟩, c6, c7, c8, c9⟩ := a6 j (by omega)
    have Y1 := s1.2.2 (x + 12 + 2 * j) (by omega)
    have Y2 := s1.2.2 (x + 13 + 2 * j) (by omega)
    rw [zR_sR, if_pos rfl, zK_sR, zL_sR, zF_sR, zJ_sR]
    exact ⟨⟨(if_neg c).trans (by rw [X1.2.2.2.2.1]; exact c1), Y1.1.trans c2, (Y1.2.2.2.2.2 0).trans c3, Y2.1.trans c4, Y2.2.1.trans c5⟩, (Y1.2.2.2.2.2 1).trans c6, (Y1.2.2.2.2.2 2).trans c7, (Y1.2.2.2.2.2 3).trans c8, Y2.2.2.2.1.trans c9⟩
def BL (Zb : Zt) (x k : Nat) (Z : Zt) : Prop := zN Z = x + 24 + 2 * k ∧ WN Z ∧ (∀ b, b < x + 24 → b ≠ x + 2 → Eq1 Zb Z b) ∧ zK Z (x + 2) = 23 ∧ zL Z (x + 2) = 3 ∧ ∀ j, j < k → (zR Z (x + 2) j = some (x + 24 + 2 * j) ∧ zK Z (x + 24 + 2 * j) = 1 ∧ zF Z 0 (x + 24 + 2 * j) = .ref (x + 25 + 2 * j) ∧ zF Z 1 (x + 24 + 2 * j) = .int (nI j) ∧ zK Z (x + 25 + 2 * j) = 20 ∧ zL Z (x + 25 + 2 * j) = 3) ∧ zI Z (x + 25 + 2 * j) = (fun _ => 0)
theorem BL_step {Zb Z Zs Z1 : Zt} {x k : Nat} (h : BL Zb x k Z) (hs : BoF (nI k) Z Zs) (h1 : sR Zs (x + 2) k (some (zN Z)) = Z1) : BL Zb x (k + 1) Z1 := by
  subst h1
  obtain ⟨a1, a2, a3, a4, a5, a6⟩ := h
  obtain ⟨s1, s2, ⟨s3, s4, s5⟩, s8, s9, s10⟩ := hs
  have X1 := s1.2.2 (x + 2) (by omega)
  refine ⟨by rw [zN_sR]; omega, s1.wn a2, fun b h1 h2 => ((a3 b h1 h2).tr (s1.2.2 b (by omega))).tr (Eq1_sR h2), X1.1.trans a4, X1.2.1.trans a5, fun j hj => ?_⟩
  by_cases c : j = k
  · subst c
    have e0 : zN Z = x + 24 + 2 * j := a1
    have e1 : zN Z + 1 = x + 25 + 2 * j := by omega
    rw [e1] at s4 s8 s9 s10
    rw [e0] at s3 s4 s5
    rw [zR_sR, if_pos rfl, zK_sR, zL_sR, zF_sR, zI_sR, e0]
    exact ⟨⟨if_pos rfl, s3, s4, s5, s8, s9⟩, s10⟩
  · obtain ⟨⟨c1, c2, c3, c4, c5, c6⟩, c9⟩ := a6 j (by omega)
    have Y1 := s1.2.2 (x + 24 + 2 * j) (by omega)
    have Y2 := s1.2.2 (x + 25 + 2 * j) (by omega)
    rw [zR_sR, if_pos rfl, zK_sR, zL_sR, zF_sR, zI_sR]
    exact ⟨⟨(if_neg c).trans (by rw [X1.2.2.2.2.1]; exact c1), Y1.1.trans c2, (Y1.2.2.2.2.2 0).trans c3, (Y1.2.2.2.2.2 1).trans c4, Y2.1.trans c5, Y2.2.1.trans c6⟩, Y2.2.2.1.trans c9⟩
/-- a new object of the class -/
def CI (Z0 : Zt) (x : Nat) (Z : Zt) : Prop := zN Z = x + 30 ∧ WN Z ∧ CL0 Z x ∧ (∀ k, k < 6 → zF Z 1 (x + 12 + 2 * k) = .int 0 ∧ zF Z 2 (x + 12 + 2 * k) = .int 0 ∧ zF Z 3 (x + 12 + 2 * k) = .int 0 ∧ zJ Z (x + 13 + 2 * k) = (fun _ => 0)) ∧ (∀ k, k < 3 → zI Z (x + 25 + 2 * k) = (fun _ => 0)) ∧
  (zF Z 3 (x + 5) = .int 0 ∧ zF Z 4 (x + 5) = .int 0 ∧ zF Z 5 (x + 5) = .int (-1) ∧ zF Z 0 (x + 9) = .null ∧ zF Z 2 (x + 9) = .int 0 ∧ zF Z 4 x = .int 0 ∧ zF Z 5 x = .int 0) ∧ ∀ b, b < x → Eq1 Z0 Z b
theorem ci_end {Z0 Za Zb Z : Zt} {x : Nat} (hA : CA Z0 x Za) (hS : SL Za x 6 Zb) (hB : BL Zb x 3 Z) : CI Z0 x Z := by
  obtain ⟨a1, a2, ⟨a3, a4, a5, a6, a7, a8, a9, a10⟩, ⟨b1, b2, b3, b4, b5, b6, b7, b8⟩, ⟨c1, c2, c3, c4, c5, c6, c7, c8, c9, c10⟩, ⟨d1, d2, d3, d4, d5, d6⟩, ⟨e1, e2, e3, e4, e5, e6, e7⟩, f⟩ := hA
  obtain ⟨s1, s2, s3, s4, s5, s6⟩ := hS
  obtain ⟨t1, t2, t3, t4, t5, t6⟩ := hB
  have E : ∀ b, b < x + 12 → b ≠ x + 1 → b ≠ x + 2 → Eq1 Za Z b := fun b h1 h2 h3 => (s3 b h1 h2).tr (t3 b (by omega) h3)
  have K : ∀ {b v : Nat}, b < x + 12 → b ≠ x + 1 → b ≠ x + 2 → zK Za b = v → zK Z b = v := fun h1 h2 h3 h => (E _ h1 h2 h3).1.trans h
  have L : ∀ {b v : Nat}, b < x + 12 → b ≠ x + 1 → b ≠ x + 2 → zL Za b = v → zL Z b = v := fun h1 h2 h3 h => (E _ h1 h2 h3).2.1.trans h
  have F : ∀ {k b : Nat} {v : Value}, b < x + 12 → b ≠ x + 1 → b ≠ x + 2 → zF Za k b = v → zF Z k b = v := fun h1 h2 h3 h => ((E _ h1 h2 h3).2.2.2.2.2 _).trans h
  have E1 := t3 (x + 1) (by omega) (by omega)
  refine ⟨by omega, t2, ⟨⟨K (by omega) (by omega) (by omega) a3, F (by omega) (by omega) (by omega) a4, F (by omega) (by omega) (by omega) a5, F (by omega) (by omega) (by omega) a6, F (by omega) (by omega) (by omega) a7, F (by omega) (by omega) (by omega) a8, F (by omega) (by omega) (by omega) a9, F (by omega) (by omega) (by omega) a10⟩,
    ⟨E1.1.trans s4, E1.2.1.trans s5, t4, t5, K (by omega) (by omega) (by omega) b5, L (by omega) (by omega) (by omega) b6, K (by omega) (by omega) (by omega) b7, L (by omega) (by omega) (by omega) b8⟩,
    ⟨K (by omega) (by omega) (by omega) c1, F (by omega) (by omega) (by omega) c2, F (by omega) (by omega) (by omega) c3, F (by omega) (by omega) (by omega) c4, K (by omega) (by omega) (by omega) c5, L (by omega) (by omega) (by omega) c6, K (by omega) (by omega) (by omega) c7, L (by omega) (by omega) (by omega) c8, K (by omega) (by omega) (by omega) c9, L (by omega) (by omega) (by omega) c10⟩,
    ⟨K (by omega) (by omega) (by omega) d1, F (by omega) (by omega) (by omega) d2, K (by omega) (by omega) (by omega) d3, L (by omega) (by omega) (by omega) d4, K (by omega) (by omega) (by omega) d5, L (by omega) (by omega) (by omega) d6⟩, fun k hk => ?_, fun k hk => (t6 k hk).1⟩, fun k hk => ?_, fun k hk => (t6 k hk).2,
    ⟨F (by omega) (by omega) (by omega) e1, F (by omega) (by omega) (by omega) e2, F (by omega) (by omega) (by omega) e3, F (by omega) (by omega) (by omega) e4, F (by omega) (by omega) (by omega) e5, F (by omega) (by omega) (by omega) e6, F (by omega) (by omega) (by omega) e7⟩, fun b hb => (f b hb).tr (E b (by omega) (by omega) (by omega))⟩
  · obtain ⟨⟨g1, g2, g3, g4, g5⟩, -⟩ := s6 k hk
    have Y1 := t3 (x + 12 + 2 * k) (by omega) (by omega)
    have Y2 := t3 (x + 13 + 2 * k) (by omega) (by omega)
    exact ⟨by rw [E1.2.2.2.2.1]; exact g1, Y1.1.trans g2, (Y1.2.2.2.2.2 0).trans g3, Y2.1.trans g4, Y2.2.1.trans g5⟩
  · obtain ⟨-, g1, g2, g3, g4⟩ := s6 k hk
    have Y1 := t3 (x + 12 + 2 * k) (by omega) (by omega)
    have Y2 := t3 (x + 13 + 2 * k) (by omega) (by omega)
    exact ⟨(Y1.2.2.2.2.2 1).trans g1, (Y1.2.2.2.2.2 2).trans g2, (Y1.2.2.2.2.2 3).trans g3, Y2.2.2.2.1.trans g4⟩
theorem CR_0 {Z0 Z Z1 : Zt} {x : Nat} {af as : Nat → Nat} (h : CI Z0 x Z) (e : ∀ b, x ≤ b → b < x + 30 → Eq1 Z Z1 b) (hW : WN Z1) (hN : x + 61 ≤ zN Z1) : CR Z1 x σ0 af as 0 0 := by
  obtain ⟨a1, a2, a3, a4, a5, ⟨e1, e2, e3, e4, e5, e6, e7⟩, -⟩ := h
  have F : ∀ {k b : Nat} {v : Value}, x ≤ b → b < x + 30 → zF Z k b = v → zF Z1 k b = v := fun h1 h2 h => ((e _ h1 h2).2.2.2.2.2 _).trans h
  have hC : CL0 Z1 x := a3.ss ⟨fun a h1 h2 => ⟨(e a h1 h2).1, (e a h1 h2).2.1⟩, fun k a hf => (e a (by unfold fixF at hf; omega) (by unfold fixF at hf; omega)).2.2.2.2.2 k, (e (x + 1) (by omega) (by omega)).2.2.2.2.1, (e (x + 2) (by omega) (by omega)).2.2.2.2.1⟩
  refine ⟨⟨hC, fun k hk => ?_, fun k i hk hi => ?_, ⟨F (by omega) (by omega) e2, ⟨-1, F (by omega) (by omega) e3, fun z => absurd z (by decide)⟩, 0, by omega, rfl⟩, rfl, by omega, fun f hf => absurd hf (Nat.not_lt_zero _)⟩, fun s hs => absurd hs (Nat.not_lt_zero _), ⟨0, by omega, rfl, F (by omega) (by omega) e1, fun i hi => absurd hi (Nat.not_lt_zero _)⟩, Or.inl ⟨rfl, F (by omega) (by omega) e4, 0, by omega, rfl, F (by omega) (by omega) e5, fun i hi => absurd hi (Nat.not_lt_zero _)⟩,
    ⟨F (by omega) (by omega) e6, F (by omega) (by omega) e7, rfl, by omega, fun f hf => absurd hf (Nat.not_lt_zero _), fun s hs => absurd hs (Nat.not_lt_zero _), fun s s' hs => absurd hs (Nat.not_lt_zero _)⟩, hW, hN⟩
  · obtain ⟨c1, c2, c3, c4⟩ := a4 k hk
    exact ⟨F (by omega) (by omega) c1, F (by omega) (by omega) c2, ⟨0, F (by omega) (by omega) c3, fun z => absurd (show (0 : Int32) = 3 from z) (by decide)⟩, fun i hi => by rw [(e (x + 13 + 2 * k) (by omega) (by omega)).2.2.2.1, c4]; rfl, 0, by omega, rfl⟩
  · rw [(e (x + 25 + 2 * k) (by omega) (by omega)).2.2.1, a5 k hk]; rfl
set_option maxHeartbeats 600000 in
set_option maxRecDepth 100000 in
theorem ci_boxes (l : Launch) (G : Gt) (M : Mt) (Z0 Za Zb : Zt) (x : Nat) (hA : CA Z0 x Za) (hS : SL Za x 6 Zb) : ∀ (m k : Nat) (Z : Zt), k + m = 3 → BL Zb x k Z → Jd l G YX11_init (2, 29, 1629) M Z (11 + 12 + 2 * k) (1518 + 96 + 5 * k) (Qm G (2, 29, 1629) M (ΦV (CI Z0 x))) 99 [some (.ref x), some (.int (nI k))] [] := by
  have hX : ∀ {k : Nat} {Z : Zt}, BL Zb x k Z → zK Z x = 10 + 1 ∧ zF Z 1 x = .ref (x + 2) := fun h => ⟨(h.2.2.1 x (by omega) (by omega)).1.trans ((hS.2.2.1 x (by omega) (by omega)).1.trans hA.2.2.1.1), ((h.2.2.1 x (by omega) (by omega)).2.2.2.2.2 1).trans (((hS.2.2.1 x (by omega) (by omega)).2.2.2.2.2 1).trans hA.2.2.1.2.2.1)⟩
  intro m
  induction m with
  | zero =>
    intro k Z hk hB
    obtain rfl : k = 3 := by omega
    refine q_iload_n dX11_init_99 rfl ?_
    refine q_iconst (v := 3) dX11_init_100 (by decide) ?_
    refine q_icmp_ge 124 dX11_init_101 (by decide) (fun c101 => ?_) (fun c101 => absurd c101 (not_not_intro (by decide)))
    exact q_return dX11_init_124 rfl (show 11 + 12 + 2 * 3 ≤ 29 by decide) (show 1518 + 96 + 5 * 3 ≤ 1629 by decide) (ci_end hA hS hB)
  | succ m ih =>
    intro k Z hk hB
    have hzn := hB.1
    refine q_iload_n dX11_init_99 rfl ?_
    refine q_iconst (v := 3) dX11_init_100 (by decide) ?_
    refine q_icmp_ge 124 dX11_init_101 (by decide) (fun c101 => absurd c101 (nI_ge (b := 3) (by omega) (by decide))) (fun c101 => ?_)
    first | refine q_aload_n dX11_init_104 rfl ?_ | refine q_aload_nN dX11_init_104 rfl ?_
    refine q_getf dX11_init_105 fk_X11_17_10 (hX hB).1 (hX hB).2 ?_
    refine q_iload_n dX11_init_108 rfl ?_
    refine q_new dX11_init_109 nk_X11_15 rfl (show 11 + 12 + 2 * k + 1 ≤ 29 by omega) (show 1518 + 96 + 5 * k + 2 ≤ 1629 by omega) ?_
    refine q_dup dX11_init_112 rfl ?_
    refine q_iload_n dX11_init_113 rfl ?_
    refine q_callI dX11_init_114 mk_X11_52 rfl (c_X0_init l G _ (zN Z) (nI k) zK_nO' (by rw [zN_nO]; omega)) rfl np_X0_init (by decide) (show 11 + 12 + 2 * k + 1 + 1 ≤ 29 by omega) (show 1518 + 96 + 5 * k + 2 + 3 ≤ 1629 by omega) (Nat.le_of_ble_eq_true rfl) (kV (fun Zs hs => ?_))
    rw [zN_nO] at hs
    have bf := box_f hs
    refine q_aast 0 0 RX0 _ dX11_init_117 (by decide) rfl ((bf.1.2.2 (x + 2) (by omega)).1.trans hB.2.2.2.1) (by rw [(bf.1.2.2 (x + 2) (by omega)).2.1, hB.2.2.2.2.1]; exact vp_in_nI (by omega) (by decide)) bf.2.2.1.1 rfl (Or.inl rfl) ?_
    rw [nI_clamp (by omega)]
    generalize h9 : sR Zs (x + 2) k (some (zN Z)) = Z9
    have hB9 := BL_step hB bf h9
    refine q_iinc 1 (ls' := [_, _]) dX11_init_118 rfl (by decide) rfl rfl (Nat.le_of_ble_eq_true rfl) (by decide) ?_
    refine q_goto 99 dX11_init_121 (by decide) ?_
    rw [nI_1]
    exact ih (k + 1) Z9 (by omega) hB9
set_option maxHeartbeats 600000 in
set_option maxRecDepth 100000 in
theorem ci_shelves (l : Launch) (G : Gt) (M : Mt) (Z0 Za : Zt) (x : Nat) (hA : CA Z0 x Za) : ∀ (m k : Nat) (Z : Zt), k + m = 6 → SL Za x k Z → Jd l G YX11_init (2, 29, 1629) M Z (11 + 2 * k) (1518 + 16 * k) (Qm G (2, 29, 1629) M (ΦV (CI Z0 x))) 72 [some (.ref x), some (.int (nI k))] [] := by
  have hX : ∀ {k : Nat} {Z : Zt}, SL Za x k Z → zK Z x = 10 + 1 ∧ zF Z 0 x = .ref (x + 1) := fun h => ⟨(h.2.2.1 x (by omega) (by omega)).1.trans hA.2.2.1.1, ((h.2.2.1 x (by omega) (by omega)).2.2.2.2.2 0).trans hA.2.2.1.2.1⟩
  intro m
  induction m with
  | zero =>
    intro k Z hk hS
    obtain rfl : k = 6 := by omega
    refine q_iload_n dX11_init_72 rfl ?_
    refine q_bipush (v := 6) dX11_init_73 (by decide) ?_
    refine q_icmp_ge 97 dX11_init_75 (by decide) (fun c75 => ?_) (fun c75 => absurd c75 (not_not_intro (by decide)))
    refine q_iconst (v := 0) dX11_init_97 (by decide) ?_
    refine q_istore_n (ls' := [_, _]) dX11_init_98 rfl rfl (Nat.le_of_ble_eq_true rfl) (by decide) ?_
    have hB0 : BL Z x 0 Z := ⟨by rw [hS.1], hS.2.1, fun b _ _ => Eq1.rf Z b, (hS.2.2.1 (x + 2) (by omega) (by omega)).1.trans hA.2.2.2.1.2.2.1, (hS.2.2.1 (x + 2) (by omega) (by omega)).2.1.trans hA.2.2.2.1.2.2.2.1, fun j hj => absurd hj (Nat.not_lt_zero _)⟩
    exact ci_boxes l G M Z0 Za Z x hA hS 3 0 Z rfl hB0
  | succ m ih =>
    intro k Z hk hS
    have hzn := hS.1
    refine q_iload_n dX11_init_72 rfl ?_
    refine q_bipush (v := 6) dX11_init_73 (by decide) ?_
    refine q_icmp_ge 97 dX11_init_75 (by decide) (fun c75 => absurd c75 (nI_ge (b := 6) (by omega) (by decide))) (fun c75 => ?_)
    first | refine q_aload_n dX11_init_78 rfl ?_ | refine q_aload_nN dX11_init_78 rfl ?_
    refine q_getf dX11_init_79 fk_X11_11_10 (hX hS).1 (hX hS).2 ?_
    refine q_iload_n dX11_init_82 rfl ?_
    refine q_new dX11_init_83 nk_X11_9 rfl (show 11 + 2 * k + 1 ≤ 29 by omega) (show 1518 + 16 * k + 4 ≤ 1629 by omega) ?_
    refine q_dup dX11_init_86 rfl ?_
    refine q_callIN dX11_init_87 mn_X11_51 rfl (c_X6_init l G _ (zN Z) zK_nO' (by rw [zN_nO]; omega)) rfl np_X6_init (by decide) (show 11 + 2 * k + 1 + 1 ≤ 29 by omega) (show 1518 + 16 * k + 4 + 12 ≤ 1629 by omega) (Nat.le_of_ble_eq_true rfl) (kV (fun Zs hs => ?_))
    rw [zN_nO] at hs
    have bf := shelf_f hs
    refine q_aast 2 5 RX6 _ dX11_init_90 (by decide) rfl ((bf.1.2.2 (x + 1) (by omega)).1.trans hS.2.2.2.1) (by rw [(bf.1.2.2 (x + 1) (by omega)).2.1, hS.2.2.2.2.1]; exact vp_in_nI (by omega) (by decide)) bf.2.2.1.1 rfl (Or.inl rfl) ?_
    rw [nI_clamp (by omega)]
    generalize h9 : sR Zs (x + 1) k (some (zN Z)) = Z9
    have hS9 := SL_step hS bf h9
    refine q_iinc 1 (ls' := [_, _]) dX11_init_91 rfl (by decide) rfl rfl (Nat.le_of_ble_eq_true rfl) (by decide) ?_
    refine q_goto 72 dX11_init_94 (by decide) ?_
    rw [nI_1]
    exact ih (k + 1) Z9 (by omega) hS9
set_option maxHeartbeats 600000 in
set_option maxRecDepth 100000 in
theorem cc_init (l : Launch) (G : Gt) (Z0 : Zt) (x : Nat) (hN : zN Z0 = x + 1) (hK : zK Z0 x = 11) (hW : WN Z0) (h4 : zF Z0 4 x = .int 0) (h5 : zF Z0 5 x = .int 0) : Ct l G YX11_init (2, 29, 1629) Z0 [.ref x] (ΦV (CI Z0 x)) := by
  refine ct_of [some (.ref x), none] (by decide +kernel) (Nat.le_of_ble_eq_true rfl) rfl (fun M => ?_)
  have kZ0 := hK
  first | refine q_aload_n dX11_init_0 rfl ?_ | refine q_aload_nN dX11_init_0 rfl ?_
  refine q_objInit dX11_init_1 ok_X11_1 oi_m oi_c (by decide) (Nat.le_of_ble_eq_true rfl) ?_
  first | refine q_aload_n dX11_init_4 rfl ?_ | refine q_aload_nN dX11_init_4 rfl ?_
  refine q_bipush (v := 6) dX11_init_5 (by decide) ?_
  refine q_anew (w := 2) (N := 6) RX6 dX11_init_7 (by decide) rfl (by simp) ck_X11_9 (by decide) rfl (by decide) (by decide) (by decide) ?_
  refine q_putF dX11_init_10 fk_X11_11_10 rfl rfl rfl ((zK_nA (by omega)).trans kZ0) rfl rfl ?_
  generalize hZ1 : sF (nA Z0 (23 + 2) 6) 0 x (.ref (zN Z0)) = Z1
  have mZ1 := mka_f (by omega) hZ1
  have nZ1 := mZ1.2.1
  have kZ1 := mZ1.1.2.2.1.trans kZ0
  first | refine q_aload_n dX11_init_13 rfl ?_ | refine q_aload_nN dX11_init_13 rfl ?_
  refine q_iconst (v := 3) dX11_init_14 (by decide) ?_
  refine q_anew (w := 0) (N := 3) RX0 dX11_init_15 (by decide) rfl (by simp) ck_X11_15 (by decide) rfl (by decide) (by decide) (by decide) ?_
  refine q_putF dX11_init_18 fk_X11_17_10 rfl rfl rfl ((zK_nA (by omega)).trans kZ1) rfl rfl ?_
  generalize hZ2 : sF (nA Z1 (23 + 0) 3) 1 x (.ref (zN Z1)) = Z2
  have mZ2 := mka_f (by omega) hZ2
  have nZ2 := mZ2.2.1
  have kZ2 := mZ2.1.2.2.1.trans kZ1
  first | refine q_aload_n dX11_init_21 rfl ?_ | refine q_aload_nN dX11_init_21 rfl ?_
  refine q_bipush (v := 20) dX11_init_22 (by decide) ?_
  refine q_anew (w := 1) (N := 20) RX2 dX11_init_24 (by decide) rfl (by simp) ck_X11_21 (by decide) rfl (by decide) (by decide) (by decide) ?_
  refine q_putF dX11_init_27 fk_X11_23_10 rfl rfl rfl ((zK_nA (by omega)).trans kZ2) rfl rfl ?_
  generalize hZ3 : sF (nA Z2 (23 + 1) 20) 2 x (.ref (zN Z2)) = Z3
  have mZ3 := mka_f (by omega) hZ3
  have nZ3 := mZ3.2.1
  have kZ3 := mZ3.1.2.2.1.trans kZ2
  first | refine q_aload_n dX11_init_30 rfl ?_ | refine q_aload_nN dX11_init_30 rfl ?_
  refine q_bipush (v := 20) dX11_init_31 (by decide) ?_
  refine q_anew (w := 3) (N := 20) RX8 dX11_init_33 (by decide) rfl (by simp) ck_X11_27 (by decide) rfl (by decide) (by decide) (by decide) ?_
  refine q_putF dX11_init_36 fk_X11_29_10 rfl rfl rfl ((zK_nA (by omega)).trans kZ3) rfl rfl ?_
  generalize hZ4 : sF (nA Z3 (23 + 3) 20) 3 x (.ref (zN Z3)) = Z4
  have mZ4 := mka_f (by omega) hZ4
  have nZ4 := mZ4.2.1
  have kZ4 := mZ4.1.2.2.1.trans kZ3
  first | refine q_aload_n dX11_init_39 rfl ?_ | refine q_aload_nN dX11_init_39 rfl ?_
  refine q_new dX11_init_40 nk_X11_33 rfl (by decide) (by decide) ?_
  refine q_dup dX11_init_43 rfl ?_
  refine q_callIN dX11_init_44 mn_X11_35 rfl (c_X10_init l G _ (zN Z4) zK_nO' (by rw [zN_nO]; omega)) rfl np_X10_init (by decide) (by decide) (by decide) (Nat.le_of_ble_eq_true rfl) (kV (fun Za ha => ?_))
  rw [zN_nO] at ha
  have t := tally_f ha
  have nZa := t.2.1
  refine q_putF dX11_init_47 fk_X11_36_10 rfl rfl rfl ((t.1.2.2 x (by omega)).1.trans kZ4) rfl rfl ?_
  generalize hZ5 : sF Za 6 x (.ref (zN Z4)) = Z5
  have p5 := putx_f hZ5
  have nZ5 := p5.2.1
  have kZ5 := p5.1.2.2.1.trans ((t.1.2.2 x (by omega)).1.trans kZ4)
  first | refine q_aload_n dX11_init_50 rfl ?_ | refine q_aload_nN dX11_init_50 rfl ?_
  refine q_new dX11_init_51 nk_X11_40 rfl (by decide) (by decide) ?_
  refine q_dup dX11_init_54 rfl ?_
  refine q_callIN dX11_init_55 mn_X11_42 rfl (c_X5_init l G _ (zN Z5) zK_nO' (by rw [zN_nO]; omega)) rfl np_X5_init (by decide) (by decide) (by decide) (Nat.le_of_ble_eq_true rfl) (kV (fun Zb hb => ?_))
  rw [zN_nO] at hb
  have r := range_f hb
  have nZb := r.2.1
  refine q_putF dX11_init_58 fk_X11_43_10 rfl rfl rfl ((r.1.2.2 x (by omega)).1.trans kZ5) rfl rfl ?_
  generalize hZ6 : sF Zb 7 x (.ref (zN Z5)) = Z6
  have p6 := putx_f hZ6
  have nZ6 := p6.2.1
  have kZ6 := p6.1.2.2.1.trans ((r.1.2.2 x (by omega)).1.trans kZ5)
  first | refine q_aload_n dX11_init_61 rfl ?_ | refine q_aload_nN dX11_init_61 rfl ?_
  refine q_sipush (v := 1200) dX11_init_62 (by decide) ?_
  refine q_newa (w := 1) (N := 1200) dX11_init_65 rfl (by decide) ac_1 (by decide) rfl (by decide) (by decide) (by decide) ?_
  refine q_putF dX11_init_67 fk_X11_47_10 rfl rfl rfl ((zK_nA (by omega)).trans kZ6) rfl rfl ?_
  generalize hZ7 : sF (nA Z6 (20 + 1) 1200) 8 x (.ref (zN Z6)) = Z7
  have mZ7 := mka_f (by omega) hZ7
  have hA := ci_A hN hK hW h4 h5 mZ1 mZ2 mZ3 mZ4 t p5 r p6 mZ7
  refine q_iconst (v := 0) dX11_init_70 (by decide) ?_
  refine q_istore_n (ls' := [_, _]) dX11_init_71 rfl rfl (Nat.le_of_ble_eq_true rfl) (by decide) ?_
  have hS0 : SL Z7 x 0 Z7 := ⟨by rw [hA.1], hA.2.1, fun b _ _ => Eq1.rf Z7 b, hA.2.2.2.1.1, hA.2.2.2.1.2.1, fun j hj => absurd hj (Nat.not_lt_zero _)⟩
  exact ci_shelves l G M Z0 Z7 x hA 6 0 Z7 rfl hS0
