def vL : List Int32 := [0, 1, -11, -12, -13, -14, -15, -16, -17, -18]
theorem vL_01 : ∀ v ∈ vL, 0 ≤ v → v = 0 ∨ v = 1 := by decide
theorem vL_n : ∀ v ∈ vL, ¬ 0 ≤ v → ¬ -10 - v = 0 := by decide
theorem vL_8 : ∀ v ∈ vL, (-10 - v = 8 ↔ v = -18) := by decide
def f15 (σ : St) : Prop := ∃ m, m ≤ 20 ∧ σ.1 15 0 = nI m
theorem f15_fail {σ : St} (h : f15 σ) (e nm : Int32) : f15 (failS σ e nm).2 := by
  unfold failS
  by_cases c : 20 ≤ σ.1 15 0
  · rw [if_pos c]; exact h
  · rw [if_neg c]
    obtain ⟨m, hm, e1⟩ := h
    rw [e1] at c
    refine ⟨m + 1, ?_, ?_⟩
    · have : ¬ 20 ≤ m := fun z => c (show nI 20 ≤ nI m from nI_le z (by omega))
      omega
    · show (pI _ 14 0 nm).1 15 0 = _
      rw [pI_ne (by decide), pI_at, e1, nI_1]
theorem fail_v {σ : St} {e nm : Int32} (he : e ∈ ([1, 2, 3, 4, 5, 6, 7] : List Int32)) : (failS σ e nm).1 ∈ vL := by
  unfold failS
  split
  · show (-18 : Int32) ∈ vL; decide
  · have : ∀ e ∈ ([1, 2, 3, 4, 5, 6, 7] : List Int32), -10 - e ∈ vL := by decide
    exact this e he
def wOk (w : Int32 ⊕ Int32) : Prop := match w with
  | .inl e => e ∈ ([1, 2, 3, 4, 5, 6, 7] : List Int32)
  | .inr x => x = 0 ∨ x = 1
theorem out_v {σ : St} {nm : Int32} {w : Int32 ⊕ Int32} (h : wOk w) : (outS σ nm w).1 ∈ vL := by
  cases w with
  | inl e => exact fail_v h
  | inr x =>
    show x ∈ vL
    rcases h with rfl | rfl <;> decide
theorem f15_out {σ : St} (h : f15 σ) (nm : Int32) (w : Int32 ⊕ Int32) : f15 (outS σ nm w).2 := by
  cases w with
  | inl e => exact f15_fail h e nm
  | inr x => exact h
theorem wOk_01 {p : Prop} [Decidable p] : wOk (.inr (if p then 0 else 1)) := by
  show (if p then (0 : Int32) else 1) = 0 ∨ (if p then (0 : Int32) else 1) = 1
  by_cases c : p
  · rw [if_pos c]; exact Or.inl rfl
  · rw [if_neg c]; exact Or.inr rfl
theorem wOk_10 {p : Prop} [Decidable p] : wOk (.inr (if p then 1 else 0)) := by
  show (if p then (1 : Int32) else 0) = 0 ∨ (if p then (1 : Int32) else 0) = 1
  by_cases c : p
  · rw [if_pos c]; exact Or.inr rfl
  · rw [if_neg c]; exact Or.inl rfl
theorem nfV_k (kd ai : Int32) (v c : Int64) : wOk (nfV kd ai v c) := by
  unfold nfV rmV
  split
  · exact wOk_01
  · split
    · split
      · show (6 : Int32) ∈ _; decide
      · exact wOk_10
    · split
      · split
        · show (6 : Int32) ∈ _; decide
        · exact wOk_01
      · split
        · split
          · split
            · exact wOk_01
            · show (3 : Int32) ∈ _; decide
          · show (7 : Int32) ∈ _; decide
        · split
          · show (7 : Int32) ∈ _; decide
          · exact Or.inr rfl
theorem sfW_k (wt skd cn : Int32) (pj v : Int64) (it : Nat → Int64) (c : Int64) : wOk (sfW wt skd cn pj v it c) := by
  unfold sfW
  split
  · show (1 : Int32) ∈ _; decide
  · split
    · split
      · exact wOk_01
      · split
        · exact wOk_01
        · show (2 : Int32) ∈ _; decide
    · show (5 : Int32) ∈ _; decide
theorem madeR_v {k r : Int32} (h : r ∈ vL) : madeR k r ∈ vL := by
  unfold madeR
  by_cases c : k = 7 ∧ 0 ≤ r
  · rw [if_pos c]
    rcases vL_01 r h c.2 with e | e <;> rw [e] <;> decide
  · rw [if_neg c]; exact h
theorem jS_ok : ∀ (n f : Nat) (c : Int64) (σ : St), f15 σ → f15 (jS n f c σ).2 ∧ (jS n f c σ).1 ∈ vL
  | 0, f, c, σ, h => ⟨h, by show (0 : Int32) ∈ vL; decide⟩
  | n + 1, f, c, σ, h => by
    rw [jS]
    have h0 : f15 (if σ.1 7 f = 11 then pI σ 12 f (σ.1 12 f + 1) else σ) := by
      split
      · obtain ⟨m, m1, m2⟩ := h
        exact ⟨m, m1, by rw [pI_ne (by decide)]; exact m2⟩
      · exact h
    by_cases h1 : σ.1 7 f = 3 ∨ σ.1 7 f = 12
    · rw [if_pos h1]; exact ⟨f15_out h _ _, out_v (sfW_k _ _ _ _ _ _ _)⟩
    · rw [if_neg h1]
      by_cases h2 : σ.1 7 f = 5
      · rw [if_pos h2]
        by_cases h3 : tkP (σ.1 8 f) (thF c)
        · rw [if_pos h3]
          obtain ⟨m, m1, m2⟩ := h
          exact ⟨⟨m, m1, by show (pI σ 5 _ _).1 15 0 = _; rw [pI_ne (by decide)]; exact m2⟩, by show (1 : Int32) ∈ vL; decide⟩
        · rw [if_neg h3]; exact ⟨f15_fail h _ _, fail_v (by decide)⟩
      · rw [if_neg h2]
        by_cases h3 : 7 ≤ σ.1 7 f ∧ σ.1 7 f ≤ 11
        · rw [if_pos h3]
          have h4 := jS_ok n (σ.1 8 f).toNatClampNeg c _ h0
          by_cases h5 : made2 (σ.1 7 f) (jS n (σ.1 8 f).toNatClampNeg c (if σ.1 7 f = 11 then pI σ 12 f (σ.1 12 f + 1) else σ)).1
          · rw [if_pos h5]; exact jS_ok n _ c _ h4.1
          · rw [if_neg h5]; exact ⟨h4.1, madeR_v h4.2⟩
        · rw [if_neg h3]; exact ⟨f15_out h _ _, out_v (nfV_k _ _ _ _)⟩
/-- what is known of the filters, whatever the heap -/
def PFf (σ : St) (nf : Nat) : Prop := nf ≤ 20 ∧ (∀ k, k < 6 → ∃ cn, cn ≤ 12 ∧ σ.1 2 k = nI cn) ∧ (∀ k, k < 6 → σ.1 1 k ∈ ([0, 1, 2, 3] : List Int32)) ∧ ∀ f, f < nf → (0 ≤ σ.1 7 f ∧ σ.1 7 f ≤ 12) ∧ (1 ≤ dpt σ f ∧ dpt σ f ≤ 6) ∧
  ((σ.1 7 f = 3 ∨ σ.1 7 f = 12) → ∃ s, s < 6 ∧ σ.1 8 f = nI s) ∧ (σ.1 7 f = 5 → ∃ b, b < 3 ∧ σ.1 8 f = nI b) ∧
  ((7 ≤ σ.1 7 f ∧ σ.1 7 f ≤ 11) → (∃ g, g < f ∧ σ.1 8 f = nI g ∧ dpt σ g < dpt σ f) ∧ ((8 ≤ σ.1 7 f ∧ σ.1 7 f ≤ 10) → ∃ h, h < f ∧ σ.1 9 f = nI h ∧ dpt σ h < dpt σ f))
theorem PFf.cong {σ τ : St} {nf : Nat} (h : PFf σ nf) (e1 : τ.1 1 = σ.1 1) (e2 : τ.1 2 = σ.1 2) (e7 : τ.1 7 = σ.1 7) (e8 : τ.1 8 = σ.1 8) (e9 : τ.1 9 = σ.1 9) (e11 : τ.1 11 = σ.1 11) : PFf τ nf := by
  unfold PFf dpt at h ⊢
  rw [e1, e2, e7, e8, e9, e11]
  exact h
theorem PFf.kp4 {σ τ : St} {nf : Nat} (h : PFf σ nf) (k : kp4 σ τ) : PFf τ nf := h.cong (k.1 1 (by decide) (by decide) (by decide) (by decide)) (k.1 2 (by decide) (by decide) (by decide) (by decide)) (k.1 7 (by decide) (by decide) (by decide) (by decide)) (k.1 8 (by decide) (by decide) (by decide) (by decide)) (k.1 9 (by decide) (by decide) (by decide) (by decide)) (k.1 11 (by decide) (by decide) (by decide) (by decide))
theorem jS_n {n f : Nat} {c : Int64} {σ : St} (h1 : ¬ (σ.1 7 f = 3 ∨ σ.1 7 f = 12)) (h2 : ¬ σ.1 7 f = 5) (h3 : ¬ (7 ≤ σ.1 7 f ∧ σ.1 7 f ≤ 11)) : jS (n + 1) f c σ = outS σ (nI f) (nfV (σ.1 7 f) (σ.1 8 f) (σ.2 10 f) c) := by rw [jS, if_neg h1, if_neg h2, if_neg h3]
theorem jS_x {n f b : Nat} {c : Int64} {σ : St} (h : σ.1 7 f = 5) (h8 : σ.1 8 f = nI b) (hb : b < 3) : jS (n + 1) f c σ = bxS σ b c (σ.2 10 f) (nI f) := by
  rw [jS, if_neg (by rw [h]; decide), if_pos h, h8, nI_clamp (by omega)]
  rfl
theorem jS_s {n f s : Nat} {c : Int64} {σ : St} (h : σ.1 7 f = 3 ∨ σ.1 7 f = 12) (h8 : σ.1 8 f = nI s) (hs : s < 6) : jS (n + 1) f c σ = outS σ (nI f) (sfW (if σ.1 7 f = 3 then 1 else 3) (σ.1 1 s) (σ.1 2 s) (σ.2 3 s) (σ.2 10 f) (fun i => σ.2 4 (12 * s + i)) c) := by rw [jS, if_pos h, h8, nI_clamp (by omega)]
theorem jS_2 {n f g h : Nat} {c : Int64} {σ : St} (hm : 7 ≤ σ.1 7 f ∧ σ.1 7 f ≤ 11) (h11 : ¬ σ.1 7 f = 11) (h8 : σ.1 8 f = nI g) (h9 : σ.1 9 f = nI h) (hg : g < 20) (hh : h < 20) (hd : made2 (σ.1 7 f) (jS n g c σ).1) : jS (n + 1) f c σ = jS n h c (jS n g c σ).2 := by
  rw [jS, if_neg (fun z => z.elim (fun e => by rw [e] at hm; exact absurd hm (by decide)) (fun e => by rw [e] at hm; exact absurd hm (by decide))), if_neg (fun e => by rw [e] at hm; exact absurd hm (by decide)), if_pos hm, h8, h9, nI_clamp (by omega), nI_clamp (by omega), if_neg h11, if_pos hd]
theorem jS_1 {n f g : Nat} {c : Int64} {σ σ1 : St} (hm : 7 ≤ σ.1 7 f ∧ σ.1 7 f ≤ 11) (hs : (if σ.1 7 f = 11 then pI σ 12 f (σ.1 12 f + 1) else σ) = σ1) (h8 : σ.1 8 f = nI g) (hg : g < 20) (hd : ¬ made2 (σ.1 7 f) (jS n g c σ1).1) : jS (n + 1) f c σ = (madeR (σ.1 7 f) (jS n g c σ1).1, (jS n g c σ1).2) := by
  rw [jS, if_neg (fun z => z.elim (fun e => by rw [e] at hm; exact absurd hm (by decide)) (fun e => by rw [e] at hm; exact absurd hm (by decide))), if_neg (fun e => by rw [e] at hm; exact absurd hm (by decide)), if_pos hm, h8, nI_clamp (by omega), hs, if_neg hd]
theorem div_m1 (v : Int64) : v / (-1) = -v := Int64.toInt_inj.mp (by
  rw [Int64.toInt_div, show (-1 : Int64).toInt = -1 by decide, Int64.toInt_neg v, Int.tdiv_neg, Int.tdiv_one])
theorem rem_m1 (c : Int64) : c - c / (-1) * (-1) = 0 := by
  rw [div_m1, Int64.mul_neg, Int64.mul_one, Int64.neg_neg, Int64.sub_self]
theorem i64_0 {a : Int32} : 0 = a.toInt64 ↔ a = 0 := by
  refine ⟨fun h => Int32.toInt_inj.mp ?_, fun h => by rw [h]; rfl⟩
  have := congrArg Int64.toInt h
  rw [Int32.toInt_toInt64] at this
  rw [← this]; rfl
set_option maxHeartbeats 600000 in
set_option maxRecDepth 100000 in
theorem mp_0 (l : Launch) (G : Gt) (M : Mt) (Z0 Z : Zt) (y : Nat) (σ e0 : St) (wh : Int32) (hM : MR Z y σ (ex e0 0 wh)) (hF : MF y Z0 Z) (n nn : Nat) (hnn : nn ≤ 20) (h15 : σ.1 15 0 = nI nn) (f : Nat) (a : Int32) (c v : Int64)  : Jd l G YX12_passes (n + 2, 0, 0) M Z 0 0 (Qm G (n + 2, 0, 0) M (ΦI (PP y Z0 e0 (outS σ (nI f) (nfV 0 a v c))))) 84 [some (.ref y), some (.int (nI f)), some (.long c), none, some (.int a), some (.long v), none, none] [] := by
  refine q_lload_n dX12_passes_84 rfl ?_
  refine q_lload dX12_passes_85 rfl ?_
  refine q_lcmp_ge 95 dX12_passes_87 dX12_passes_88 (by decide) (fun c87 => ?_) (fun c87 => ?_)
  · refine q_iconst (v := 0) dX12_passes_95 (by decide) ?_
    exact q_zreturn dX12_passes_96 rfl rfl (Nat.le_refl _) (Nat.le_refl _) (PP_ok hF hM (by rw [nfV_0, if_pos c87]; rfl) (by decide))
  · refine q_iconst (v := 1) dX12_passes_91 (by decide) ?_
    refine q_goto 96 dX12_passes_92 (by decide) ?_
    exact q_zreturn dX12_passes_96 rfl rfl (Nat.le_refl _) (Nat.le_refl _) (PP_ok hF hM (by rw [nfV_0, if_neg c87]; rfl) (by decide))
set_option maxHeartbeats 600000 in
set_option maxRecDepth 100000 in
theorem mp_1 (l : Launch) (G : Gt) (M : Mt) (Z0 Z : Zt) (y : Nat) (σ e0 : St) (wh : Int32) (hM : MR Z y σ (ex e0 0 wh)) (hF : MF y Z0 Z) (n nn : Nat) (hnn : nn ≤ 20) (h15 : σ.1 15 0 = nI nn) (f : Nat) (a : Int32) (c v : Int64)  : Jd l G YX12_passes (n + 2, 0, 0) M Z 0 0 (Qm G (n + 2, 0, 0) M (ΦI (PP y Z0 e0 (outS σ (nI f) (nfV 1 a v c))))) 97 [some (.ref y), some (.int (nI f)), some (.long c), none, some (.int a), some (.long v), none, none] [] := by
  refine q_lload dX12_passes_97 rfl ?_
  refine q_lconst (v := 0) dX12_passes_99 (by decide) ?_
  refine q_lcmp_ne 114 dX12_passes_100 dX12_passes_101 (by decide) (fun c100 => ?_) (fun c100 => ?_)
  · refine q_lload dX12_passes_114 rfl ?_
    refine q_ldc2 dX12_passes_116 kl_X12_123 ?_
    refine q_lcmp_ne 136 dX12_passes_119 dX12_passes_120 (by decide) (fun c119 => ?_) (fun c119 => ?_)
    · refine q_lload_n dX12_passes_136 rfl ?_
      refine q_lload dX12_passes_137 rfl ?_
      refine q_lrem dX12_passes_139 c100 ?_
      refine q_iload dX12_passes_140 rfl ?_
      refine q_i2l dX12_passes_142 ?_
      refine q_lcmp_ne 151 dX12_passes_143 dX12_passes_144 (by decide) (fun c143 => ?_) (fun c143 => ?_)
      · refine q_iconst (v := 0) dX12_passes_151 (by decide) ?_
        exact q_zreturn dX12_passes_152 rfl rfl (Nat.le_refl _) (Nat.le_refl _) (PP_ok hF hM (by rw [nfV_1, if_neg c100, if_neg c143]; rfl) (by decide))
      · refine q_iconst (v := 1) dX12_passes_147 (by decide) ?_
        refine q_goto 152 dX12_passes_148 (by decide) ?_
        exact q_zreturn dX12_passes_152 rfl rfl (Nat.le_refl _) (Nat.le_refl _) (PP_ok hF hM (by rw [nfV_1, if_neg c100, if_pos c143]; rfl) (by decide))
    · refine q_iload dX12_passes_123 rfl ?_
      refine q_if_ne 132 dX12_passes_125 (by decide) (fun c125 => ?_) (fun c125 => ?_)
      · refine q_iconst (v := 0) dX12_passes_132 (by decide) ?_
        refine q_goto 152 dX12_passes_133 (by decide) ?_
        exact q_zreturn dX12_passes_152 rfl rfl (Nat.le_refl _) (Nat.le_refl _) (PP_ok hF hM (by rw [nfV_1, if_neg c100, c119, rem_m1, if_neg (fun z => c125 (i64_0.mp z))]; rfl) (by decide))
      · refine q_iconst (v := 1) dX12_passes_128 (by decide) ?_
        refine q_goto 152 dX12_passes_129 (by decide) ?_
        exact q_zreturn dX12_passes_152 rfl rfl (Nat.le_refl _) (Nat.le_refl _) (PP_ok hF hM (by rw [nfV_1, if_neg c100, c119, rem_m1, if_pos (i64_0.mpr c125)]; rfl) (by decide))
  · first | refine q_aload_n dX12_passes_104 rfl ?_ | refine q_aload_nN dX12_passes_104 rfl ?_
    refine q_bipush (v := 6) dX12_passes_105 (by decide) ?_
    refine q_iload_n dX12_passes_107 rfl ?_
    refine q_callV 11 dX12_passes_108 mk_X12_119 rfl hM.K (mc_fails l G Z y σ (ex e0 0 wh) hM e0 0 wh rfl nn hnn h15 6 (nI f)) rfl np_X12_fails (Nat.le_add_left _ _) (Nat.le_refl _) (Nat.le_refl _) (Nat.le_of_ble_eq_true rfl) (kI (fun rF ZF hf => ?_))
    refine q_goto 152 dX12_passes_111 (by decide) ?_
    exact q_zreturn dX12_passes_152 rfl (by rw [hf.1]; rfl) (Nat.le_refl _) (Nat.le_refl _) (PP_fail hF hf (by rw [nfV_1, if_pos c100]; rfl) (by decide))
set_option maxHeartbeats 600000 in
set_option maxRecDepth 100000 in
theorem mp_2 (l : Launch) (G : Gt) (M : Mt) (Z0 Z : Zt) (y : Nat) (σ e0 : St) (wh : Int32) (hM : MR Z y σ (ex e0 0 wh)) (hF : MF y Z0 Z) (n nn : Nat) (hnn : nn ≤ 20) (h15 : σ.1 15 0 = nI nn) (f : Nat) (a : Int32) (c v : Int64)  : Jd l G YX12_passes (n + 2, 0, 0) M Z 0 0 (Qm G (n + 2, 0, 0) M (ΦI (PP y Z0 e0 (outS σ (nI f) (nfV 2 a v c))))) 153 [some (.ref y), some (.int (nI f)), some (.long c), none, some (.int a), some (.long v), none, none] [] := by
  refine q_lload_n dX12_passes_153 rfl ?_
  refine q_lconst (v := 0) dX12_passes_154 (by decide) ?_
  refine q_lcmp_ne 167 dX12_passes_155 dX12_passes_156 (by decide) (fun c155 => ?_) (fun c155 => ?_)
  · refine q_lload_n dX12_passes_167 rfl ?_
    refine q_ldc2 dX12_passes_168 kl_X12_123 ?_
    refine q_lcmp_ne 181 dX12_passes_171 dX12_passes_172 (by decide) (fun c171 => ?_) (fun c171 => ?_)
    · refine q_lload dX12_passes_181 rfl ?_
      refine q_lload_n dX12_passes_183 rfl ?_
      refine q_ldiv dX12_passes_184 c155 ?_
      refine q_iload dX12_passes_185 rfl ?_
      refine q_i2l dX12_passes_187 ?_
      refine q_lcmp_le 196 dX12_passes_188 dX12_passes_189 (by decide) (fun c188 => ?_) (fun c188 => ?_)
      · refine q_iconst (v := 0) dX12_passes_196 (by decide) ?_
        exact q_zreturn dX12_passes_197 rfl rfl (Nat.le_refl _) (Nat.le_refl _) (PP_ok hF hM (by rw [nfV_2, if_neg c155, if_pos c188]; rfl) (by decide))
      · refine q_iconst (v := 1) dX12_passes_192 (by decide) ?_
        refine q_goto 197 dX12_passes_193 (by decide) ?_
        exact q_zreturn dX12_passes_197 rfl rfl (Nat.le_refl _) (Nat.le_refl _) (PP_ok hF hM (by rw [nfV_2, if_neg c155, if_neg c188]; rfl) (by decide))
    · refine q_lload dX12_passes_175 rfl ?_
      refine q_lneg dX12_passes_177 ?_
      refine q_goto 185 dX12_passes_178 (by decide) ?_
      refine q_iload dX12_passes_185 rfl ?_
      refine q_i2l dX12_passes_187 ?_
      refine q_lcmp_le 196 dX12_passes_188 dX12_passes_189 (by decide) (fun c188 => ?_) (fun c188 => ?_)
      · refine q_iconst (v := 0) dX12_passes_196 (by decide) ?_
        exact q_zreturn dX12_passes_197 rfl rfl (Nat.le_refl _) (Nat.le_refl _) (PP_ok hF hM (by rw [nfV_2, if_neg c155, c171, div_m1, if_pos c188]; rfl) (by decide))
      · refine q_iconst (v := 1) dX12_passes_192 (by decide) ?_
        refine q_goto 197 dX12_passes_193 (by decide) ?_
        exact q_zreturn dX12_passes_197 rfl rfl (Nat.le_refl _) (Nat.le_refl _) (PP_ok hF hM (by rw [nfV_2, if_neg c155, c171, div_m1, if_neg c188]; rfl) (by decide))
  · first | refine q_aload_n dX12_passes_159 rfl ?_ | refine q_aload_nN dX12_passes_159 rfl ?_
    refine q_bipush (v := 6) dX12_passes_160 (by decide) ?_
    refine q_iload_n dX12_passes_162 rfl ?_
    refine q_callV 11 dX12_passes_163 mk_X12_119 rfl hM.K (mc_fails l G Z y σ (ex e0 0 wh) hM e0 0 wh rfl nn hnn h15 6 (nI f)) rfl np_X12_fails (Nat.le_add_left _ _) (Nat.le_refl _) (Nat.le_refl _) (Nat.le_of_ble_eq_true rfl) (kI (fun rF ZF hf => ?_))
    exact q_zreturn dX12_passes_166 rfl (by rw [hf.1]; rfl) (Nat.le_refl _) (Nat.le_refl _) (PP_fail hF hf (by rw [nfV_2, if_pos c155]; rfl) (by decide))
set_option maxHeartbeats 600000 in
set_option maxRecDepth 100000 in
theorem mp_4 (l : Launch) (G : Gt) (M : Mt) (Z0 Z : Zt) (y : Nat) (σ e0 : St) (wh : Int32) (hM : MR Z y σ (ex e0 0 wh)) (hF : MF y Z0 Z) (n nn : Nat) (hnn : nn ≤ 20) (h15 : σ.1 15 0 = nI nn) (f : Nat) (a : Int32) (c v : Int64)  : Jd l G YX12_passes (n + 2, 0, 0) M Z 0 0 (Qm G (n + 2, 0, 0) M (ΦI (PP y Z0 e0 (outS σ (nI f) (nfV 4 a v c))))) 297 [some (.ref y), some (.int (nI f)), some (.long c), none, some (.int a), some (.long v), none, none] [] := by
  refine q_lload_n dX12_passes_297 rfl ?_
  refine q_ldc2 dX12_passes_298 kl_X12_125 ?_
  refine q_lcmp_gt 311 dX12_passes_301 dX12_passes_302 (by decide) (fun c301 => ?_) (fun c301 => ?_)
  · first | refine q_aload_n dX12_passes_311 rfl ?_ | refine q_aload_nN dX12_passes_311 rfl ?_
    refine q_lload_n dX12_passes_312 rfl ?_
    refine q_lconst (v := 0) dX12_passes_313 (by decide) ?_
    refine q_lcmp_ge 322 dX12_passes_314 dX12_passes_315 (by decide) (fun c314 => ?_) (fun c314 => ?_)
    · refine q_bipush (v := 7) dX12_passes_322 (by decide) ?_
      refine q_iload_n dX12_passes_324 rfl ?_
      refine q_callV 11 dX12_passes_325 mk_X12_119 rfl hM.K (mc_fails l G Z y σ (ex e0 0 wh) hM e0 0 wh rfl nn hnn h15 7 (nI f)) rfl np_X12_fails (Nat.le_add_left _ _) (Nat.le_refl _) (Nat.le_refl _) (Nat.le_of_ble_eq_true rfl) (kI (fun rF ZF hf => ?_))
      exact q_zreturn dX12_passes_328 rfl (by rw [hf.1]; rfl) (Nat.le_refl _) (Nat.le_refl _) (PP_fail hF hf (by rw [nfV_4, rmV, if_neg (Int64.not_le.mpr c301)]; rfl) (by decide))
    · exact absurd (Int64.le_of_lt (Int64.lt_trans (by decide) c301)) c314
  · refine q_lload_n dX12_passes_305 rfl ?_
    refine q_lconst (v := 0) dX12_passes_306 (by decide) ?_
    refine q_lcmp_ge 329 dX12_passes_307 dX12_passes_308 (by decide) (fun c307 => ?_) (fun c307 => ?_)
    · refine q_lload_n dX12_passes_329 rfl ?_
      refine q_lload dX12_passes_330 rfl ?_
      refine q_lcmp_lt 340 dX12_passes_332 dX12_passes_333 (by decide) (fun c332 => ?_) (fun c332 => ?_)
      · refine q_iconst (v := 0) dX12_passes_340 (by decide) ?_
        exact q_zreturn dX12_passes_341 rfl rfl (Nat.le_refl _) (Nat.le_refl _) (PP_ok hF hM (by rw [nfV_4, rmV, if_pos (Int64.not_lt.mp c301), if_pos c307, if_pos c332]; rfl) (by decide))
      · refine q_iconst (v := 1) dX12_passes_336 (by decide) ?_
        refine q_goto 341 dX12_passes_337 (by decide) ?_
        exact q_zreturn dX12_passes_341 rfl rfl (Nat.le_refl _) (Nat.le_refl _) (PP_ok hF hM (by rw [nfV_4, rmV, if_pos (Int64.not_lt.mp c301), if_pos c307, if_neg c332]; rfl) (by decide))
    · first | refine q_aload_n dX12_passes_311 rfl ?_ | refine q_aload_nN dX12_passes_311 rfl ?_
      refine q_lload_n dX12_passes_312 rfl ?_
      refine q_lconst (v := 0) dX12_passes_313 (by decide) ?_
      refine q_lcmp_ge 322 dX12_passes_314 dX12_passes_315 (by decide) (fun c314 => ?_) (fun c314 => ?_)
      · exact absurd c314 c307
      · refine q_iconst (v := 3) dX12_passes_318 (by decide) ?_
        refine q_goto 324 dX12_passes_319 (by decide) ?_
        refine q_iload_n dX12_passes_324 rfl ?_
        refine q_callV 11 dX12_passes_325 mk_X12_119 rfl hM.K (mc_fails l G Z y σ (ex e0 0 wh) hM e0 0 wh rfl nn hnn h15 3 (nI f)) rfl np_X12_fails (Nat.le_add_left _ _) (Nat.le_refl _) (Nat.le_refl _) (Nat.le_of_ble_eq_true rfl) (kI (fun rF ZF hf => ?_))
        exact q_zreturn dX12_passes_328 rfl (by rw [hf.1]; rfl) (Nat.le_refl _) (Nat.le_refl _) (PP_fail hF hf (by rw [nfV_4, rmV, if_pos (Int64.not_lt.mp c301), if_neg c307]; rfl) (by decide))
set_option maxHeartbeats 600000 in
set_option maxRecDepth 100000 in
theorem mp_6 (l : Launch) (G : Gt) (M : Mt) (Z0 Z : Zt) (y : Nat) (σ e0 : St) (wh : Int32) (hM : MR Z y σ (ex e0 0 wh)) (hF : MF y Z0 Z) (n nn : Nat) (hnn : nn ≤ 20) (h15 : σ.1 15 0 = nI nn) (f : Nat) (a : Int32) (c v : Int64)  : Jd l G YX12_passes (n + 2, 0, 0) M Z 0 0 (Qm G (n + 2, 0, 0) M (ΦI (PP y Z0 e0 (outS σ (nI f) (nfV 6 a v c))))) 353 [some (.ref y), some (.int (nI f)), some (.long c), none, some (.int a), some (.long v), none, none] [] := by
  refine q_lload_n dX12_passes_353 rfl ?_
  refine q_lload dX12_passes_354 rfl ?_
  refine q_lcmp_ne 370 dX12_passes_356 dX12_passes_357 (by decide) (fun c356 => ?_) (fun c356 => ?_)
  · refine q_iconst (v := 1) dX12_passes_370 (by decide) ?_
    exact q_zreturn dX12_passes_371 rfl rfl (Nat.le_refl _) (Nat.le_refl _) (PP_ok hF hM (by rw [show nfV 6 a v c = (if c = v then .inl 7 else .inr 1) from rfl, if_neg c356]; rfl) (by decide))
  · first | refine q_aload_n dX12_passes_360 rfl ?_ | refine q_aload_nN dX12_passes_360 rfl ?_
    refine q_bipush (v := 7) dX12_passes_361 (by decide) ?_
    refine q_iload_n dX12_passes_363 rfl ?_
    refine q_callV 11 dX12_passes_364 mk_X12_119 rfl hM.K (mc_fails l G Z y σ (ex e0 0 wh) hM e0 0 wh rfl nn hnn h15 7 (nI f)) rfl np_X12_fails (Nat.le_add_left _ _) (Nat.le_refl _) (Nat.le_refl _) (Nat.le_of_ble_eq_true rfl) (kI (fun rF ZF hf => ?_))
    refine q_goto 371 dX12_passes_367 (by decide) ?_
    exact q_zreturn dX12_passes_371 rfl (by rw [hf.1]; rfl) (Nat.le_refl _) (Nat.le_refl _) (PP_fail hF hf (by rw [show nfV 6 a v c = (if c = v then .inl 7 else .inr 1) from rfl, if_pos c356]; rfl) (by decide))
theorem sf_0 {wt cn : Int32} {pj v : Int64} {it : Nat → Int64} {c : Int64} {skd : Int32} (h : skd = 0) : sfW wt skd cn pj v it c = .inl 1 := by unfold sfW; rw [if_pos h]
theorem sf_5 {wt cn : Int32} {pj v : Int64} {it : Nat → Int64} {c : Int64} {skd : Int32} (h : ¬ skd = 0) (hw : ¬ skd = wt) : sfW wt skd cn pj v it c = .inl 5 := by unfold sfW; rw [if_neg h, if_neg hw]
theorem sf_3 {cn : Int32} {pj v : Int64} {it : Nat → Int64} {c : Int64} {skd : Int32} (h : skd = 3) : sfW 3 skd cn pj v it c = .inr (if c ≤ pj then 0 else 1) := by unfold sfW; rw [if_neg (by rw [h]; decide), if_pos h, if_pos rfl]
theorem sf_1 {cn : Int32} {pj v : Int64} {it : Nat → Int64} {c : Int64} {skd : Int32} (h : skd = 1) : sfW 1 skd cn pj v it c = (if ¬ c < 0 ∧ ¬ cn.toInt64 ≤ c ∧ ¬ 12 ≤ c then .inr (if it c.toInt32.toNatClampNeg ≤ v then 0 else 1) else .inl 2) := by unfold sfW; rw [if_neg (by rw [h]; decide), if_pos h, if_neg (by decide)]
theorem k123 {k : Int32} (h : k ∈ ([0, 1, 2, 3] : List Int32)) (h2 : ¬ k = 2) (h3 : ¬ k = 3) (h0 : ¬ k = 0) : k = 1 := by
  have : ∀ k ∈ ([0, 1, 2, 3] : List Int32), ¬ k = 2 → ¬ k = 3 → ¬ k = 0 → k = 1 := by decide
  exact this k h h2 h3 h0
theorem cn_12 {c : Int64} {m : Nat} (hm : m ≤ 12) (h0 : ¬ c < 0) (h : c < (nI m).toInt64) : (¬ (nI m).toInt64 ≤ c ∧ ¬ 12 ≤ c) ∧ c.toInt32 = nI (uN c) ∧ uN c < 12 := by
  rw [nI_l (by omega)] at h ⊢
  obtain ⟨a, b⟩ := at_ix (n := m) (by omega) h0 h
  refine ⟨⟨Int64.not_le.mpr h, fun z => ?_⟩, a, by omega⟩
  have h2 := Int64.lt_of_le_of_lt z h
  have h3 := (lN_lt (a := 12) (b := m) (by decide) (by omega)).mp h2
  omega
set_option maxHeartbeats 600000 in
set_option maxRecDepth 100000 in
theorem mp_3 (l : Launch) (G : Gt) (M : Mt) (Z0 Z : Zt) (y : Nat) (σ e0 : St) (wh : Int32) (hM : MR Z y σ (ex e0 0 wh)) (hF : MF y Z0 Z) (n nn : Nat) (hnn : nn ≤ 20) (h15 : σ.1 15 0 = nI nn) (f : Nat) (a : Int32) (c v : Int64) (s : Nat) (hs : s < 6) (cn : Nat) (hcn : cn ≤ 12) (h2 : σ.1 2 s = nI cn) (h1 : σ.1 1 s ∈ ([0, 1, 2, 3] : List Int32))  : Jd l G YX12_passes (n + 2, 0, 0) M Z 0 0 (Qm G (n + 2, 0, 0) M (ΦI (PP y Z0 e0 (outS σ (nI f) (sfW 1 (σ.1 1 s) (σ.1 2 s) (σ.2 3 s) v (fun i => σ.2 4 (12 * s + i)) c))))) 198 [some (.ref y), some (.int (nI f)), some (.long c), none, some (.int (nI s)), some (.long v), none, none] [] := by
  first | refine q_aload_n dX12_passes_198 rfl ?_ | refine q_aload_nN dX12_passes_198 rfl ?_
  refine q_getf dX12_passes_199 fk_X12_7_11 hM.K (hM.a 1 (by decide) (by decide)) ?_
  refine q_iload dX12_passes_202 rfl ?_
  refine m_iald 1 (s) hM dX12_passes_204 (by decide) rfl rfl rfl (show s < 6 by omega) ?_
  refine q_iconst (v := 2) dX12_passes_205 (by decide) ?_
  refine q_icmp_eq 220 dX12_passes_206 (by decide) (fun c206 => ?_) (fun c206 => ?_)
  · first | refine q_aload_n dX12_passes_220 rfl ?_ | refine q_aload_nN dX12_passes_220 rfl ?_
    refine q_iconst (v := 5) dX12_passes_221 (by decide) ?_
    refine q_iload_n dX12_passes_222 rfl ?_
    refine q_callV 11 dX12_passes_223 mk_X12_119 rfl hM.K (mc_fails l G Z y σ (ex e0 0 wh) hM e0 0 wh rfl nn hnn h15 5 (nI f)) rfl np_X12_fails (Nat.le_add_left _ _) (Nat.le_refl _) (Nat.le_refl _) (Nat.le_of_ble_eq_true rfl) (kI (fun rF ZF hf => ?_))
    exact q_zreturn dX12_passes_226 rfl (by rw [hf.1]; rfl) (Nat.le_refl _) (Nat.le_refl _) (PP_fail hF hf (by rw [sf_5 (by rw [c206]; decide) (by rw [c206]; decide)]; rfl) (by decide))
  · first | refine q_aload_n dX12_passes_209 rfl ?_ | refine q_aload_nN dX12_passes_209 rfl ?_
    refine q_getf dX12_passes_210 fk_X12_7_11 hM.K (hM.a 1 (by decide) (by decide)) ?_
    refine q_iload dX12_passes_213 rfl ?_
    refine m_iald 1 (s) hM dX12_passes_215 (by decide) rfl rfl rfl (show s < 6 by omega) ?_
    refine q_iconst (v := 3) dX12_passes_216 (by decide) ?_
    refine q_icmp_ne 227 dX12_passes_217 (by decide) (fun c217 => ?_) (fun c217 => ?_)
    · first | refine q_aload_n dX12_passes_227 rfl ?_ | refine q_aload_nN dX12_passes_227 rfl ?_
      refine q_getf dX12_passes_228 fk_X12_7_11 hM.K (hM.a 1 (by decide) (by decide)) ?_
      refine q_iload dX12_passes_231 rfl ?_
      refine m_iald 1 (s) hM dX12_passes_233 (by decide) rfl rfl rfl (show s < 6 by omega) ?_
      refine q_if_ne 244 dX12_passes_234 (by decide) (fun c234 => ?_) (fun c234 => ?_)
      · have k1 := k123 h1 c206 c217 c234
        refine q_lload_n dX12_passes_244 rfl ?_
        refine q_lconst (v := 0) dX12_passes_245 (by decide) ?_
        refine q_lcmp_lt 263 dX12_passes_246 dX12_passes_247 (by decide) (fun c246 => ?_) (fun c246 => ?_)
        · first | refine q_aload_n dX12_passes_263 rfl ?_ | refine q_aload_nN dX12_passes_263 rfl ?_
          refine q_iconst (v := 2) dX12_passes_264 (by decide) ?_
          refine q_iload_n dX12_passes_265 rfl ?_
          refine q_callV 11 dX12_passes_266 mk_X12_119 rfl hM.K (mc_fails l G Z y σ (ex e0 0 wh) hM e0 0 wh rfl nn hnn h15 2 (nI f)) rfl np_X12_fails (Nat.le_add_left _ _) (Nat.le_refl _) (Nat.le_refl _) (Nat.le_of_ble_eq_true rfl) (kI (fun rF ZF hf => ?_))
          refine q_goto 296 dX12_passes_269 (by decide) ?_
          exact q_zreturn dX12_passes_296 rfl (by rw [hf.1]; rfl) (Nat.le_refl _) (Nat.le_refl _) (PP_fail hF hf (by rw [sf_1 k1, if_neg (fun z => z.1 c246)]; rfl) (by decide))
        · refine q_lload_n dX12_passes_250 rfl ?_
          first | refine q_aload_n dX12_passes_251 rfl ?_ | refine q_aload_nN dX12_passes_251 rfl ?_
          refine q_getf dX12_passes_252 fk_X12_13_11 hM.K (hM.a 2 (by decide) (by decide)) ?_
          refine q_iload dX12_passes_255 rfl ?_
          refine m_iald 2 (s) hM dX12_passes_257 (by decide) rfl rfl rfl (show s < 6 by omega) ?_
          refine q_i2l dX12_passes_258 ?_
          refine q_lcmp_lt 272 dX12_passes_259 dX12_passes_260 (by decide) (fun c259 => ?_) (fun c259 => ?_)
          · have k2 := c259
            rw [h2] at k2
            have k3 := cn_12 hcn c246 k2
            first | refine q_aload_n dX12_passes_272 rfl ?_ | refine q_aload_nN dX12_passes_272 rfl ?_
            refine q_getf dX12_passes_273 fk_X12_20_11 hM.K (hM.a 4 (by decide) (by decide)) ?_
            refine q_bipush (v := 12) dX12_passes_276 (by decide) ?_
            refine q_iload dX12_passes_278 rfl ?_
            refine q_imul dX12_passes_280 ?_
            refine q_lload_n dX12_passes_281 rfl ?_
            refine q_l2i dX12_passes_282 ?_
            refine q_iadd dX12_passes_283 ?_
            refine m_lald 4 (12 * s + uN c) hM dX12_passes_284 (by decide) rfl rfl (by rw [k3.2.1, show (12 : Int32) = nI 12 from rfl, pk_mul, nI_add]) (show 12 * s + uN c < 72 by omega) ?_
            refine q_lload dX12_passes_285 rfl ?_
            refine q_lcmp_le 295 dX12_passes_287 dX12_passes_288 (by decide) (fun c287 => ?_) (fun c287 => ?_)
            · refine q_iconst (v := 0) dX12_passes_295 (by decide) ?_
              exact q_zreturn dX12_passes_296 rfl rfl (Nat.le_refl _) (Nat.le_refl _) (PP_ok hF hM (by rw [sf_1 k1, if_pos ⟨c246, by rw [h2]; exact k3.1⟩, k3.2.1, nI_clamp (by omega), if_pos c287]; rfl) (by decide))
            · refine q_iconst (v := 1) dX12_passes_291 (by decide) ?_
              refine q_goto 296 dX12_passes_292 (by decide) ?_
              exact q_zreturn dX12_passes_296 rfl rfl (Nat.le_refl _) (Nat.le_refl _) (PP_ok hF hM (by rw [sf_1 k1, if_pos ⟨c246, by rw [h2]; exact k3.1⟩, k3.2.1, nI_clamp (by omega), if_neg c287]; rfl) (by decide))
          · first | refine q_aload_n dX12_passes_263 rfl ?_ | refine q_aload_nN dX12_passes_263 rfl ?_
            refine q_iconst (v := 2) dX12_passes_264 (by decide) ?_
            refine q_iload_n dX12_passes_265 rfl ?_
            refine q_callV 11 dX12_passes_266 mk_X12_119 rfl hM.K (mc_fails l G Z y σ (ex e0 0 wh) hM e0 0 wh rfl nn hnn h15 2 (nI f)) rfl np_X12_fails (Nat.le_add_left _ _) (Nat.le_refl _) (Nat.le_refl _) (Nat.le_of_ble_eq_true rfl) (kI (fun rF ZF hf => ?_))
            refine q_goto 296 dX12_passes_269 (by decide) ?_
            exact q_zreturn dX12_passes_296 rfl (by rw [hf.1]; rfl) (Nat.le_refl _) (Nat.le_refl _) (PP_fail hF hf (by rw [sf_1 k1, if_neg (fun z => absurd (Int64.not_le.mp z.2.1) c259)]; rfl) (by decide))
      · first | refine q_aload_n dX12_passes_237 rfl ?_ | refine q_aload_nN dX12_passes_237 rfl ?_
        refine q_iconst (v := 1) dX12_passes_238 (by decide) ?_
        refine q_iload_n dX12_passes_239 rfl ?_
        refine q_callV 11 dX12_passes_240 mk_X12_119 rfl hM.K (mc_fails l G Z y σ (ex e0 0 wh) hM e0 0 wh rfl nn hnn h15 1 (nI f)) rfl np_X12_fails (Nat.le_add_left _ _) (Nat.le_refl _) (Nat.le_refl _) (Nat.le_of_ble_eq_true rfl) (kI (fun rF ZF hf => ?_))
        exact q_zreturn dX12_passes_243 rfl (by rw [hf.1]; rfl) (Nat.le_refl _) (Nat.le_refl _) (PP_fail hF hf (by rw [sf_0 c234]; rfl) (by decide))
    · first | refine q_aload_n dX12_passes_220 rfl ?_ | refine q_aload_nN dX12_passes_220 rfl ?_
      refine q_iconst (v := 5) dX12_passes_221 (by decide) ?_
      refine q_iload_n dX12_passes_222 rfl ?_
      refine q_callV 11 dX12_passes_223 mk_X12_119 rfl hM.K (mc_fails l G Z y σ (ex e0 0 wh) hM e0 0 wh rfl nn hnn h15 5 (nI f)) rfl np_X12_fails (Nat.le_add_left _ _) (Nat.le_refl _) (Nat.le_refl _) (Nat.le_of_ble_eq_true rfl) (kI (fun rF ZF hf => ?_))
      exact q_zreturn dX12_passes_226 rfl (by rw [hf.1]; rfl) (Nat.le_refl _) (Nat.le_refl _) (PP_fail hF hf (by rw [sf_5 (by rw [c217]; decide) (by rw [c217]; decide)]; rfl) (by decide))
set_option maxHeartbeats 600000 in
set_option maxRecDepth 100000 in
theorem mp_12 (l : Launch) (G : Gt) (M : Mt) (Z0 Z : Zt) (y : Nat) (σ e0 : St) (wh : Int32) (hM : MR Z y σ (ex e0 0 wh)) (hF : MF y Z0 Z) (n nn : Nat) (hnn : nn ≤ 20) (h15 : σ.1 15 0 = nI nn) (f : Nat) (a : Int32) (c v : Int64) (s : Nat) (hs : s < 6) (cn : Nat) (hcn : cn ≤ 12) (h2 : σ.1 2 s = nI cn) (h1 : σ.1 1 s ∈ ([0, 1, 2, 3] : List Int32))  : Jd l G YX12_passes (n + 2, 0, 0) M Z 0 0 (Qm G (n + 2, 0, 0) M (ΦI (PP y Z0 e0 (outS σ (nI f) (sfW 3 (σ.1 1 s) (σ.1 2 s) (σ.2 3 s) v (fun i => σ.2 4 (12 * s + i)) c))))) 544 [some (.ref y), some (.int (nI f)), some (.long c), none, some (.int (nI s)), some (.long v), none, none] [] := by
  first | refine q_aload_n dX12_passes_544 rfl ?_ | refine q_aload_nN dX12_passes_544 rfl ?_
  refine q_getf dX12_passes_545 fk_X12_7_11 hM.K (hM.a 1 (by decide) (by decide)) ?_
  refine q_iload dX12_passes_548 rfl ?_
  refine m_iald 1 (s) hM dX12_passes_550 (by decide) rfl rfl rfl (show s < 6 by omega) ?_
  refine q_iconst (v := 3) dX12_passes_551 (by decide) ?_
  refine q_icmp_eq 576 dX12_passes_552 (by decide) (fun c552 => ?_) (fun c552 => ?_)
  · refine q_lload_n dX12_passes_576 rfl ?_
    first | refine q_aload_n dX12_passes_577 rfl ?_ | refine q_aload_nN dX12_passes_577 rfl ?_
    refine q_getf dX12_passes_578 fk_X12_16_11 hM.K (hM.a 3 (by decide) (by decide)) ?_
    refine q_iload dX12_passes_581 rfl ?_
    refine m_lald 3 (s) hM dX12_passes_583 (by decide) rfl rfl rfl (show s < 6 by omega) ?_
    refine q_lcmp_le 592 dX12_passes_584 dX12_passes_585 (by decide) (fun c584 => ?_) (fun c584 => ?_)
    · refine q_iconst (v := 0) dX12_passes_592 (by decide) ?_
      exact q_zreturn dX12_passes_593 rfl rfl (Nat.le_refl _) (Nat.le_refl _) (PP_ok hF hM (by rw [sf_3 c552, if_pos c584]; rfl) (by decide))
    · refine q_iconst (v := 1) dX12_passes_588 (by decide) ?_
      refine q_goto 593 dX12_passes_589 (by decide) ?_
      exact q_zreturn dX12_passes_593 rfl rfl (Nat.le_refl _) (Nat.le_refl _) (PP_ok hF hM (by rw [sf_3 c552, if_neg c584]; rfl) (by decide))
  · first | refine q_aload_n dX12_passes_555 rfl ?_ | refine q_aload_nN dX12_passes_555 rfl ?_
    first | refine q_aload_n dX12_passes_556 rfl ?_ | refine q_aload_nN dX12_passes_556 rfl ?_
    refine q_getf dX12_passes_557 fk_X12_7_11 hM.K (hM.a 1 (by decide) (by decide)) ?_
    refine q_iload dX12_passes_560 rfl ?_
    refine m_iald 1 (s) hM dX12_passes_562 (by decide) rfl rfl rfl (show s < 6 by omega) ?_
    refine q_if_ne 570 dX12_passes_563 (by decide) (fun c563 => ?_) (fun c563 => ?_)
    · refine q_iconst (v := 5) dX12_passes_570 (by decide) ?_
      refine q_iload_n dX12_passes_571 rfl ?_
      refine q_callV 11 dX12_passes_572 mk_X12_119 rfl hM.K (mc_fails l G Z y σ (ex e0 0 wh) hM e0 0 wh rfl nn hnn h15 5 (nI f)) rfl np_X12_fails (Nat.le_add_left _ _) (Nat.le_refl _) (Nat.le_refl _) (Nat.le_of_ble_eq_true rfl) (kI (fun rF ZF hf => ?_))
      exact q_zreturn dX12_passes_575 rfl (by rw [hf.1]; rfl) (Nat.le_refl _) (Nat.le_refl _) (PP_fail hF hf (by rw [sf_5 c563 c552]; rfl) (by decide))
    · refine q_iconst (v := 1) dX12_passes_566 (by decide) ?_
      refine q_goto 571 dX12_passes_567 (by decide) ?_
      refine q_iload_n dX12_passes_571 rfl ?_
      refine q_callV 11 dX12_passes_572 mk_X12_119 rfl hM.K (mc_fails l G Z y σ (ex e0 0 wh) hM e0 0 wh rfl nn hnn h15 1 (nI f)) rfl np_X12_fails (Nat.le_add_left _ _) (Nat.le_refl _) (Nat.le_refl _) (Nat.le_of_ble_eq_true rfl) (kI (fun rF ZF hf => ?_))
      exact q_zreturn dX12_passes_575 rfl (by rw [hf.1]; rfl) (Nat.le_refl _) (Nat.le_refl _) (PP_fail hF hf (by rw [sf_0 c563]; rfl) (by decide))
theorem PP_tr {y : Nat} {Z0 Z Z1 : Zt} {e0 : St} {sp : Int32 × St} {r : Int32} (hF : MF y Z0 Z) (h : PP y Z e0 sp r Z1) : PP y Z0 e0 sp r Z1 := ⟨hF.tr h.1, h.2⟩
theorem PP_b {y : Nat} {Z0 Z1 : Zt} {e0 : St} {sp : Int32 × St} {r : Int32} (h : PP y Z0 e0 sp r Z1) (hv : sp.1 ∈ vL) : r = 0 ∨ r = 1 := by
  obtain ⟨-, fl, wh, -, a, b⟩ := h
  by_cases c : 0 ≤ sp.1
  · rw [(a c).2]; exact vL_01 _ hv c
  · exact Or.inl (b c).2.1
theorem bo_z {r : Int32} (h : r = 0 ∨ r = 1) : narrow .boolean (.int r) = .int r := by rcases h with rfl | rfl <;> rfl
theorem bx_v {σ : St} {b : Nat} {c v : Int64} {f : Int32} : (bxS σ b c v f).1 ∈ vL := by
  by_cases h : tkP (nI b) (thF c)
  · rw [bxS_t h]; show (1 : Int32) ∈ vL; decide
  · rw [bxS_f h]; exact fail_v (by decide)
set_option maxHeartbeats 600000 in
set_option maxRecDepth 100000 in
theorem mp_5 (l : Launch) (G : Gt) (M : Mt) (Z0 Z : Zt) (y : Nat) (σ e0 : St) (wh : Int32) (hM : MR Z y σ (ex e0 0 wh)) (hF : MF y Z0 Z) (n nn : Nat) (hnn : nn ≤ 20) (h15 : σ.1 15 0 = nI nn) (f : Nat) (c v : Int64) (b : Nat) (hb : b < 3) : Jd l G YX12_passes (n + 2, 0, 0) M Z 0 0 (Qm G (n + 2, 0, 0) M (ΦI (PP y Z0 e0 (bxS σ b c v (nI f))))) 342 [some (.ref y), some (.int (nI f)), some (.long c), none, some (.int (nI b)), some (.long v), none, none] [] := by
  first | refine q_aload_n dX12_passes_342 rfl ?_ | refine q_aload_nN dX12_passes_342 rfl ?_
  refine q_iload_n dX12_passes_343 rfl ?_
  refine q_iload dX12_passes_344 rfl ?_
  refine q_lload_n dX12_passes_346 rfl ?_
  refine q_lload dX12_passes_347 rfl ?_
  refine q_callV 11 dX12_passes_349 mk_X12_127 rfl hM.K (mc_puts l G Z y σ e0 wh hM nn hnn h15 (nI f) b hb c v) rfl np_X12_puts (Nat.le_add_left _ _) (Nat.le_refl _) (Nat.le_refl _) (Nat.le_of_ble_eq_true rfl) (kI (fun rF ZF hf => ?_))
  exact q_zreturn dX12_passes_352 rfl (bo_z (PP_b hf (bx_v))) (Nat.le_refl _) (Nat.le_refl _) (PP_tr hF hf)
