theorem barS_1 {σ : St} {c : Int64} {vd : Int32} {k : Nat} (h1 : k ≠ 32) (h2 : k ≠ 34) (h3 : k ≠ 35) : (barS σ c vd).1 k = σ.1 k := by
  show (pI (pI (pI _ 34 _ _) 35 _ _) 32 _ _).1 k = _
  rw [pI_ne h1, pI_ne h3, pI_ne h2]; rfl
theorem barS_2 {σ : St} {c : Int64} {vd : Int32} {k : Nat} (h : k ≠ 33) : (barS σ c vd).2 k = σ.2 k := by
  show (pJ σ 33 _ c).2 k = _
  rw [pJ_ne h]
/-- someone is barred -/
theorem bar_step {Z : Zt} {x nf b : Nat} {σ : St} {af : Nat → Nat} {c : Int64} {vd ar : Int32} (h : FIs Z x σ af nf) (hb : brO Z x σ) (hbb : σ.1 32 0 = nI b) (h20 : b < 20) (har : ar = σ.1 14 0) : FIs (sF (sI (sI (sJ Z (x + 6) b c) (x + 7) b (-10 - vd)) (x + 8) b ar) 3 (x + 5) (.int (nI b + 1))) x (barS σ c vd) af nf ∧ brO (sF (sI (sI (sJ Z (x + 6) b c) (x + 7) b (-10 - vd)) (x + 8) b ar) 3 (x + 5) (.int (nI b + 1))) x (barS σ c vd) ∧ GF x Z (sF (sI (sI (sJ Z (x + 6) b c) (x + 7) b (-10 - vd)) (x + 8) b ar) 3 (x + 5) (.int (nI b + 1))) := by
  have hbc : (σ.1 32 0).toNatClampNeg = b := by rw [hbb]; exact nI_clamp (by omega)
  have eF : ∀ k a, ¬ (k = 3 ∧ a = x + 5) → zF (sF (sI (sI (sJ Z (x + 6) b c) (x + 7) b (-10 - vd)) (x + 8) b ar) 3 (x + 5) (.int (nI b + 1))) k a = zF Z k a := fun k a h1 => by rw [zF_sF, if_neg h1, zF_sI, zF_sI, zF_sJ]
  have eI : ∀ a, a ≠ x + 7 → a ≠ x + 8 → zI (sF (sI (sI (sJ Z (x + 6) b c) (x + 7) b (-10 - vd)) (x + 8) b ar) 3 (x + 5) (.int (nI b + 1))) a = zI Z a := fun a h2 h3 => by rw [zI_sF, zI_sI, if_neg h3, zI_sI, if_neg h2, zI_sJ]
  have eJ : ∀ a, a ≠ x + 6 → zJ (sF (sI (sI (sJ Z (x + 6) b c) (x + 7) b (-10 - vd)) (x + 8) b ar) 3 (x + 5) (.int (nI b + 1))) a = zJ Z a := fun a h1 => by rw [zJ_sF, zJ_sI, zJ_sI, zJ_sJ, if_neg h1]
  have eK : zK (sF (sI (sI (sJ Z (x + 6) b c) (x + 7) b (-10 - vd)) (x + 8) b ar) 3 (x + 5) (.int (nI b + 1))) = zK Z := by rw [zK_sF, zK_sI, zK_sI, zK_sJ]
  have eL : zL (sF (sI (sI (sJ Z (x + 6) b c) (x + 7) b (-10 - vd)) (x + 8) b ar) 3 (x + 5) (.int (nI b + 1))) = zL Z := by rw [zL_sF, zL_sI, zL_sI, zL_sJ]
  have eR : zR (sF (sI (sI (sJ Z (x + 6) b c) (x + 7) b (-10 - vd)) (x + 8) b ar) 3 (x + 5) (.int (nI b + 1))) = zR Z := by rw [zR_sF, zR_sI, zR_sI, zR_sJ]
  have eN : zN (sF (sI (sI (sJ Z (x + 6) b c) (x + 7) b (-10 - vd)) (x + 8) b ar) 3 (x + 5) (.int (nI b + 1))) = zN Z := by rw [zN_sF, zN_sI, zN_sI, zN_sJ]
  have e3 : zF (sF (sI (sI (sJ Z (x + 6) b c) (x + 7) b (-10 - vd)) (x + 8) b ar) 3 (x + 5) (.int (nI b + 1))) 3 (x + 5) = .int (nI b + 1) := by rw [zF_sF, if_pos ⟨rfl, rfl⟩]
  have x7 : zI (sF (sI (sI (sJ Z (x + 6) b c) (x + 7) b (-10 - vd)) (x + 8) b ar) 3 (x + 5) (.int (nI b + 1))) (x + 7) = upd (zI Z (x + 7)) b (-10 - vd) := by rw [zI_sF, zI_sI, if_neg (by omega), zI_sI, if_pos rfl, zI_sJ]
  have x8 : zI (sF (sI (sI (sJ Z (x + 6) b c) (x + 7) b (-10 - vd)) (x + 8) b ar) 3 (x + 5) (.int (nI b + 1))) (x + 8) = upd (zI Z (x + 8)) b ar := by rw [zI_sF, zI_sI, if_pos rfl, zI_sI, if_neg (by omega), zI_sJ]
  have x6 : zJ (sF (sI (sI (sJ Z (x + 6) b c) (x + 7) b (-10 - vd)) (x + 8) b ar) 3 (x + 5) (.int (nI b + 1))) (x + 6) = vp_updL (zJ Z (x + 6)) b c := by rw [zJ_sF, zJ_sI, zJ_sI, zJ_sJ, if_pos rfl]
  generalize sF (sI (sI (sJ Z (x + 6) b c) (x + 7) b (-10 - vd)) (x + 8) b ar) 3 (x + 5) (.int (nI b + 1)) = Z1 at *
  have hG : GF x Z Z1 := ⟨eK, eL, eR, eN, fun k a h1 h2 => eF k a (fun z => h1 ⟨z.2, Or.inl z.1⟩), fun a h1 h2 h3 => eI a h2 h3, fun a h1 h2 => eJ a h1⟩
  refine ⟨h.cong hG.ss (fun k a h1 h2 => eF k a (by omega)) (fun a h1 h2 => eJ a (by omega)) (fun d hd => eI _ (by omega) (by omega)) (eF _ _ (by omega)) (eF _ _ (by omega)) (fun f hf => ⟨by rw [eK], fun k => eF _ _ (fun z => ?_)⟩) (fun k hk => barS_1 (by omega) (by omega) (by omega)) (fun k hk => barS_2 (by omega)), ?_, hG⟩
  · have := (h.2.2.2.2.2.2 f hf).1.1.1
    omega
  · obtain ⟨b', c1, c2, c3, c4⟩ := hb
    have hbe : b' = b := (nI_eq (by omega) (by omega)).mp (c2.symm.trans hbb)
    subst hbe
    refine ⟨b' + 1, by omega, ?_, ?_, fun i hi => ?_⟩
    · show (pI _ 32 0 (σ.1 32 0 + 1)).1 32 0 = _
      rw [pI_at, hbb, nI_1]
    · rw [e3, nI_1]
    · have y33 : (barS σ c vd).2 33 i = if i = b' then c else σ.2 33 i := by
        show (pJ σ 33 (σ.1 32 0).toNatClampNeg c).2 33 i = _
        rw [pJ_2, hbc]; simp
      have y34 : (barS σ c vd).1 34 i = if i = b' then -10 - vd else σ.1 34 i := by
        show (pI (pI (pI _ 34 _ _) 35 _ _) 32 _ _).1 34 i = _
        rw [pI_ne (by decide), pI_ne (by decide), pI_1, hbc]; simp [pJ_1]
      have y35 : (barS σ c vd).1 35 i = if i = b' then σ.1 14 0 else σ.1 35 i := by
        show (pI (pI (pI _ 34 _ _) 35 _ _) 32 _ _).1 35 i = _
        rw [pI_ne (by decide), pI_1, hbc, pI_ne (by decide)]; simp [pJ_1]
      rw [x6, x7, x8, y33, y34, y35]
      by_cases e : i = b'
      · subst e; rw [pk_uLs, pk_us, pk_us, if_pos rfl, if_pos rfl, if_pos rfl]; exact ⟨rfl, rfl, har⟩
      · rw [pk_uLn e, pk_un e, pk_un e, if_neg e, if_neg e, if_neg e]; exact c4 i (by omega)
