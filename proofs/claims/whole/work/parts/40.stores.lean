section QStore
variable {l : Launch} {G : Gt} {Y : Yt} {B : Bt} {M : Mt} {Z : Zt} {cells slots : Nat} {Q : State → Prop} {pc : Nat} {ls : List (Option Value)} {st : List Value}
theorem q_aast {a v : Nat} {i : Int32} (w c : Nat) (E : String) (q : vw_C) (hd : decode Y.2.1 pc = .ok (.aastore, 1)) (hw : w < 4) (hE : aTy (3 + w) = .object E) (hk : zK Z a = 23 + w) (hi : vp_in i (zL Z a)) (hkv : zK Z v = c + 1) (hq : vwCl[c]? = some q) (hca : q.1 = E ∨ (E = RX2 ∧ q.1 ∈ [RX1, RX3, RX4, RX7])) (kk : Jd l G Y B M (sR Z a i.toNatClampNeg (some v)) cells slots Q (pc + 1) ls st) : Jd l G Y B M Z cells slots Q pc ls (.ref v :: .int i :: .ref a :: st) := by
  intro C H locs A hR hS hA
  obtain ⟨hx, hb, hml, hr, hown, hts, hlk, hKn, hB, hRm, hnm⟩ := id C
  have hlt : i.toNatClampNeg < zL Z a := Nat.not_le.mp fun q => hi (Or.inr q)
  have h0 : ¬ i < 0 := fun q => hi (Or.inl q)
  obtain ⟨cell, q1, q2, q3, q4⟩ := hR.2.2.1 v c q hkv hq
  obtain ⟨hS', hfc, kC, hkC, hkind⟩ := hKn.1.1 c q hq
  have hRA := (tyG hKn (k := 3 + w) (by omega)).2
  rw [hE] at hRA
  obtain ⟨kA, comp, k1, k2, k3, -⟩ := hRA
  obtain ⟨kE, hkE, -⟩ := Vm.findClass_spec k3
  have hasg : M.2.2.2.1.vm.assignable (G.1 c) comp = true := by
    rcases hca with e | ⟨e, e2⟩
    · rw [e] at hfc; exact vb_asgS _ _ k3 hfc
    · have := hKn.2.2.2.1 _ e2
      rw [e] at k3
      exact vb_asgC this _ _ k3 hfc
  refine W.aast hx hb (hR.2.2.2.2.2.2 a w hk hw) (fun q h => by cases h) (fun h => by cases h) k1 k2 rfl hkE ⟨h0, by show _ < (arrV _ _ _).slots.size; rw [arrV_size]; exact hlt⟩ q1 (fun q h => by rw [q3] at h; cases h) (by rw [q2]; exact hkC) (by rw [q2]; exact hasg) rfl rfl hd fun H1 e z oq => ?_
  refine kk C H1 _ A (Rep_sR hR hk hw z oq ?_) (hS.put z oq (hR.2.1 a (by rw [hk]; omega)).1) hA
  rw [e, vp_cell_q, vp_cell_q, arrV_store]
  congr 2
  funext q
  by_cases hq : q = i.toNatClampNeg
  · subst hq
    simp [updV, va_up, va_rf]
  · simp [updV, va_up, hq]
end QStore
