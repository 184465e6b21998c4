/-! the judgement's rows on the heap, and calls -/
def fOK (own : String) (i c k : Nat) : Prop := ∃ (q : vw_C) (ref : String), vwCl[c]? = some q ∧ k < q.2.2 ∧ Cond.fieldLink own i ref (q.2.1 k).2.1 (q.2.1 k).2.2.1 ∈ WS ∧ (ref = (q.2.1 k).1 ∨ Cond.sameField ref (q.2.1 k).1 (q.2.1 k).2.1 (q.2.1 k).2.2.1 ∈ WS)
def nOK (own : String) (i c : Nat) : Prop := ∃ q : vw_C, vwCl[c]? = some q ∧ Cond.classLink own i q.1 ∈ WS ∧ Cond.instantiable q.1 q.2.2 ∈ WS ∧ Cond.initialized q.1 ∈ WS
def nPar (Y : Yt) : Option Nat := (parseMethodDescriptor Y.1.desc).map (fun d => d.parameters.length)
def dOK (Y : Yt) : Prop := Y.1.cls ≠ "java/lang/invoke/MethodHandle" ∧ Y.1.cls ≠ "java/lang/invoke/VarHandle" ∧ (nPar Y).isSome = true ∧ Y.2.2.1 ≤ 45
def bOK (own : String) (i : Nat) (Y : Yt) : Prop := Cond.code Y.1 Y.2.1 Y.2.2.1 Y.2.2.2 ∈ WS ∧ Cond.initialized Y.1.cls ∈ WS ∧ Cond.methodLink own i Y.1 ∈ WS ∧ (Y.1.cls ≠ "java/lang/invoke/MethodHandle" ∧ Y.1.cls ≠ "java/lang/invoke/VarHandle" ∧ (nPar Y).isSome = true ∧ Y.2.2.1 ≤ 45)
def sOK (own : String) (i : Nat) (Y : Yt) : Prop := bOK own i Y ∧ Cond.static Y.1 ∈ WS
def iOK (own : String) (i : Nat) (Y : Yt) : Prop := bOK own i Y ∧ Y.1.name = "<init>" ∧ Cond.instanceMethod Y.1 ∈ WS
def vOK (own : String) (i : Nat) (Y : Yt) : Prop := bOK own i Y ∧ Cond.instanceMethod Y.1 ∈ WS ∧ Cond.selects Y.1.cls Y.1 Y.1 ∈ WS
def sNOK (own : String) (i : Nat) (Y : Yt) : Prop := Cond.code Y.1 Y.2.1 Y.2.2.1 Y.2.2.2 ∈ WS ∧ Cond.initialized Y.1.cls ∈ WS ∧ Cond.static Y.1 ∈ WS ∧ Cond.methodLinkNest own i Y.1 RX11 ∈ nwl ∧ (Y.1.cls ≠ "java/lang/invoke/MethodHandle" ∧ Y.1.cls ≠ "java/lang/invoke/VarHandle" ∧ (nPar Y).isSome = true ∧ Y.2.2.1 ≤ 45)
def iNOK (own : String) (i : Nat) (Y : Yt) : Prop := Cond.code Y.1 Y.2.1 Y.2.2.1 Y.2.2.2 ∈ WS ∧ Cond.initialized Y.1.cls ∈ WS ∧ Y.1.name = "<init>" ∧ Cond.instanceMethod Y.1 ∈ WS ∧ Cond.methodLinkNest own i Y.1 RX11 ∈ nwl ∧ (Y.1.cls ≠ "java/lang/invoke/MethodHandle" ∧ Y.1.cls ≠ "java/lang/invoke/VarHandle" ∧ (nPar Y).isSome = true ∧ Y.2.2.1 ≤ 45)
theorem ty_at {G : Gt} {k : Nat} (h : k < 7) : (TYs G)[k]? = some (G.2.2.1 k, aTy k) := by
  simp [TYs, h]
theorem tyG {G : Gt} {U : State} (h : Kn G U) {k : Nat} (hk : k < 7) : ArrOfT U (G.2.2.1 k) (aTy k) ∧ va_RA U (G.2.2.1 k) (aTy k) := h.1.2 k _ (ty_at hk)
section QH
variable {l : Launch} {G : Gt} {Y : Yt} {B : Bt} {M : Mt} {Z : Zt} {cells slots : Nat} {Q : State → Prop} {pc : Nat} {ls : List (Option Value)} {st : List Value}
theorem q_getf {i c k a : Nat} {v : Value} (hd : decode Y.2.1 pc = .ok (.getfield i, 3)) (hw : fOK Y.1.cls i c k) (hk : zK Z a = c + 1) (hv : zF Z k a = v) (kk : Jd l G Y B M Z cells slots Q (pc + 3) ls (v :: st)) : Jd l G Y B M Z cells slots Q pc ls (.ref a :: st) := by
  intro C H locs A hR hS hA
  obtain ⟨q, ref, hq, hkN, hlink, hsame⟩ := hw
  obtain ⟨hx, hb, hml, hr, hown, hts, hlk, hKn, hB, hRm, hnm⟩ := id C
  obtain ⟨cell, q1, q2, q3, q4⟩ := hR.2.2.1 a c q hk hq
  obtain ⟨hS', hfc, kC, hkC, hkind⟩ := hKn.1.1 c q hq
  obtain ⟨cf, kf, fi, f, hi, hsl⟩ := hS' k hkN
  have hsm : M.2.2.2.1.fieldFound? ref (q.2.1 k).2.1 (q.2.1 k).2.2.1 = some (cf, kf, fi, f) := by
    rcases hsame with e | e
    · rw [e]; exact hi
    · exact u_same (hts _ e) _ hi
  refine W.getf hx hb hown (hts _ hlink) hsm (u_facts hfc hkC (u_lays hts (clW hq) hkN) hi).1 q1 (by rw [q3]; exact fun h => by cases h) (v := v) ?_ rfl rfl hd (kk C H locs A hR hS hA)
  rw [hsl, q4 k hkN]
  exact congrArg some hv
theorem q_putf {i c k a : Nat} {v : Value} (hd : decode Y.2.1 pc = .ok (.putfield i, 3)) (hw : fOK Y.1.cls i c k) (hf : (vwCl[c]?).map (fun q => (q.2.1 k).2.2.2) = some false) (hk : zK Z a = c + 1) (hn : narrow (tyTab c k) v = v) (hfit : fits (tyTab c k) v = true)
    (kk : Jd l G Y B M (sF Z k a v) cells slots Q (pc + 3) ls st) : Jd l G Y B M Z cells slots Q pc ls (v :: .ref a :: st) := by
  intro C H locs A hR hS hA
  obtain ⟨q, ref, hq, hkN, hlink, hsame⟩ := hw
  rw [hq] at hf
  have hf : (q.2.1 k).2.2.2 = false := Option.some.inj hf
  obtain ⟨hx, hb, hml, hr, hown, hts, hlk, hKn, hB, hRm, hnm⟩ := id C
  have hap := va_apart (own := Y.1.cls) hts (clW hq) (tyTab c) (clTy hq) (clNm hq) hKn.1 hq
  obtain ⟨cell, q1, q2, q3, q4⟩ := hR.2.2.1 a c q hk hq
  obtain ⟨hS', hfc, kC, hkC, hkind⟩ := hKn.1.1 c q hq
  obtain ⟨cf, kf, fi, f, hi, hsl⟩ := hS' k hkN
  have hsm : M.2.2.2.1.fieldFound? ref (q.2.1 k).2.1 (q.2.1 k).2.2.1 = some (cf, kf, fi, f) := by
    rcases hsame with e | e
    · rw [e]; exact hi
    · exact u_same (hts _ e) _ hi
  have hlay := hts _ (clW hq _ (u_in_lay hkN))
  unfold u_lay at hlay
  rw [if_neg (by rw [hf]; decide)] at hlay
  have hst := (u_facts hfc hkC (u_lays hts (clW hq) hkN) hi).1
  have h6 := u_store hfc hkC hkind hlay hi (clTy hq k hkN) hn hfit
  refine W.putK hx hb (f := f) ⟨hown, hts _ hlink, ⟨_, _, _, hsm⟩, hst⟩ (by rw [q2]; exact h6) q1 q3 (by rw [hsl]; exact k2_hasslot (q4 k hkN)) rfl rfl hd fun H' e1 e2 e3 => ?_
  rw [hsl] at e1 ⊢
  exact kk C H' _ A (Rep_sF hR hk hq e2 e3 ⟨_, e1, q2, q3, t_set q4 hap hkN v⟩) (hS.put e2 e3 (hR.2.1 a (by rw [hk]; omega)).1) hA
theorem q_putF {i c k a : Nat} {v : Value} (hd : decode Y.2.1 pc = .ok (.putfield i, 3)) (hw : fOK Y.1.cls i c k) (hf : (vwCl[c]?).map (fun q => (q.2.1 k).2.2.2) = some true) (hdc : (vwCl[c]?).map (fun q => (q.2.1 k).1) = some Y.1.cls) (hin : Y.1.name = "<init>") (hk : zK Z a = c + 1) (hn : narrow (tyTab c k) v = v) (hfit : fits (tyTab c k) v = true)
    (kk : Jd l G Y B M (sF Z k a v) cells slots Q (pc + 3) ls st) : Jd l G Y B M Z cells slots Q pc ls (v :: .ref a :: st) := by
  intro C H locs A hR hS hA
  obtain ⟨q, ref, hq, hkN, hlink, hsame⟩ := hw
  rw [hq] at hf hdc
  have hf : (q.2.1 k).2.2.2 = true := Option.some.inj hf
  have hdc : (q.2.1 k).1 = Y.1.cls := Option.some.inj hdc
  obtain ⟨hx, hb, hml, hr, hown, hts, hlk, hKn, hB, hRm, hnm⟩ := id C
  have hap := va_apart (own := Y.1.cls) hts (clW hq) (tyTab c) (clTy hq) (clNm hq) hKn.1 hq
  obtain ⟨cell, q1, q2, q3, q4⟩ := hR.2.2.1 a c q hk hq
  obtain ⟨hS', hfc, kC, hkC, hkind⟩ := hKn.1.1 c q hq
  obtain ⟨cf, kf, fi, f, hi, hsl⟩ := hS' k hkN
  have hsm : M.2.2.2.1.fieldFound? ref (q.2.1 k).2.1 (q.2.1 k).2.2.1 = some (cf, kf, fi, f) := by
    rcases hsame with e | e
    · rw [e]; exact hi
    · exact u_same (hts _ e) _ hi
  have hlay := hts _ (clW hq _ (u_in_lay hkN))
  unfold u_lay at hlay
  rw [if_pos hf] at hlay
  have hst := (u_facts hfc hkC (u_lays hts (clW hq) hkN) hi).1
  have hcf : M.2.2.2.2.1.cls = cf := by
    obtain ⟨_, _, c', _, _, _, -, -, hf', -, -, -, hown2, -⟩ := Cond.laysFinal_spec hlay
    have e1 : c' = cf := by have := hi.symm.trans hf'; simp at this; exact this.1.symm
    rw [hdc] at hown2
    rw [← e1]; exact Option.some.inj (hown.symm.trans hown2)
  have h6 := u_fits hfc hkC hkind (Or.inr hlay) hi (clTy hq k hkN) hn hfit
  refine W.putFinK hx hb hown (hts _ hlink) hsm hst hcf (by rw [hnm]; exact hin) (by rw [q2]; exact h6) q1 q3 (by rw [hsl]; exact k2_hasslot (q4 k hkN)) rfl rfl hd fun H' e1 e2 e3 => ?_
  rw [hsl] at e1 ⊢
  exact kk C H' _ A (Rep_sF hR hk hq e2 e3 ⟨_, e1, q2, q3, t_set q4 hap hkN v⟩) (hS.put e2 e3 (hR.2.1 a (by rw [hk]; omega)).1) hA
theorem q_iald {a : Nat} {i : Int32} (hd : decode Y.2.1 pc = .ok (.iaload, 1)) (hk : zK Z a = 20) (hi : vp_in i (zL Z a)) (kk : Jd l G Y B M Z cells slots Q (pc + 1) ls (.int (zI Z a i.toNatClampNeg) :: st)) : Jd l G Y B M Z cells slots Q pc ls (.int i :: .ref a :: st) := by
  intro C H locs A hR hS hA
  have hlt : i.toNatClampNeg < zL Z a := Nat.not_le.mp fun q => hi (Or.inr q)
  exact W.iald (v := .int (zI Z a i.toNatClampNeg)) C.1 C.2.1 (hR.2.2.2.1 a hk) ((tyG C.2.2.2.2.2.2.2.1 (k := 0) (by decide)).1 _ (fun j => .int (zI Z a j))) (fun q => by cases q) (by show ¬ (i < 0 ∨ (arrV _ _ _).slots.size ≤ _); rw [arrV_size]; exact hi) (by show (arrV _ _ _).slots[_]? = _; rw [arrV_read _ _ hlt]) rfl rfl hd (kk C H locs A hR hS hA)
theorem q_lald {a : Nat} {i : Int32} (hd : decode Y.2.1 pc = .ok (.laload, 1)) (hk : zK Z a = 21) (hi : vp_in i (zL Z a)) (kk : Jd l G Y B M Z cells slots Q (pc + 1) ls (.long (zJ Z a i.toNatClampNeg) :: st)) : Jd l G Y B M Z cells slots Q pc ls (.int i :: .ref a :: st) := by
  intro C H locs A hR hS hA
  have hlt : i.toNatClampNeg < zL Z a := Nat.not_le.mp fun q => hi (Or.inr q)
  exact W.lald (v := .long (zJ Z a i.toNatClampNeg)) C.1 C.2.1 (hR.2.2.2.2.1 a hk) ((tyG C.2.2.2.2.2.2.2.1 (k := 1) (by decide)).1 _ (fun j => .long (zJ Z a j))) (fun q => by cases q) (by show ¬ (i < 0 ∨ (arrV _ _ _).slots.size ≤ _); rw [arrV_size]; exact hi) (by show (arrV _ _ _).slots[_]? = _; rw [arrV_read _ _ hlt]) rfl rfl hd (kk C H locs A hR hS hA)
theorem q_zald {a : Nat} {i : Int32} (hd : decode Y.2.1 pc = .ok (.baload, 1)) (hk : zK Z a = 22) (hi : vp_in i (zL Z a)) (kk : Jd l G Y B M Z cells slots Q (pc + 1) ls (.int (zI Z a i.toNatClampNeg) :: st)) : Jd l G Y B M Z cells slots Q pc ls (.int i :: .ref a :: st) := by
  intro C H locs A hR hS hA
  have hlt : i.toNatClampNeg < zL Z a := Nat.not_le.mp fun q => hi (Or.inr q)
  exact W.zald (v := .int (zI Z a i.toNatClampNeg)) C.1 C.2.1 (hR.2.2.2.2.2.1 a hk) ((tyG C.2.2.2.2.2.2.2.1 (k := 2) (by decide)).1 _ (fun j => .int (zI Z a j))) (fun q => by cases q) (by show ¬ (i < 0 ∨ (arrV _ _ _).slots.size ≤ _); rw [arrV_size]; exact hi) (by show (arrV _ _ _).slots[_]? = _; rw [arrV_read _ _ hlt]) rfl rfl hd (kk C H locs A hR hS hA)
theorem aTy_ref {w : Nat} (h : w < 4) : ∃ C, aTy (3 + w) = .object C := by
  rcases (show w = 0 ∨ w = 1 ∨ w = 2 ∨ w = 3 by omega) with rfl | rfl | rfl | rfl <;> exact ⟨_, rfl⟩
theorem q_aald {a : Nat} {i : Int32} (w : Nat) (hd : decode Y.2.1 pc = .ok (.aaload, 1)) (hw : w < 4) (hk : zK Z a = 23 + w) (hi : vp_in i (zL Z a)) {v : Value} (hv : va_rf (zR Z a i.toNatClampNeg) = v) (kk : Jd l G Y B M Z cells slots Q (pc + 1) ls (v :: st)) : Jd l G Y B M Z cells slots Q pc ls (.int i :: .ref a :: st) := by
  intro C H locs A hR hS hA
  subst hv
  have hlt : i.toNatClampNeg < zL Z a := Nat.not_le.mp fun q => hi (Or.inr q)
  obtain ⟨c0, hc0⟩ := aTy_ref hw
  exact W.aald (v := va_rf (zR Z a i.toNatClampNeg)) (ty := aTy (3 + w)) C.1 C.2.1 (hR.2.2.2.2.2.2 a w hk hw) ((tyG C.2.2.2.2.2.2.2.1 (k := 3 + w) (by omega)).1 _ (fun j => va_rf (zR Z a j))) (by rw [hc0]; rfl) (fun q => by cases q) (by show ¬ (i < 0 ∨ (arrV _ _ _).slots.size ≤ _); rw [arrV_size]; exact hi) (by show (arrV _ _ _).slots[_]? = _; rw [arrV_read _ _ hlt]) rfl rfl hd (kk C H locs A hR hS hA)
theorem q_alenJ {a : Nat} (hd : decode Y.2.1 pc = .ok (.arraylength, 1)) (hk : zK Z a = 21) (kk : Jd l G Y B M Z cells slots Q (pc + 1) ls (.int (Int32.ofNat (zL Z a)) :: st)) : Jd l G Y B M Z cells slots Q pc ls (.ref a :: st) := by
  intro C H locs A hR hS hA
  exact W.alen (n := Int32.ofNat (zL Z a)) C.1 C.2.1 (hR.2.2.2.2.1 a hk) ((tyG C.2.2.2.2.2.2.2.1 (k := 1) (by decide)).1 _ (fun j => .long (zJ Z a j))) (by rw [vp_cell_l, arrV_size] <;> rfl) rfl rfl hd (kk C H locs A hR hS hA)
theorem q_iast {a : Nat} {i x : Int32} (hd : decode Y.2.1 pc = .ok (.iastore, 1)) (hk : zK Z a = 20) (hi : vp_in i (zL Z a)) (kk : Jd l G Y B M (sI Z a i.toNatClampNeg x) cells slots Q (pc + 1) ls st) : Jd l G Y B M Z cells slots Q pc ls (.int x :: .int i :: .ref a :: st) := by
  intro C H locs A hR hS hA
  refine W.iast C.1 C.2.1 (hR.2.2.2.1 a hk) ((tyG C.2.2.2.2.2.2.2.1 (k := 0) (by decide)).1 _ (fun j => .int (zI Z a j))) (fun q => by cases q) (by show ¬ (i < 0 ∨ (arrV _ _ _).slots.size ≤ _); rw [arrV_size]; exact hi) rfl rfl hd fun H1 e z oq => ?_
  refine kk C H1 _ A (Rep_sI (w := 0) hR hk (Or.inl rfl) z oq ?_) (hS.put z oq (hR.2.1 a (by rw [hk]; omega)).1) hA
  rw [e, vp_cell_i, vp_cell_i, arrV_store]
  congr 2
  funext q
  by_cases hq : q = i.toNatClampNeg
  · subst hq; simp [updV, upd]
  · simp [updV, upd, hq]
theorem q_zast {a : Nat} {i x : Int32} (hd : decode Y.2.1 pc = .ok (.bastore, 1)) (hk : zK Z a = 22) (hi : vp_in i (zL Z a)) (hx0 : vp_nar .boolean x = x) (kk : Jd l G Y B M (sI Z a i.toNatClampNeg x) cells slots Q (pc + 1) ls st) : Jd l G Y B M Z cells slots Q pc ls (.int x :: .int i :: .ref a :: st) := by
  intro C H locs A hR hS hA
  refine W.zast C.1 C.2.1 (hR.2.2.2.2.2.1 a hk) ((tyG C.2.2.2.2.2.2.2.1 (k := 2) (by decide)).1 _ (fun j => .int (zI Z a j))) (fun q => by cases q) (by show ¬ (i < 0 ∨ (arrV _ _ _).slots.size ≤ _); rw [arrV_size]; exact hi) rfl rfl hd fun H1 e z oq => ?_
  refine kk C H1 _ A (Rep_sI (w := 2) hR hk (Or.inr rfl) z oq ?_) (hS.put z oq (hR.2.1 a (by rw [hk]; omega)).1) hA
  rw [e, vp_cell_i, vp_cell_i, arrV_store]
  congr 2
  funext q
  by_cases hq : q = i.toNatClampNeg
  · subst hq; simp only [updV, upd, if_true]; rw [show narrow .boolean (.int x) = .int (vp_nar .boolean x) from rfl, hx0]
  · simp [updV, upd, hq]
theorem q_last {a : Nat} {i : Int32} {x : Int64} (hd : decode Y.2.1 pc = .ok (.lastore, 1)) (hk : zK Z a = 21) (hi : vp_in i (zL Z a)) (kk : Jd l G Y B M (sJ Z a i.toNatClampNeg x) cells slots Q (pc + 1) ls st) : Jd l G Y B M Z cells slots Q pc ls (.long x :: .int i :: .ref a :: st) := by
  intro C H locs A hR hS hA
  refine W.last C.1 C.2.1 (hR.2.2.2.2.1 a hk) ((tyG C.2.2.2.2.2.2.2.1 (k := 1) (by decide)).1 _ (fun j => .long (zJ Z a j))) (fun q => by cases q) (by show ¬ (i < 0 ∨ (arrV _ _ _).slots.size ≤ _); rw [arrV_size]; exact hi) rfl rfl hd fun H1 e z oq => ?_
  refine kk C H1 _ A (Rep_sJ hR hk z oq ?_) (hS.put z oq (hR.2.1 a (by rw [hk]; omega)).1) hA
  rw [e, vp_cell_l, vp_cell_l, arrV_store]
  congr 2
  funext q
  by_cases hq : q = i.toNatClampNeg
  · subst hq; simp [updV, vp_updL]
  · simp [updV, vp_updL, hq]
/-- a new object; its fields hold 0 and null -/
theorem q_new {i c : Nat} {n : Nat} (hd : decode Y.2.1 pc = .ok (.new i, 3)) (hw : nOK Y.1.cls i c) (hn : (vwCl[c]?).map (fun q => q.2.2) = some n) (hc : cells + 1 ≤ B.2.1) (hs : slots + n ≤ B.2.2) (kk : Jd l G Y B M (nO Z (c + 1) (fun k => defaultValue (tyTab c k))) (cells + 1) (slots + n) Q (pc + 3) ls (.ref (zN Z) :: st)) : Jd l G Y B M Z cells slots Q pc ls st := by
  intro C H locs A hR hS hA
  obtain ⟨q, hq, hlink, hins, hini⟩ := hw
  rw [hq] at hn
  have hn : q.2.2 = n := Option.some.inj hn
  subst hn
  obtain ⟨hx, hb, hml, hr, hown, hts, hlk, hKn, hB, hRm, hnm⟩ := id C
  have hu := hKn.1.1 c q hq
  refine W.newcK hx hb hown (hts _ hlink) (hts _ hins) (hts _ hini) rfl hd (by rw [hRm]; exact hc) (by rw [hRm]; exact hs) hu.2.1 hR.1 fun H1 kC hkC e1 z1 o1 => ?_
  exact kk C H1 locs A (Rep_nO hR (Nat.le_trans hB (by rw [← hR.1]; exact hS.1)) hq z1 o1 (u_born (tyTab c) hts (clW hq) hu hkC e1 (clTy hq))) ⟨Nat.le_trans hS.1 (by rw [hR.1, z1]; omega), fun x h1 h2 => (o1 x (by rw [← hR.1]; exact Nat.lt_of_lt_of_le h1 hS.1)).trans (hS.2.1 x h1 h2), hS.2.2⟩ hA
theorem q_newa {n : Int32} {N w : Nat} {at0 : ArrayType} (hd : decode Y.2.1 pc = .ok (.newarray at0, 2)) (hty : newarray.typeOf at0 = aTy w) (hw : w < 3) (ha : Cond.arrayClass (aTy w) ∈ WS) (h0 : ¬ n < 0) (hN : n.toNatClampNeg = N) (hbt : N * componentBytes (aTy w) ≤ 536870912) (hc : cells + 1 ≤ B.2.1) (hs : slots + N ≤ B.2.2)
    (kk : Jd l G Y B M (nA Z (20 + w) N) (cells + 1) (slots + N) Q (pc + 2) ls (.ref (zN Z) :: st)) : Jd l G Y B M Z cells slots Q pc ls (.int n :: st) := by
  intro C H locs A hR hS hA
  obtain ⟨hx, hb, hml, hr, hown, hts, hlk, hKn, hB, hRm, hnm⟩ := id C
  refine va_newaK hx hb (by rw [hty]; exact hts _ ha) rfl hd rfl h0 hN (by rw [hty]; exact hbt) (by rw [hRm]; exact hc) (by rw [hRm]; exact hs) hR.1 fun H1 cA e1 z1 o1 hAr hNm => ?_
  rw [hty] at e1 hNm
  have hcA : cA = G.2.2.1 w := by
    have h := (tyG hKn (k := w) (by omega)).2
    rcases (show w = 0 ∨ w = 1 ∨ w = 2 by omega) with rfl | rfl | rfl
    · exact Option.some.inj (hNm.symm.trans h)
    · exact Option.some.inj (hNm.symm.trans h)
    · exact Option.some.inj (hNm.symm.trans h)
  subst hcA
  exact kk C H1 locs A (Rep_nA hR (Nat.le_trans hB (by rw [← hR.1]; exact hS.1)) (by omega) z1 o1 e1) ⟨Nat.le_trans hS.1 (by rw [hR.1, z1]; omega), fun x h1 h2 => (o1 x (by rw [← hR.1]; exact Nat.lt_of_lt_of_le h1 hS.1)).trans (hS.2.1 x h1 h2), hS.2.2⟩ hA
theorem q_anew {i : Nat} {n : Int32} {N w : Nat} (cn : String) (hd : decode Y.2.1 pc = .ok (.anewarray i, 3)) (hw : w < 4) (hcn : aTy (3 + w) = .object cn) (hin : cn ∈ [RX0, RX2, RX6, RX8]) (hl : Cond.classLink Y.1.cls i cn ∈ WS) (h0 : ¬ n < 0) (hN : n.toNatClampNeg = N) (hbt : N * 4 ≤ 536870912) (hc : cells + 1 ≤ B.2.1) (hs : slots + N ≤ B.2.2)
    (kk : Jd l G Y B M (nA Z (23 + w) N) (cells + 1) (slots + N) Q (pc + 3) ls (.ref (zN Z) :: st)) : Jd l G Y B M Z cells slots Q pc ls (.int n :: st) := by
  intro C H locs A hR hS hA
  obtain ⟨hx, hb, hml, hr, hown, hts, hlk, hKn, hB, hRm, hnm⟩ := id C
  subst hN
  refine W.anew hx hb hown (hts _ hl) (va_AO.use (hKn.2.2.2.2 cn hin)) rfl hd rfl h0 hbt (by rw [hRm]; exact hc) (by rw [hRm]; exact hs) fun cA kA comp f1 f2 f3 f4 => ?_
  generalize hH1 : H.push ({ cls := cA, slots := Array.replicate n.toNatClampNeg .null, vm := .none } : Cell) = H1
  have z1 : H1.size = H.size + 1 := by rw [← hH1, Array.size_push]
  have e1 : H1[H.size]? = some (arrV cA n.toNatClampNeg (fun _ => .null)) := by rw [← hH1, Array.getElem?_push_size, ← arrV_new]
  have o1 : ∀ q : Nat, q < H.size → H1[q]? = H[q]? := fun q hq => by rw [← hH1, Array.getElem?_push, if_neg (Nat.ne_of_lt hq)]
  have hcA : cA = G.2.2.1 (3 + w) := by
    have h := (tyG hKn (k := 3 + w) (by omega)).2
    rw [hcn] at h
    obtain ⟨_, _, -, -, -, h4⟩ := h
    exact Option.some.inj (f1.symm.trans h4)
  subst hcA
  have hdv : defaultValue (aTy (3 + w)) = .null := by rw [hcn]; rfl
  have hkk := kk C H1 locs A (by
    have := Rep_nA (w := 3 + w) (n := n.toNatClampNeg) hR (Nat.le_trans hB (by rw [← hR.1]; exact hS.1)) (by omega) (by rw [z1, hR.1]) (fun x hx => o1 x (by rw [hR.1]; exact hx)) (by rw [hdv, ← hR.1]; exact e1)
    rw [show 20 + (3 + w) = 23 + w by omega] at this
    exact this) ⟨Nat.le_trans hS.1 (by omega), fun x h1 h2 => (o1 x (Nat.lt_of_lt_of_le h1 hS.1)).trans (hS.2.1 x h1 h2), hS.2.2⟩ hA
  rw [hR.1]
  exact hkk
/-- Object's own constructor -/
theorem q_objInit {i a : Nat} (hd : decode Y.2.1 pc = .ok (.invokespecial i, 3)) (hl : Cond.methodLink Y.1.cls i objectInit ∈ WS) (hi : Cond.instanceMethod objectInit ∈ WS) (hcd : Cond.code objectInit ⟨#[0xb1]⟩ 1 none ∈ WS) (hB1 : 1 ≤ B.1) (hW : (st.map fun v => v.category).sum ≤ 8) (kk : Jd l G Y B M Z cells slots Q (pc + 3) ls st) : Jd l G Y B M Z cells slots Q pc ls (.ref a :: st) := by
  intro C H locs A hR hS hA
  obtain ⟨hx, hb, hml, hr, hown, hts, hlk, hKn, hB, hRm, hnm⟩ := id C
  refine W.objInit hx hb hown (hts _ hl) (hts _ hi) (hts _ hcd) rfl (by rw [hml]; exact hA.1) rfl hd (by rw [hRm]; exact hB1) ?_ (kk C H locs A hR hS hA)
  rw [hRm]
  show 2 * 0 + _ + 12 ≤ 64 * B.1
  omega
end QH
theorem wsY_good (Y0 Y : Yt) (h : Cond.code Y.1 Y.2.1 Y.2.2.1 Y.2.2.2 ∈ WS) : GoodIn WS (wsY Y) := by
  intro w hw
  rcases List.mem_cons.mp hw with rfl | hw
  · exact ⟨h, good_of_word (ws_good h)⟩
  · exact ⟨hw, good_of_word (ws_good hw)⟩
theorem Pc_blind (G : Gt) (Z : Zt) (av : List Value) : FrameBlind (va_Pc av (fun U => Rep G Z U.heap ∧ Kn G U ∧ G.2.2.2 ≤ U.heap.size)) := fun a U g mk h => ⟨h.1, h.2.1, Kn.same (s := U) (U := U.calling g mk a) rfl h.2.2.1, h.2.2.2⟩
section QC
variable {l : Launch} {G : Gt} {Y Y' : Yt} {B B' : Bt} {M : Mt} {Z : Zt} {cells slots : Nat} {Q : State → Prop} {pc : Nat} {ls : List (Option Value)} {st rest av : List Value} {Φ : Option Value → Zt → Prop}
theorem q_nPar {Y : Yt} (h : (nPar Y).isSome = true) {n : Nat} (hn : nPar Y = some n) : (parseMethodDescriptor Y.1.desc).map (fun d => d.parameters.length) = some n := hn
theorem q_cb {own : String} {i : Nat} (C : Cx G Y B M) (hw : bOK own i Y') (hB : B'.1 + 1 ≤ B.1) {n : Nat} (hn : nPar Y' = some n) : CallB M.2.2.1 M.2.2.2.1 M.2.2.2.2.2.1 own i Y'.1 Y'.2.1 Y'.2.2.1 Y'.2.2.2 (wsY Y') (rmB B') B'.2.1 B'.2.2 n := by
  obtain ⟨h1, h2, h3, h4, h5, h6, h7⟩ := hw
  have hts := C.2.2.2.2.2.1
  refine callB_of (Ts := WS) n hts (wsY_good Y Y' h1) rfl rfl rfl (hts _ h2) (hts _ h3) ⟨h4, h5, hn⟩ ?_
  rw [C.2.2.2.2.2.2.2.2.2.1]
  show B'.1 + 1 ≤ B.1 ∧ 8 + (Y'.2.2.1 + 11) + 64 * B'.1 ≤ 64 * B.1
  omega
theorem q_run {g : JFrame} {mc ms : Nat} (H : Heap) (locs : List Loc) (A : Array Slot) (hg : g = F0 M.2.2.2.2.1 pc A st) {a : Array Value} (C : Cx G Y B M) (hS : va_S (fun q => G.2.2.2 ≤ q) M.2.2.2.1.heap H locs) (hA : lv_has A Y.2.2.1 (aL 0 ls))
    (hr : va_Run M.1 l M.2.1 M.2.2.1 M.2.2.2.1 M.2.2.2.2.1 M.2.2.2.2.2.1 M.2.2.2.2.2.2.1 M.2.2.2.2.2.2.2.1 M.2.2.2.2.2.2.2.2 H locs cells slots mc ms (F0 M.2.2.2.2.1 pc A st) rest (Qc G Φ a) (fun q => G.2.2.2 ≤ q))
    (kk : ∀ (v : Option Value) (Z' : Zt), Φ v Z' → Jd l G Y B M Z' (cells + mc) (slots + ms) Q (pc + 3) ls (v.toList ++ rest)) :
    W M.1 l M.2.1 M.2.2.1 M.2.2.2.1 M.2.2.2.2.1 M.2.2.2.2.2.1 M.2.2.2.2.2.2.1 M.2.2.2.2.2.2.2.1 M.2.2.2.2.2.2.2.2 H locs cells slots Q (F0 M.2.2.2.2.1 pc A st) := by
  intro T hT X
  obtain ⟨v, st₀, t, T', L, h0, X', hL, e1, e2, ⟨v', Z', hv, hΦ, hRt, hz, hF⟩, stp⟩ := hr T hT X
  cases hv
  rw [h0] at hz hF
  obtain ⟨t2, a1, b1⟩ := kk v Z' hΦ C T'.heap (locs ++ L) A (by rw [e1]; exact hRt) ⟨Nat.le_trans hS.1 (by rw [e1]; exact hz), fun q h1 h2 => by rw [e1, hF q (Nat.lt_of_lt_of_le h1 hS.1) h2]; exact hS.2.1 q h1 h2, fun q hq => by
      rcases List.mem_append.mp hq with h | h
      · exact hS.2.2 q h
      · exact hL q h⟩ hA T' rfl X'
  exact ⟨t2, stp t2 a1, b1⟩
theorem q_pre {H : Heap} {locs : List Loc} (C : Cx G Y B M) (hR : Rep G Z H) (hS : va_S (fun q => G.2.2.2 ≤ q) M.2.2.2.1.heap H locs) : PreS M.2.2.2.1 H (va_Pc av (fun U => Rep G Z U.heap ∧ Kn G U ∧ G.2.2.2 ≤ U.heap.size)) av :=
  ⟨Pc_blind G Z av, fun U hU hW => ⟨rfl, by rw [hU]; exact hR, C.2.2.2.2.2.2.2.1.moved hW, by rw [hU]; exact Nat.le_trans C.2.2.2.2.2.2.2.2.1 hS.1⟩⟩
theorem q_callS {i : Nat} (hd : decode Y.2.1 pc = .ok (.invokestatic i, 3)) (hw : sOK Y.1.cls i Y') (hM : Ct l G Y' B' Z av Φ) (hst : st = av.reverse ++ rest) (hn : nPar Y' = some av.length) (hB : B'.1 + 1 ≤ B.1) (hc : cells + B'.2.1 ≤ B.2.1) (hs : slots + B'.2.2 ≤ B.2.2) (hW : (rest.map fun v => v.category).sum ≤ 8)
    (kk : ∀ (v : Option Value) (Z' : Zt), Φ v Z' → Jd l G Y B M Z' (cells + B'.2.1) (slots + B'.2.2) Q (pc + 3) ls (v.toList ++ rest)) : Jd l G Y B M Z cells slots Q pc ls st := by
  intro C H locs A hR hS hA
  refine q_run H locs A rfl C hS hA (va_runS (As := av) (rest := rest) (g := F0 M.2.2.2.2.1 pc A st) ⟨C.1, C.2.1, C.2.2.1, C.2.2.2.2.1, C.2.2.2.2.2.1⟩ hM ⟨q_cb C hw.1 hB hn, C.2.2.2.2.2.1 _ hw.2⟩ (q_pre C hR hS) rfl rfl hA.1 hst ?_ hd ?_) kk
  · show 2 * 0 + _ ≤ 8; omega
  · rw [C.2.2.2.2.2.2.2.2.2.1]; exact ⟨hc, hs⟩
theorem q_callI {i b : Nat} (hd : decode Y.2.1 pc = .ok (.invokespecial i, 3)) (hw : iOK Y.1.cls i Y') (hrt : Y'.2.2.2 = none) (hM : Ct l G Y' B' Z (.ref b :: av) Φ) (hst : st = av.reverse ++ .ref b :: rest) (hn : nPar Y' = some av.length) (hB : B'.1 + 1 ≤ B.1) (hc : cells + B'.2.1 ≤ B.2.1) (hs : slots + B'.2.2 ≤ B.2.2) (hW : (rest.map fun v => v.category).sum ≤ 8)
    (kk : ∀ (v : Option Value) (Z' : Zt), Φ v Z' → Jd l G Y B M Z' (cells + B'.2.1) (slots + B'.2.2) Q (pc + 3) ls (v.toList ++ rest)) : Jd l G Y B M Z cells slots Q pc ls st := by
  intro C H locs A hR hS hA
  refine q_run H locs A rfl C hS hA (va_runI (As := av) (rest := rest) (g := F0 M.2.2.2.2.1 pc A st) ⟨C.1, C.2.1, C.2.2.1, C.2.2.2.2.1, C.2.2.2.2.2.1⟩ hM ⟨by rw [← hrt]; exact q_cb C hw.1 hB hn, hw.2.1, C.2.2.2.2.2.1 _ hw.2.2⟩ (q_pre C hR hS) rfl rfl hA.1 hst ?_ hd ?_) kk
  · show 2 * 0 + _ ≤ 8; omega
  · rw [C.2.2.2.2.2.2.2.2.2.1]; exact ⟨hc, hs⟩
theorem q_recv {H : Heap} {b c : Nat} {q : vw_C} (C : Cx G Y B M) (hR : Rep G Z H) (hk : zK Z b = c + 1) (hq : vwCl[c]? = some q) : ∃ cellB : Cell, H[b]? = some cellB ∧ cellB.vm.isStatics = false ∧ M.2.2.2.1.vm.findClass q.1 = some cellB.cls := by
  obtain ⟨cell, q1, q2, q3, q4⟩ := hR.2.2.1 b c q hk hq
  exact ⟨cell, q1, by rw [q3]; rfl, by rw [q2]; exact (C.2.2.2.2.2.2.2.1.1.1 c q hq).2.1⟩
theorem q_callV {i b : Nat} (c : Nat) (hd : decode Y.2.1 pc = .ok (.invokevirtual i, 3)) (hw : vOK Y.1.cls i Y') (hc0 : (vwCl[c]?).map (fun q => q.1) = some Y'.1.cls) (hk : zK Z b = c + 1) (hM : Ct l G Y' B' Z (.ref b :: av) Φ) (hst : st = av.reverse ++ .ref b :: rest) (hn : nPar Y' = some av.length) (hB : B'.1 + 1 ≤ B.1) (hc : cells + B'.2.1 ≤ B.2.1) (hs : slots + B'.2.2 ≤ B.2.2) (hW : (rest.map fun v => v.category).sum ≤ 8)
    (kk : ∀ (v : Option Value) (Z' : Zt), Φ v Z' → Jd l G Y B M Z' (cells + B'.2.1) (slots + B'.2.2) Q (pc + 3) ls (v.toList ++ rest)) : Jd l G Y B M Z cells slots Q pc ls st := by
  intro C H locs A hR hS hA
  obtain ⟨q, hq, hqc⟩ := Option.map_eq_some_iff.mp hc0
  have hpre := q_pre (av := .ref b :: av) C hR hS
  have hrec := q_recv C hR hk hq
  rw [hqc] at hrec
  refine q_run H locs A rfl C hS hA (va_runV (As := av) (rest := rest) (g := F0 M.2.2.2.2.1 pc A st) (C := Y'.1.cls) ⟨C.1, C.2.1, C.2.2.1, C.2.2.2.2.1, C.2.2.2.2.2.1⟩ hM ⟨q_cb C hw.1 hB hn, C.2.2.2.2.2.1 _ hw.2.1, C.2.2.2.2.2.1 _ hw.2.2⟩ ⟨hpre.1, hrec, hpre.2⟩ rfl rfl hA.1 hst ?_ hd ?_) kk
  · show 2 * 0 + _ ≤ 8; omega
  · rw [C.2.2.2.2.2.2.2.2.2.1]; exact ⟨hc, hs⟩
theorem q_cn {own : String} {i : Nat} (C : Cx G Y B M) (h1 : Cond.code Y'.1 Y'.2.1 Y'.2.2.1 Y'.2.2.2 ∈ WS) (h2 : Cond.initialized Y'.1.cls ∈ WS) (h3 : Cond.methodLinkNest own i Y'.1 RX11 ∈ nwl) (hd : Y'.1.cls ≠ "java/lang/invoke/MethodHandle" ∧ Y'.1.cls ≠ "java/lang/invoke/VarHandle" ∧ (nPar Y').isSome = true ∧ Y'.2.2.1 ≤ 45) (hB : B'.1 + 1 ≤ B.1) {n : Nat} (hn : nPar Y' = some n) : va_CN M.2.2.1 M.2.2.2.1 M.2.2.2.2.2.1 own i Y'.1 RX11 Y'.2.1 Y'.2.2.1 Y'.2.2.2 (wsY Y') (rmB B') B'.2.1 B'.2.2 n := by
  have hts := C.2.2.2.2.2.1
  refine va_cnB (Ts := WS) n hts (wsY_good Y Y' h1) rfl rfl rfl (C.2.2.2.2.2.2.2.1.2.1 _ h3) (hts _ h2) ⟨hd.1, hd.2.1, hn⟩ ?_
  rw [C.2.2.2.2.2.2.2.2.2.1]
  show B'.1 + 1 ≤ B.1 ∧ 8 + (Y'.2.2.1 + 11) + 64 * B'.1 ≤ 64 * B.1
  have := hd.2.2.2
  omega
theorem q_callSN {i : Nat} (hd : decode Y.2.1 pc = .ok (.invokestatic i, 3)) (hw : sNOK Y.1.cls i Y') (hM : Ct l G Y' B' Z av Φ) (hst : st = av.reverse ++ rest) (hn : nPar Y' = some av.length) (hB : B'.1 + 1 ≤ B.1) (hc : cells + B'.2.1 ≤ B.2.1) (hs : slots + B'.2.2 ≤ B.2.2) (hW : (rest.map fun v => v.category).sum ≤ 8)
    (kk : ∀ (v : Option Value) (Z' : Zt), Φ v Z' → Jd l G Y B M Z' (cells + B'.2.1) (slots + B'.2.2) Q (pc + 3) ls (v.toList ++ rest)) : Jd l G Y B M Z cells slots Q pc ls st := by
  intro C H locs A hR hS hA
  refine q_run H locs A rfl C hS hA (va_runSN (As := av) (rest := rest) (g := F0 M.2.2.2.2.1 pc A st) ⟨C.1, C.2.1, C.2.2.1, C.2.2.2.2.1, C.2.2.2.2.2.1⟩ hM ⟨q_cn C hw.1 hw.2.1 hw.2.2.2.1 hw.2.2.2.2 hB hn, C.2.2.2.2.2.1 _ hw.2.2.1, trivial⟩ (q_pre C hR hS) rfl rfl hA.1 hst ?_ hd ?_) kk
  · show 2 * 0 + _ ≤ 8; omega
  · rw [C.2.2.2.2.2.2.2.2.2.1]; exact ⟨hc, hs⟩
theorem q_callIN {i b : Nat} (hd : decode Y.2.1 pc = .ok (.invokespecial i, 3)) (hw : iNOK Y.1.cls i Y') (hrt : Y'.2.2.2 = none) (hM : Ct l G Y' B' Z (.ref b :: av) Φ) (hst : st = av.reverse ++ .ref b :: rest) (hn : nPar Y' = some av.length) (hB : B'.1 + 1 ≤ B.1) (hc : cells + B'.2.1 ≤ B.2.1) (hs : slots + B'.2.2 ≤ B.2.2) (hW : (rest.map fun v => v.category).sum ≤ 8)
    (kk : ∀ (v : Option Value) (Z' : Zt), Φ v Z' → Jd l G Y B M Z' (cells + B'.2.1) (slots + B'.2.2) Q (pc + 3) ls (v.toList ++ rest)) : Jd l G Y B M Z cells slots Q pc ls st := by
  intro C H locs A hR hS hA
  refine q_run H locs A rfl C hS hA (va_runIN (As := av) (rest := rest) (g := F0 M.2.2.2.2.1 pc A st) ⟨C.1, C.2.1, C.2.2.1, C.2.2.2.2.1, C.2.2.2.2.2.1⟩ hM ⟨by rw [← hrt]; exact q_cn C hw.1 hw.2.1 hw.2.2.2.2.1 hw.2.2.2.2.2 hB hn, hw.2.2.1, C.2.2.2.2.2.1 _ hw.2.2.2.1⟩ (q_pre C hR hS) rfl rfl hA.1 hst ?_ hd ?_) kk
  · show 2 * 0 + _ ≤ 8; omega
  · rw [C.2.2.2.2.2.2.2.2.2.1]; exact ⟨hc, hs⟩
end QC
