/-! exceptions: what a throw needs, whatever the heap -/
def IOB : String := "java/lang/IndexOutOfBoundsException"
def xN : List String := ["java/lang/RuntimeException", "java/lang/Exception"]
def xB : List Cond := [.declares (Bundle.initS "java/lang/RuntimeException"), .declares (Bundle.initS "java/lang/Exception"), .declares (Bundle.initS Bundle.tN), .castable IOB IOB]
set_option maxRecDepth 100000 in
theorem xs_in0 : ∀ w ∈ (vx_atS RX11 192 IOB xN).filter goodWord, w ∈ lw_tbl := by decide +kernel
theorem xs_in : ∀ w ∈ (vx_atS RX11 192 IOB xN).filter goodWord, w ∈ WS := fun w h => List.mem_filter.mpr ⟨xs_in0 w h, (List.mem_filter.mp h).2⟩
theorem xs_b : ∀ w ∈ (vx_atS RX11 192 IOB xN).filter (fun w => !goodWord w), w ∈ xB := by decide +kernel
theorem xs_g : ∀ w ∈ Cond.classLink RX11 188 IOB :: Cond.initialized IOB :: vx_atS RX11 192 IOB xN, vx_ot w = true := by decide +kernel
theorem xB_ot : ∀ w ∈ xB, w.onTables = true := by decide +kernel
theorem ck_194 : Cond.classLink RX11 188 IOB ∈ WS := (ws_t 640 (by decide +kernel) rfl)
theorem ck_L13 : Cond.classLink RL 13 IOB ∈ WS := (ws_t 635 (by decide +kernel) rfl)
theorem in_IOB : Cond.initialized IOB ∈ WS := (ws_t 19 (by decide +kernel) rfl)
theorem in_L : Cond.initialized RL ∈ WS := (ws_t 0 (by decide +kernel) rfl)
theorem xB_warm {s U : State} (hW : s.WarmedH U.vm) : ∀ w ∈ xB, va_Nw w s → va_Nw w U := by
  intro w hw h
  simp only [xB, List.mem_cons, List.not_mem_nil, or_false] at hw
  rcases hw with rfl | rfl | rfl | rfl
  · exact va_Nw.warmD hW h
  · exact va_Nw.warmD hW h
  · exact va_Nw.warmD hW h
  · exact va_Nw.warmC hW h
def KS (U : State) : Prop := (∃ a, vk_R RX11 190 "the range has no such number" a U) ∧ (∃ a, vk_R RX11 202 "the range has no numbers" a U) ∧ ∃ a, vk_R RX11 220 "no such number was barred" a U
def KZ (G : Gt) (U : State) (H : Heap) : Prop := vx_Zq Bundle.tN "UNASSIGNED_STACK" Bundle.steD (fun q => G.2.2.2 ≤ q) U H ∧ vx_Zq Bundle.tN "SUPPRESSED_SENTINEL" Bundle.listD (fun q => G.2.2.2 ≤ q) U H
def KX (G : Gt) (U : State) : Prop := Kn G U ∧ (∀ w ∈ xB, va_Nw w U) ∧ KS U ∧ KZ G U U.heap
theorem KX.moved {G : Gt} {s U : State} (hW : s.WarmedH U.vm) (hq : ∀ a : Nat, a < s.heap.size → ¬ G.2.2.2 ≤ a → U.heap[a]? = s.heap[a]?) (h : KX G s) : KX G U := by
  obtain ⟨h1, h2, ⟨⟨a1, s1⟩, ⟨a2, s2⟩, ⟨a3, s3⟩⟩, z1, z2⟩ := h
  exact ⟨h1.moved hW, fun w hw => xB_warm hW w hw (h2 w hw), ⟨⟨a1, vk_R.warm hW s1⟩, ⟨a2, vk_R.warm hW s2⟩, ⟨a3, vk_R.warm hW s3⟩⟩, (vx_Zq.moved hW.alike z1).kept hq, (vx_Zq.moved hW.alike z2).kept hq⟩
theorem KX.same {G : Gt} {s U : State} (hv : s.vm = U.vm) (hh : U.heap = s.heap) (h : KX G s) : KX G U := by
  obtain ⟨h1, h2, ⟨⟨a1, s1⟩, ⟨a2, s2⟩, ⟨a3, s3⟩⟩, z1, z2⟩ := h
  have hal : s.vm.Alike U.vm := by rw [hv]; exact Vm.Alike.refl _
  refine ⟨h1.same hv, fun w hw => va_Nw.same (xB_ot w hw) hv (h2 w hw), ⟨⟨a1, vk_R.same hv.symm s1⟩, ⟨a2, vk_R.same hv.symm s2⟩, ⟨a3, vk_R.same hv.symm s3⟩⟩, ?_⟩
  rw [hh]
  exact ⟨vx_Zq.moved hal z1, vx_Zq.moved hal z2⟩
theorem Rep_nW {G : Gt} {Z : Zt} {H H1 : Heap} (h : Rep G Z H) (hz : H.size ≤ H1.size) (oq : ∀ x : Nat, x < H.size → H1[x]? = H[x]?) : Rep G (nW Z (H1.size - H.size)) H1 := by
  obtain ⟨h1, h2, h3, h4, h5, h6, h7⟩ := h
  have lt : ∀ a, zK Z a ≠ 0 → a < H.size := fun a ha => by rw [h1]; exact (h2 a ha).2
  refine ⟨?_, fun a ha => ⟨(h2 a ha).1, Nat.lt_of_lt_of_le (h2 a ha).2 (Nat.le_add_right _ _)⟩, fun a c q hk hq => ?_, fun a hk => ?_, fun a hk => ?_, fun a hk => ?_, fun a r hk hr => ?_⟩
  · show H1.size = zN Z + (H1.size - H.size)
    omega
  · exact (h3 a c q hk hq).kept (oq a (lt a (by have : zK Z a = c + 1 := hk; omega)))
  · rw [oq a (lt a (by have : zK Z a = 20 := hk; omega))]; exact h4 a hk
  · rw [oq a (lt a (by have : zK Z a = 21 := hk; omega))]; exact h5 a hk
  · rw [oq a (lt a (by have : zK Z a = 22 := hk; omega))]; exact h6 a hk
  · rw [oq a (lt a (by have : zK Z a = 23 + r := hk; omega))]; exact h7 a r hk hr
/-- where the class has thrown -/
def XCt (G : Gt) (Z : Zt) : String → State → State → Prop := fun E st t => E = IOB ∧ (∃ k, Rep G (nW Z k) t.heap) ∧ va_F (fun q => G.2.2.2 ≤ q) st t
def PcX (G : Gt) (Z : Zt) (args : List Value) : Array Value → State → Prop := va_Pc args (fun U => Rep G Z U.heap ∧ KX G U ∧ G.2.2.2 ≤ U.heap.size)
def CtX (l : Launch) (G : Gt) (Y : Yt) (B : Bt) (Z : Zt) (args : List Value) : Prop := vx_Met l Y.1 (wsY Y) (rmB B) (PcX G Z args) (fun _ _ _ _ => False) (XCt G Z) B.2.1 B.2.2 (fun q => G.2.2.2 ≤ q)
def QX (G : Gt) (B : Bt) (M : Mt) (Z : Zt) : State → Prop := vx_MQ M.2.2.2.2.2.2.1 (fun _ _ _ _ => False) (XCt G Z) M.2.2.2.2.2.1 M.2.2.2.1 B.2.1 B.2.2 (fun q => G.2.2.2 ≤ q)
theorem PcX_blind (G : Gt) (Z : Zt) (av : List Value) : FrameBlind (PcX G Z av) := fun a U g mk h => ⟨h.1, h.2.1, KX.same (s := U) (U := U.calling g mk a) rfl rfl h.2.2.1, h.2.2.2⟩
theorem ctx_of {l : Launch} {G : Gt} {Y : Yt} {B : Bt} {Z : Zt} {args : List Value} (ls : List (Option Value)) (hy : plainName Y.1.cls = true) (hl : (lg_sl args).length ≤ Y.2.2.1) (he : aL 0 ls = lv_args 0 args)
    (body : ∀ M : Mt, KX G M.2.2.2.1 → (∀ x ∈ M.2.2.2.2.2.2.2.2.exceptionTable.toList, False) → Jd l G Y B M Z 0 0 (QX G B M Z) 0 ls []) : CtX l G Y B Z args := by
  refine vx_ofW (cc := Y.2.1) (maxL := Y.2.2.1) (ret := Y.2.2.2) hy rfl ?_
  intro p e s m args' below meth c s₁ Bd hml htab hv
  obtain ⟨rfl, hR, hK, hB⟩ := hv
  have hts := atoms_spec (ws := wsY Y) Bd.pre
  have hnm : meth.name = Y.1.name := (name_of_methodNamed Bd.named Bd.method).1
  have hl0 := lv_entry args (n := Y.2.2.1) hl
  rw [lg_entry_eq]
  exact body (p, e, rmB B, s, m, args.toArray, below, meth, c) hK htab ⟨Bd.exec, Bd.bytes, hml, Bd.returns, findClass_of_methodNamed Bd.named, fun w hw => hts w (List.mem_cons_of_mem _ hw), Bd.notSynchronized, hK.1, hB, rfl, hnm⟩ s.heap [] _ hR va_S.rf (by rw [he]; exact hl0)
theorem q_throw {l : Launch} {G : Gt} {Y : Yt} {B : Bt} {M : Mt} {Z : Zt} {cells slots pc is sa : Nat} {ls : List (Option Value)} {rest : List Value} {text : String} (hl : l.stackTraces = false) (hY : Y.1.cls = RX11) (hX : KX G M.2.2.2.1) (ht : ∀ x ∈ M.2.2.2.2.2.2.2.2.exceptionTable.toList, False) (hstr : vk_R RX11 is text sa M.2.2.2.1)
    (d0 : decode Y.2.1 pc = .ok (.new 188, 3)) (d3 : decode Y.2.1 (pc + 3) = .ok (.dup, 1)) (d4 : decode Y.2.1 (pc + 4) = .ok (.ldc is, 2)) (d6 : decode Y.2.1 (pc + 6) = .ok (.invokespecial 192, 3)) (d9 : decode Y.2.1 (pc + 9) = .ok (.athrow, 1)) (hB : 6 ≤ B.1) (hW : (rest.map fun v => v.category).sum ≤ 8) (hc : cells + 1 ≤ B.2.1) (hs : slots + 6 ≤ B.2.2) : Jd l G Y B M Z cells slots (QX G B M Z) pc ls rest := by
  intro C H locs A hR hS hA
  obtain ⟨hx, hb, hml, hr, hown, hts, hlk, hKn, hBs, hRm, hnm⟩ := id C
  rw [hY] at hown
  obtain ⟨-, hN4, -, hU, hNn⟩ := hX
  refine vx_throwS (A := fun q => G.2.2.2 ≤ q) (names := xN) hx hb hl hown (by decide +kernel) (by decide +kernel) (hts _ ck_194) (hts _ in_IOB) hstr (vx_hat (fun w h => hts w (xs_in w h)) xs_b (fun w h => (hN4 w h).use (xB_ot w h))) xs_g hU hNn hS (hA.1.trans hml.symm) d0 d3 d4 d6 d9 (fun x h => (ht x h).elim) ?_ ?_ ?_ ?_ hlk (fun t hal hz hq => ⟨rfl, ⟨_, Rep_nW hR hz hq⟩, Nat.le_trans hS.1 hz, fun q h1 h2 => (hq q (Nat.lt_of_lt_of_le h1 hS.1)).trans (hS.2.1 q h1 h2)⟩) hS.2.2 hc hs
  · rw [hRm]; show 2 + 3 < B.1; omega
  · rw [hRm]; show _ + (13 * (2 + 1) + 43) ≤ 64 * B.1; omega
  · rw [hRm]; exact hc
  · rw [hRm]; exact hs
/-! the law's helpers: methods with a table -/
def wsYW (Y : Yt) (hh : List (Nat × Nat × Nat × Nat)) : List Cond := Cond.codeWith Y.1 Y.2.1 Y.2.2.1 Y.2.2.2 hh :: WS
def CtW (l : Launch) (G : Gt) (Y : Yt) (hh : List (Nat × Nat × Nat × Nat)) (B : Bt) (Z : Zt) (args : List Value) (Φ : Option Value → Zt → Prop) : Prop := Met l Y.1 (wsYW Y hh) (rmB B) (PcX G Z args) (Qc G Φ) B.2.1 B.2.2 (fun q => G.2.2.2 ≤ q)
theorem ctw_of {l : Launch} {G : Gt} {Y : Yt} {hh : List (Nat × Nat × Nat × Nat)} {B : Bt} {Z : Zt} {args : List Value} {Φ : Option Value → Zt → Prop} (ls : List (Option Value)) (hy : plainName Y.1.cls = true) (hl : (lg_sl args).length ≤ Y.2.2.1) (he : aL 0 ls = lv_args 0 args)
    (body : ∀ M : Mt, KX G M.2.2.2.1 → M.2.2.2.2.2.2.2.2.exceptionTable.toList = tableOf hh → Jd l G Y B M Z 0 0 (Qm G B M Φ) 0 ls []) : CtW l G Y hh B Z args Φ := by
  unfold CtW Met
  refine MetFree.of_bodyS (code := Y.2.1) (maxLocals := Y.2.2.1) (ret := Y.2.2.2) hy ?_ ?_
  · intro args s m h hn
    obtain ⟨m9, meth, c, hn9, h1, h2, h3, h4, -, h5, h6, -⟩ := Cond.codeWith_spec (atoms_spec (ws := wsYW Y hh) h _ List.mem_cons_self)
    cases hn.symm.trans hn9
    exact ⟨meth, c, h1, h2, h3, h4, h5, h6⟩
  · intro p e s m args' below meth c s₁ Bd hml hv _
    obtain ⟨rfl, hR, hK, hB⟩ := hv
    have hts := atoms_spec (ws := wsYW Y hh) Bd.pre
    have hnm : meth.name = Y.1.name := (name_of_methodNamed Bd.named Bd.method).1
    have hl0 := lv_entry args (n := Y.2.2.1) hl
    have hh0 : s₁.heap = s.heap := by rw [Bd.state]; rfl
    have K := body (p, e, rmB B, s, m, args.toArray, below, meth, c) hK (vx_table (x := Y.1) Bd (hts _ List.mem_cons_self)) ⟨Bd.exec, Bd.bytes, hml, Bd.returns, findClass_of_methodNamed Bd.named, fun w hw => hts w (List.mem_cons_of_mem _ hw), Bd.notSynchronized, hK.1, hB, rfl, hnm⟩ s.heap [] _ hR va_S.rf (by rw [he]; exact hl0)
    have K2 : W p l e (rmB B) s m args.toArray below meth c s.heap [] 0 0 (Qm G B (p, e, rmB B, s, m, args.toArray, below, meth, c) Φ) (entryFrame m args.toArray Y.2.2.1) := by
      rw [lg_entry_eq]; exact K
    obtain ⟨t, a1, o, b1, b2, b3, b4⟩ := K2 s₁ hh0 (Stand.of_body Bd)
    exact ⟨t, o, a1, b1, b2, b3, b4⟩
section QX
variable {l : Launch} {G : Gt} {Y Y' : Yt} {B B' : Bt} {M : Mt} {Z : Zt} {cells slots : Nat} {Q : State → Prop} {pc : Nat} {ls : List (Option Value)} {st rest av : List Value} {Φ : Option Value → Zt → Prop}
theorem q_preX {H : Heap} {locs : List Loc} (C : Cx G Y B M) (hX : KX G M.2.2.2.1) (hR : Rep G Z H) (hS : va_S (fun q => G.2.2.2 ≤ q) M.2.2.2.1.heap H locs) : ∀ U : State, U.heap = H → M.2.2.2.1.WarmedH U.vm → PcX G Z av av.toArray U :=
  fun U hU hW => ⟨rfl, by rw [hU]; exact hR, hX.moved hW (fun a h1 h2 => by rw [hU]; exact hS.2.1 a h1 h2), by rw [hU]; exact Nat.le_trans C.2.2.2.2.2.2.2.2.1 hS.1⟩
/-- a call that throws, and is caught here -/
theorem q_callX {i b : Nat} (c : Nat) (x : ExceptionTableEntry) (hd : decode Y.2.1 pc = .ok (.invokevirtual i, 3)) (hw : vOK Y.1.cls i Y') (hc0 : (vwCl[c]?).map (fun q => q.1) = some Y'.1.cls) (hk : zK Z b = c + 1) (hM : CtX l G Y' B' Z (.ref b :: av)) (hst : st = av.reverse ++ .ref b :: rest) (hn : nPar Y' = some av.length) (hB : B'.1 + 1 ≤ B.1) (hc : cells + B'.2.1 ≤ B.2.1) (hs : slots + B'.2.2 ≤ B.2.2) (hW : (rest.map fun v => v.category).sum ≤ 8)
    (hX : KX G M.2.2.2.1) (htab : M.2.2.2.2.2.2.2.2.exceptionTable.toList = [] ++ x :: []) (hcov : covers x pc = true) (h0 : x.catchType ≠ 0) (hlink : Cond.classLink Y.1.cls x.catchType IOB ∈ WS)
    (kk : ∀ k q, Jd l G Y B M (nW Z k) (cells + B'.2.1) (slots + B'.2.2) Q x.handlerPc ls [.ref q]) : Jd l G Y B M Z cells slots Q pc ls st := by
  intro C H locs A hR hS hA T hT X
  obtain ⟨q, hq, hqc⟩ := Option.map_eq_some_iff.mp hc0
  have hrec := q_recv C hR hk hq
  rw [hqc] at hrec
  have hr := vx_runV (p := M.1) (l := l) (e := M.2.1) (R := M.2.2.1) (s := M.2.2.2.1) (m := M.2.2.2.2.1) (args := M.2.2.2.2.2.1) (below := M.2.2.2.2.2.2.1) (meth := M.2.2.2.2.2.2.2.1) (c := M.2.2.2.2.2.2.2.2) (H := H) (locs := locs) (cells := cells) (slots := slots) (As := av) (rest := rest) (g := F0 M.2.2.2.2.1 pc A st) (C := Y'.1.cls) ⟨C.1, C.2.1, C.2.2.1, C.2.2.2.2.1, C.2.2.2.2.2.1⟩ hM ⟨q_cb C hw.1 hB hn, C.2.2.2.2.2.1 _ hw.2.1, C.2.2.2.2.2.1 _ hw.2.2⟩ ⟨PcX_blind G Z _, hrec, q_preX (av := .ref b :: av) C hX hR hS⟩ rfl rfl hA.1 hst (by show 2 * 0 + _ ≤ 8; omega) hd (by rw [C.2.2.2.2.2.2.2.2.2.1]; exact ⟨hc, hs⟩)
  rcases hr T hT X with ⟨v, st₀, t, T', L, -, -, -, -, -, hF, -⟩ | ⟨q9, st₀, t, T', L, E, ce, h9, X', hL, e1, e2, ⟨rfl, ⟨k, hRt⟩, hz, hF⟩, hce, hcv, hcl, stp⟩
  · exact hF.elim
  · rw [h9] at hz hF
    have hS' : va_S (fun q => G.2.2.2 ≤ q) M.2.2.2.1.heap T'.heap (locs ++ L) := ⟨Nat.le_trans hS.1 (by rw [e1]; exact hz), fun q h1 h2 => by rw [e1, hF q (Nat.lt_of_lt_of_le h1 hS.1) h2]; exact hS.2.1 q h1 h2, fun q hq => by
      rcases List.mem_append.mp hq with h | h
      · exact hS.2.2 q h
      · exact hL q h⟩
    have kW := vx_catch (own := Y.1.cls) (name := IOB) (E := IOB) (pc := pc) (ls := A) (rest := rest) C.2.2.2.2.1 [] x [] htab (fun z hz => absurd hz List.not_mem_nil) hcov h0 (C.2.2.2.2.2.1 _ hlink) ((hX.2.1 (.castable IOB IOB) (by simp [xB])).use rfl) (by rw [e1]; exact hce) hcv hcl (kk k q9 C T'.heap (locs ++ L) A (by rw [e1]; exact hRt) hS' hA)
    obtain ⟨t2, a1, b1⟩ := kW T' rfl X'
    exact ⟨t2, stp.trans a1, b1⟩
def sWOK (own : String) (i : Nat) (Y : Yt) (hh : List (Nat × Nat × Nat × Nat)) : Prop := Cond.codeWith Y.1 Y.2.1 Y.2.2.1 Y.2.2.2 hh ∈ WS ∧ Cond.initialized Y.1.cls ∈ WS ∧ Cond.methodLink own i Y.1 ∈ WS ∧ Cond.static Y.1 ∈ WS ∧ (Y.1.cls ≠ "java/lang/invoke/MethodHandle" ∧ Y.1.cls ≠ "java/lang/invoke/VarHandle" ∧ (nPar Y).isSome = true ∧ Y.2.2.1 ≤ 45)
/-- a static call of a method with a table -/
theorem q_callSW {i : Nat} {hh : List (Nat × Nat × Nat × Nat)} (hd : decode Y.2.1 pc = .ok (.invokestatic i, 3)) (hw : sWOK Y.1.cls i Y' hh) (hX : KX G M.2.2.2.1) (hM : CtW l G Y' hh B' Z av Φ) (hst : st = av.reverse ++ rest) (hn : nPar Y' = some av.length) (hB : B'.1 + 1 ≤ B.1) (hc : cells + B'.2.1 ≤ B.2.1) (hs : slots + B'.2.2 ≤ B.2.2) (hW : (rest.map fun v => v.category).sum ≤ 8)
    (kk : ∀ (v : Option Value) (Z' : Zt), Φ v Z' → Jd l G Y B M Z' (cells + B'.2.1) (slots + B'.2.2) Q (pc + 3) ls (v.toList ++ rest)) : Jd l G Y B M Z cells slots Q pc ls st := by
  intro C H locs A hR hS hA
  obtain ⟨h1, h2, h3, h4, h5, h6, h7, h8⟩ := hw
  have hts := C.2.2.2.2.2.1
  refine q_run H locs A rfl C hS hA (vx_runSW (hh := hh) (bytes := Y'.2.1) (maxL := Y'.2.2.1) (ret := Y'.2.2.2) (n := av.length) (As := av) (rest := rest) (g := F0 M.2.2.2.2.1 pc A st) ⟨C.1, C.2.1, C.2.2.1, C.2.2.2.2.1, C.2.2.2.2.2.1⟩ hM ?_ ⟨PcX_blind G Z _, q_preX C hX hR hS⟩ rfl rfl hA.1 hst ?_ hd ?_) kk
  · refine ⟨⟨rfl, rfl, ?_, ?_, pay_in hts (fun w hw => ?_), List.mem_cons_self⟩, hts _ h1, hts _ h2, ⟨h5, h6⟩, fun sig hsig => ?_, hts _ h3, hts _ h4⟩
    · rw [C.2.2.2.2.2.2.2.2.2.1]; exact hB
    · rw [C.2.2.2.2.2.2.2.2.2.1]; show 8 + (Y'.2.2.1 + 11) + 64 * B'.1 ≤ 64 * B.1; omega
    · rcases List.mem_cons.mp hw with rfl | hw
      · exact ⟨h1, good_of_word (ws_good h1)⟩
      · exact ⟨hw, good_of_word (ws_good hw)⟩
    · have h9 : (parseMethodDescriptor Y'.1.desc).map (fun d => d.parameters.length) = some av.length := hn
      rw [hsig] at h9
      exact (Option.some.inj h9).symm
  · show 2 * 0 + _ ≤ 8; omega
  · rw [C.2.2.2.2.2.2.2.2.2.1]; exact ⟨hc, hs⟩
end QX
set_option maxHeartbeats 600000 in
set_option maxRecDepth 100000 in
theorem cx_at (l : Launch) (hl : l.stackTraces = false) (G : Gt) (Z : Zt) (x nf ns : Nat) (af as : Nat → Nat) (σ : St) (h : CR Z x σ af as nf ns) (k : Int64) (ho : ¬ (¬ k < 0 ∧ k < σ.2 39 0)) : CtX l G YX11_at (6, 1, 6) Z [.ref x, .long k] := by
  refine ctx_of [some (.ref x), some (.long k), none] (by decide +kernel) (Nat.le_of_ble_eq_true rfl) rfl (fun M hX htab => ?_)
  have hx := h.1.1.1
  have hr := h.1.1.2.2.2.1
  have ht := h.1.1.2.2.1
  obtain ⟨⟨sa1, hs1⟩, ⟨sa2, hs2⟩, ⟨sa3, hs3⟩⟩ := hX.2.2.1
  refine q_lload_n dX11_at_0 rfl ?_
  refine q_lconst (v := 0) dX11_at_1 (by decide) ?_
  refine q_lcmp_lt 18 dX11_at_2 dX11_at_3 (by decide) (fun c2 => ?_) (fun c2 => ?_)
  · exact q_throw hl rfl hX htab hs1 dX11_at_18 dX11_at_21 dX11_at_22 dX11_at_24 dX11_at_27 (by decide) (Nat.le_of_ble_eq_true rfl) (by decide) (by decide)
  · refine q_lload_n dX11_at_6 rfl ?_
    first | refine q_aload_n dX11_at_7 rfl ?_ | refine q_aload_nN dX11_at_7 rfl ?_
    refine q_getf dX11_at_8 fk_X11_43_10 hx.1 hx.2.2.2.2.2.2.1 ?_
    refine q_callV 4 dX11_at_11 mk_X11_184 rfl hr.1 (cc_many l G Z x nf ns af as σ h) rfl np_X5_many (by decide) (by decide) (by decide) (Nat.le_of_ble_eq_true rfl) (kL (fun r11 Z11 h11 => ?_))
    obtain ⟨rfl, rfl⟩ := h11
    refine q_lcmp_lt 28 dX11_at_14 dX11_at_15 (by decide) (fun c14 => absurd c14 (fun z => ho ⟨c2, z⟩)) (fun c14 => ?_)
    exact q_throw hl rfl hX htab hs1 dX11_at_18 dX11_at_21 dX11_at_22 dX11_at_24 dX11_at_27 (by decide) (Nat.le_of_ble_eq_true rfl) (by decide) (by decide)
set_option maxHeartbeats 600000 in
set_option maxRecDepth 100000 in
theorem cx_draw (l : Launch) (hl : l.stackTraces = false) (G : Gt) (Z : Zt) (x nf ns : Nat) (af as : Nat → Nat) (σ : St) (h : CR Z x σ af as nf ns) (n : Int64) (ho : σ.2 39 0 = 0) : CtX l G YX11_draw (6, 1, 6) Z [.ref x, .long n] := by
  refine ctx_of [some (.ref x), some (.long n), none, none, none] (by decide +kernel) (Nat.le_of_ble_eq_true rfl) rfl (fun M hX htab => ?_)
  have hx := h.1.1.1
  have hr := h.1.1.2.2.2.1
  have ht := h.1.1.2.2.1
  obtain ⟨⟨sa1, hs1⟩, ⟨sa2, hs2⟩, ⟨sa3, hs3⟩⟩ := hX.2.2.1
  first | refine q_aload_n dX11_draw_0 rfl ?_ | refine q_aload_nN dX11_draw_0 rfl ?_
  refine q_getf dX11_draw_1 fk_X11_43_10 hx.1 hx.2.2.2.2.2.2.1 ?_
  refine q_callV 4 dX11_draw_4 mk_X11_184 rfl hr.1 (cc_many l G Z x nf ns af as σ h) rfl np_X5_many (by decide) (by decide) (by decide) (Nat.le_of_ble_eq_true rfl) (kL (fun r4 Z4 h4 => ?_))
  obtain ⟨rfl, rfl⟩ := h4
  refine q_lstore_n (ls' := [_, _, _, _, _]) dX11_draw_7 rfl rfl (Nat.le_of_ble_eq_true rfl) (by decide) ?_
  refine q_lload_n dX11_draw_8 rfl ?_
  refine q_lconst (v := 0) dX11_draw_9 (by decide) ?_
  refine q_lcmp_gt 24 dX11_draw_10 dX11_draw_11 (by decide) (fun c10 => absurd c10 (by rw [ho]; decide)) (fun c10 => ?_)
  exact q_throw hl rfl hX htab hs2 dX11_draw_14 dX11_draw_17 dX11_draw_18 dX11_draw_20 dX11_draw_23 (by decide) (Nat.le_of_ble_eq_true rfl) (by decide) (by decide)
set_option maxHeartbeats 600000 in
set_option maxRecDepth 100000 in
theorem cx_barredAt (l : Launch) (hl : l.stackTraces = false) (G : Gt) (Z : Zt) (x nf ns : Nat) (af as : Nat → Nat) (σ : St) (h : CR Z x σ af as nf ns) (i : Int32) (ho : ¬ (¬ i < 0 ∧ ¬ σ.1 32 0 ≤ i)) : CtX l G YX11_barredAt (6, 1, 6) Z [.ref x, .int i] := by
  refine ctx_of [some (.ref x), some (.int i)] (by decide +kernel) (Nat.le_of_ble_eq_true rfl) rfl (fun M hX htab => ?_)
  have hx := h.1.1.1
  have hr := h.1.1.2.2.2.1
  have ht := h.1.1.2.2.1
  obtain ⟨⟨sa1, hs1⟩, ⟨sa2, hs2⟩, ⟨sa3, hs3⟩⟩ := hX.2.2.1
  obtain ⟨b, hb20, hb, h3, hbr⟩ := h.2.2.1
  rw [hb] at ho
  first | refine q_aload_n dX11_barredAt_0 rfl ?_ | refine q_aload_nN dX11_barredAt_0 rfl ?_
  refine q_getf dX11_barredAt_1 fk_X11_36_10 hx.1 hx.2.2.2.2.2.1 ?_
  refine q_iload_n dX11_barredAt_4 rfl ?_
  refine q_callV 9 dX11_barredAt_5 mk_X11_210 rfl ht.1 (c_X10_hasBarred l G Z (x + 5) (nI b) i ht.1 h3) rfl np_X10_hasBarred (by decide) (by decide) (by decide) (Nat.le_of_ble_eq_true rfl) (kI (fun r5 Z5 h5 => ?_))
  obtain ⟨e5, h5⟩ := h5
  rw [e5]
  refine q_if_ne 21 dX11_barredAt_8 (by decide) (fun c8 => absurd c8 (fun z => z (h5.2 (fun u => ho ((barIn hb20).mp u))))) (fun c8 => ?_)
  exact q_throw hl rfl hX htab hs3 dX11_barredAt_11 dX11_barredAt_14 dX11_barredAt_15 dX11_barredAt_17 dX11_barredAt_20 (by decide) (Nat.le_of_ble_eq_true rfl) (by decide) (by decide)
abbrev YL_at : Yt := (yL_at, cL_at, 5, some .int)
theorem sw_at : sWOK RL 86 YL_at [(0, 8, 11, 13)] := ⟨(ws_t 634 (by decide +kernel) rfl), in_L, (ws_t 632 (by decide +kernel) rfl), (ws_t 633 (by decide +kernel) rfl), by decide +kernel⟩
theorem np_L_at : nPar YL_at = some 3 := by decide +kernel
abbrev YL_draw : Yt := (yL_draw, cL_draw, 5, some .int)
theorem sw_draw : sWOK RL 99 YL_draw [(0, 8, 11, 13)] := ⟨(ws_t 713 (by decide +kernel) rfl), in_L, (ws_t 711 (by decide +kernel) rfl), (ws_t 712 (by decide +kernel) rfl), by decide +kernel⟩
theorem np_L_draw : nPar YL_draw = some 3 := by decide +kernel
abbrev YL_barredAt : Yt := (yL_barredAt, cL_barredAt, 4, some .int)
theorem sw_barredAt : sWOK RL 110 YL_barredAt [(0, 8, 11, 13)] := ⟨(ws_t 722 (by decide +kernel) rfl), in_L, (ws_t 720 (by decide +kernel) rfl), (ws_t 721 (by decide +kernel) rfl), by decide +kernel⟩
theorem np_L_barredAt : nPar YL_barredAt = some 3 := by decide +kernel
set_option maxHeartbeats 600000 in
set_option maxRecDepth 100000 in
theorem cl_at (l : Launch) (hl : l.stackTraces = false) (G : Gt) (Z : Zt) (x nf ns : Nat) (af as : Nat → Nat) (σ : St) (h : CR Z x σ af as nf ns) (o : Nat) (hoK : zK Z o = 21) (hoL : zL Z o = 1) (k : Int64) : CtW l G YL_at [(0, 8, 11, 13)] (7, 1, 6) Z [.ref x, .long k, .ref o] (ΦI (fun r Z1 => ((¬ k < 0 ∧ k < σ.2 39 0) → r = 0 ∧ Z1 = sJ Z o 0 (atS σ k)) ∧ (¬ (¬ k < 0 ∧ k < σ.2 39 0) → r = 1 ∧ ∃ k, Z1 = nW Z k))) := by
  refine ctw_of [some (.ref x), some (.long k), none, some (.ref o), none] (by decide +kernel) (Nat.le_of_ble_eq_true rfl) rfl (fun M hX htab => ?_)
  have hx := h.1.1.1
  refine q_aload_n dL_at_0 rfl ?_
  refine q_iconst (v := 0) dL_at_1 (by decide) ?_
  refine q_aload_n dL_at_2 rfl ?_
  refine q_lload_n dL_at_3 rfl ?_
  by_cases hc : (¬ k < 0 ∧ k < σ.2 39 0)
  · refine q_callV 10 dL_at_4 mk_L_7 rfl hx.1 (cc_at l G Z x nf ns af as σ h k hc.1 hc.2) rfl np_X11_at (by decide) (by decide) (by decide) (Nat.le_of_ble_eq_true rfl) (kL (fun r Z1 h1 => ?_))
    obtain ⟨rfl, rfl⟩ := h1
    refine q_last dL_at_7 hoK (by rw [hoL]; exact vp_in_nI (n := 0) (by omega) (by decide)) ?_
    refine q_goto 15 dL_at_8 (by decide) ?_
    refine q_iconst (v := 0) dL_at_15 (by decide) ?_
    exact q_ireturn dL_at_16 rfl (by decide) (by decide) ⟨fun _ => ⟨rfl, rfl⟩, fun z => absurd hc z⟩
  · refine q_callX 10 ⟨0, 8, 11, 13⟩ dL_at_4 mk_L_7 rfl hx.1 (cx_at l hl G Z x nf ns af as σ h k hc) rfl np_X11_at (by decide) (by decide) (by decide) (Nat.le_of_ble_eq_true rfl) hX (htab.trans rfl) rfl (by decide) ck_L13 (fun k q => ?_)
    refine q_astore (ls' := [_, _, _, _, _]) dL_at_11 rfl rfl (Nat.le_of_ble_eq_true rfl) (by decide) ?_
    refine q_iconst (v := 1) dL_at_13 (by decide) ?_
    exact q_ireturn dL_at_14 rfl (by decide) (by decide) ⟨fun z => absurd z hc, fun _ => ⟨rfl, k, rfl⟩⟩
set_option maxHeartbeats 600000 in
set_option maxRecDepth 100000 in
theorem cl_draw (l : Launch) (hl : l.stackTraces = false) (G : Gt) (Z : Zt) (x nf ns : Nat) (af as : Nat → Nat) (σ : St) (h : CR Z x σ af as nf ns) (o : Nat) (hoK : zK Z o = 21) (hoL : zL Z o = 1) (n : Int64) : CtW l G YL_draw [(0, 8, 11, 13)] (7, 1, 6) Z [.ref x, .long n, .ref o] (ΦI (fun r Z1 => ((¬ σ.2 39 0 = 0) → r = 0 ∧ Z1 = sJ Z o 0 (atS σ (uR n (σ.2 39 0)))) ∧ (¬ (¬ σ.2 39 0 = 0) → r = 1 ∧ ∃ k, Z1 = nW Z k))) := by
  refine ctw_of [some (.ref x), some (.long n), none, some (.ref o), none] (by decide +kernel) (Nat.le_of_ble_eq_true rfl) rfl (fun M hX htab => ?_)
  have hx := h.1.1.1
  refine q_aload_n dL_draw_0 rfl ?_
  refine q_iconst (v := 0) dL_draw_1 (by decide) ?_
  refine q_aload_n dL_draw_2 rfl ?_
  refine q_lload_n dL_draw_3 rfl ?_
  by_cases hc : (¬ σ.2 39 0 = 0)
  · refine q_callV 10 dL_draw_4 mk_L_15 rfl hx.1 (cc_draw l G Z x nf ns af as σ h n (fun z => hc (Int64.le_antisymm z (Int64.not_lt.mp (CR.pl h).b)))) rfl np_X11_draw (by decide) (by decide) (by decide) (Nat.le_of_ble_eq_true rfl) (kL (fun r Z1 h1 => ?_))
    obtain ⟨rfl, rfl⟩ := h1
    refine q_last dL_draw_7 hoK (by rw [hoL]; exact vp_in_nI (n := 0) (by omega) (by decide)) ?_
    refine q_goto 15 dL_draw_8 (by decide) ?_
    refine q_iconst (v := 0) dL_draw_15 (by decide) ?_
    exact q_ireturn dL_draw_16 rfl (by decide) (by decide) ⟨fun _ => ⟨rfl, rfl⟩, fun z => absurd hc z⟩
  · refine q_callX 10 ⟨0, 8, 11, 13⟩ dL_draw_4 mk_L_15 rfl hx.1 (cx_draw l hl G Z x nf ns af as σ h n (Classical.not_not.mp hc)) rfl np_X11_draw (by decide) (by decide) (by decide) (Nat.le_of_ble_eq_true rfl) hX (htab.trans rfl) rfl (by decide) ck_L13 (fun k q => ?_)
    refine q_astore (ls' := [_, _, _, _, _]) dL_draw_11 rfl rfl (Nat.le_of_ble_eq_true rfl) (by decide) ?_
    refine q_iconst (v := 1) dL_draw_13 (by decide) ?_
    exact q_ireturn dL_draw_14 rfl (by decide) (by decide) ⟨fun z => absurd z hc, fun _ => ⟨rfl, k, rfl⟩⟩
set_option maxHeartbeats 600000 in
set_option maxRecDepth 100000 in
theorem cl_barredAt (l : Launch) (hl : l.stackTraces = false) (G : Gt) (Z : Zt) (x nf ns : Nat) (af as : Nat → Nat) (σ : St) (h : CR Z x σ af as nf ns) (o : Nat) (hoK : zK Z o = 21) (hoL : zL Z o = 1) (i : Int32) : CtW l G YL_barredAt [(0, 8, 11, 13)] (7, 1, 6) Z [.ref x, .int i, .ref o] (ΦI (fun r Z1 => ((¬ i < 0 ∧ ¬ σ.1 32 0 ≤ i) → r = 0 ∧ Z1 = sJ Z o 0 (σ.2 33 i.toNatClampNeg)) ∧ (¬ (¬ i < 0 ∧ ¬ σ.1 32 0 ≤ i) → r = 1 ∧ ∃ k, Z1 = nW Z k))) := by
  refine ctw_of [some (.ref x), some (.int i), some (.ref o), none] (by decide +kernel) (Nat.le_of_ble_eq_true rfl) rfl (fun M hX htab => ?_)
  have hx := h.1.1.1
  refine q_aload_n dL_barredAt_0 rfl ?_
  refine q_iconst (v := 0) dL_barredAt_1 (by decide) ?_
  refine q_aload_n dL_barredAt_2 rfl ?_
  refine q_iload_n dL_barredAt_3 rfl ?_
  by_cases hc : (¬ i < 0 ∧ ¬ σ.1 32 0 ≤ i)
  · refine q_callV 10 dL_barredAt_4 mk_L_18 rfl hx.1 (cc_barredAt l G Z x nf ns af as σ h i hc.1 hc.2) rfl np_X11_barredAt (by decide) (by decide) (by decide) (Nat.le_of_ble_eq_true rfl) (kL (fun r Z1 h1 => ?_))
    obtain ⟨rfl, rfl⟩ := h1
    refine q_last dL_barredAt_7 hoK (by rw [hoL]; exact vp_in_nI (n := 0) (by omega) (by decide)) ?_
    refine q_goto 14 dL_barredAt_8 (by decide) ?_
    refine q_iconst (v := 0) dL_barredAt_14 (by decide) ?_
    exact q_ireturn dL_barredAt_15 rfl (by decide) (by decide) ⟨fun _ => ⟨rfl, rfl⟩, fun z => absurd hc z⟩
  · refine q_callX 10 ⟨0, 8, 11, 13⟩ dL_barredAt_4 mk_L_18 rfl hx.1 (cx_barredAt l hl G Z x nf ns af as σ h i hc) rfl np_X11_barredAt (by decide) (by decide) (by decide) (Nat.le_of_ble_eq_true rfl) hX (htab.trans rfl) rfl (by decide) ck_L13 (fun k q => ?_)
    refine q_astore_n (ls' := [_, _, _, _]) dL_barredAt_11 rfl rfl (Nat.le_of_ble_eq_true rfl) (by decide) ?_
    refine q_iconst (v := 1) dL_barredAt_12 (by decide) ?_
    exact q_ireturn dL_barredAt_13 rfl (by decide) (by decide) ⟨fun z => absurd z hc, fun _ => ⟨rfl, k, rfl⟩⟩
