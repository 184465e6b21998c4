section QU
variable {l : Launch} {G : Gt} {Y Y' : Yt} {B B' : Bt} {M : Mt} {Z : Zt} {cells slots : Nat} {Q : State → Prop} {pc : Nat} {ls : List (Option Value)} {st rest av : List Value} {Φ : Option Value → Zt → Prop}
def uOK (own : String) (i : Nat) (x : MethodName) (Y : Yt) : Prop := Cond.code Y.1 Y.2.1 Y.2.2.1 Y.2.2.2 ∈ WS ∧ Cond.initialized Y.1.cls ∈ WS ∧ Cond.methodLink own i x ∈ WS ∧ (Y.1.cls ≠ "java/lang/invoke/MethodHandle" ∧ Y.1.cls ≠ "java/lang/invoke/VarHandle" ∧ (nPar Y).isSome = true ∧ Y.2.2.1 ≤ 45) ∧ Y.1.desc = x.desc
theorem q_back (C : Cx G Y B M) (hM : Ct l G Y' B' Z av Φ) (h1 : Cond.code Y'.1 Y'.2.1 Y'.2.2.1 Y'.2.2.2 ∈ WS) (h2 : Cond.initialized Y'.1.cls ∈ WS) (hl : Y'.2.2.1 ≤ 45) (hB : B'.1 + 1 ≤ B.1) : Back l M.2.2.1 M.1 M.2.1 M.2.2.2.2.2.2.1 M.2.2.2.1 M.2.2.2.2.2.1 Y'.1 3 8 (PreOf M.2.2.1 B'.2.1 B'.2.2 (va_Pc av (fun U => Rep G Z U.heap ∧ Kn G U ∧ G.2.2.2 ≤ U.heap.size))) (PostOf (Qc G Φ) B'.2.1 B'.2.2 (fun q => G.2.2.2 ≤ q)) := by
  have hts := C.2.2.2.2.2.1
  refine back_of (bytes := Y'.2.1) (maxL := Y'.2.2.1) (ret := Y'.2.2.2) hM (Pc_blind G Z av) rfl rfl ?_ ?_ (pay_in hts (wsY_good Y Y' h1)) List.mem_cons_self (fun a' U hW => word_at hW (good_of_word (ws_good h2)) (hts _ h2))
  · rw [C.2.2.2.2.2.2.2.2.2.1]; exact hB
  · rw [C.2.2.2.2.2.2.2.2.2.1]; show 8 + (Y'.2.2.1 + 11) + 64 * B'.1 ≤ 64 * B.1; omega
theorem q_callSU {i : Nat} (x : MethodName) (hd : decode Y.2.1 pc = .ok (.invokestatic i, 3)) (hw : uOK Y.1.cls i x Y') (hsm : Cond.sameMethod x.cls Y'.1.cls x.name x.desc ∈ WS) (hxy : Y'.1 = ⟨Y'.1.cls, x.name, x.desc⟩) (hstt : Cond.static Y'.1 ∈ WS) (hM : Ct l G Y' B' Z av Φ) (hst : st = av.reverse ++ rest) (hn : nPar Y' = some av.length) (hB : B'.1 + 1 ≤ B.1) (hc : cells + B'.2.1 ≤ B.2.1) (hs : slots + B'.2.2 ≤ B.2.2) (hW : (rest.map fun v => v.category).sum ≤ 8)
    (kk : ∀ (v : Option Value) (Z' : Zt), Φ v Z' → Jd l G Y B M Z' (cells + B'.2.1) (slots + B'.2.2) Q (pc + 3) ls (v.toList ++ rest)) : Jd l G Y B M Z cells slots Q pc ls st := by
  intro C H locs A hR hS hA
  refine q_run (mc := B'.2.1) (ms := B'.2.2) (a := av.toArray) H locs A rfl C hS hA ?_ kk
  obtain ⟨h1, h2, h3, h4, h5⟩ := hw
  have hts := C.2.2.2.2.2.1
  have hK := q_back C hM h1 h2 h4.2.2.2 hB
  intro T hT X
  have hcode := hts _ h1
  obtain ⟨mk, hnamed⟩ := Cond.code_named hcode
  obtain ⟨methM, cM, hmethM, -, -, -, -, -, -, hsigM⟩ := Cond.code_spec hnamed hcode
  have hstatic : methM.isStatic = true := Cond.static_spec hnamed hmethM (hts _ hstt)
  obtain ⟨kP, hkP, -⟩ := className_of_methodNamed hnamed
  have hinitP : kP.init = .initialized := Cond.initialized_spec (findClass_of_methodNamed hnamed) hkP (hts _ h2)
  have hlen : av.length = methM.sig.parameters.length := by
    have h6 : (parseMethodDescriptor Y'.1.desc).map (fun d => d.parameters.length) = some av.length := hn
    rw [hsigM] at h6
    exact (Option.some.inj h6).symm
  obtain ⟨vm₁, X₁, hstep₁⟩ := Stand.invokestaticUp X C.1 C.2.2.2.2.1 (hts _ h3) (hts _ hsm) ⟨h4.1, h4.2.1⟩ (by rw [← hxy]; exact hnamed) hmethM hstatic hkP hinitP (g := F0 M.2.2.2.2.1 pc A st) rfl (argsL := av) (rest := rest) hlen hst (by rw [C.2.1]; exact hd)
  obtain ⟨v, ⟨U', l2, c2, s2⟩, X', hpost, hsteps⟩ := hK M.2.2.2.2.1 M.2.2.2.2.2.2.2.1 M.2.2.2.2.2.2.2.2 ⟨T.setVm vm₁, locs, cells, slots⟩ { F0 M.2.2.2.2.1 pc A st with stack := rest } (.invokestatic i) mk av.toArray X₁ rfl (hA.1.trans C.2.2.1.symm) (by rw [C.2.1]; exact hd) (by show 2 * 0 + (rest.map fun v => v.category).sum ≤ 8; omega) (X₁.named hnamed)
    ⟨by rw [C.2.2.2.2.2.2.2.2.2.1]; exact hc, by rw [C.2.2.2.2.2.2.2.2.2.1]; exact hs, (q_pre (av := av) C hR hS).2 (T.setVm vm₁) hT X₁.warmed⟩
  obtain ⟨g', mk', t, L, e1, e2, hq, e3, hL, e4, e5⟩ := hpost
  dsimp only [Pt.U, Pt.locs, Pt.cells, Pt.slots] at X' e1 e2 e3 e4 e5 hsteps
  subst e3; subst e4; subst e5
  exact ⟨v, (T.setVm vm₁).calling g' mk' av.toArray, t, U', L, hT, X', hL, e1, e2, hq, fun target h => hstep₁ _ fun acts => by rw [doInvoke_state]; exact hsteps.trans h⟩
theorem q_callU {i b : Nat} (x : MethodName) (c : Nat) (cn : String) (hd : decode Y.2.1 pc = .ok (.invokevirtual i, 3)) (hw : uOK Y.1.cls i x Y') (hsm : Cond.sameMethod x.cls x.cls x.name x.desc ∈ WS) (hmh : x.cls ≠ "java/lang/invoke/MethodHandle" ∧ x.cls ≠ "java/lang/invoke/VarHandle") (hdcl : Cx G Y B M → va_Decl M.2.2.2.1 ⟨x.cls, x.name, x.desc⟩) (hsel : Cond.selects cn x Y'.1 ∈ WS) (him : Cond.instanceMethod Y'.1 ∈ WS) (hc0 : (vwCl[c]?).map (fun q => q.1) = some cn) (hk : zK Z b = c + 1) (hM : Ct l G Y' B' Z (.ref b :: av) Φ) (hst : st = av.reverse ++ .ref b :: rest) (hn : nPar Y' = some av.length) (hB : B'.1 + 1 ≤ B.1) (hc : cells + B'.2.1 ≤ B.2.1) (hs : slots + B'.2.2 ≤ B.2.2) (hW : (rest.map fun v => v.category).sum ≤ 8)
    (kk : ∀ (v : Option Value) (Z' : Zt), Φ v Z' → Jd l G Y B M Z' (cells + B'.2.1) (slots + B'.2.2) Q (pc + 3) ls (v.toList ++ rest)) : Jd l G Y B M Z cells slots Q pc ls st := by
  intro C H locs A hR hS hA
  obtain ⟨h1, h2, h3, h4, h5⟩ := hw
  have hts := C.2.2.2.2.2.1
  obtain ⟨q, hq, hqc⟩ := Option.map_eq_some_iff.mp hc0
  have hpre := q_pre (av := .ref b :: av) C hR hS
  have hrec := q_recv C hR hk hq
  rw [hqc] at hrec
  refine q_run H locs A rfl C hS hA (va_runU (As := av) (rest := rest) (g := F0 M.2.2.2.2.1 pc A st) (C := cn) (owner := x.cls) (x := x) (n := av.length) (bytes := Y'.2.1) (maxL := Y'.2.2.1) (ret := Y'.2.2.2) ⟨C.1, C.2.1, C.2.2.1, C.2.2.2.2.1, C.2.2.2.2.2.1⟩ hM ?_ ⟨hpre.1, hrec, hpre.2⟩ rfl rfl hA.1 hst ?_ hd ?_) kk
  · refine ⟨⟨rfl, rfl, ?_, ?_, pay_in hts (wsY_good Y Y' h1), List.mem_cons_self⟩, hts _ h1, hts _ h2, hmh, fun sig hsig => ?_, hts _ h3, hts _ hsm, hdcl C, hts _ hsel, hts _ him⟩
    · rw [C.2.2.2.2.2.2.2.2.2.1]; exact hB
    · rw [C.2.2.2.2.2.2.2.2.2.1]; show 8 + (Y'.2.2.1 + 11) + 64 * B'.1 ≤ 64 * B.1; have := h4.2.2.2; omega
    · have h6 : (parseMethodDescriptor Y'.1.desc).map (fun d => d.parameters.length) = some av.length := hn
      rw [h5, hsig] at h6
      exact (Option.some.inj h6).symm
  · show 2 * 0 + _ ≤ 8; omega
  · rw [C.2.2.2.2.2.2.2.2.2.1]; exact ⟨hc, hs⟩
end QU
theorem us_X4_22 : uOK RX4 22 ⟨RX4, "verdict", "(Z)I"⟩ YX2_verdict := ⟨cd_X2_verdict, (ws_t 8 (by decide +kernel) rfl), (ws_t 345 (by decide +kernel) rfl), by decide +kernel, rfl⟩
theorem us_X4_sm : Cond.sameMethod RX4 RX2 "verdict" "(Z)I" ∈ WS := (ws_t 346 (by decide +kernel) rfl)
theorem us_X7_40 : uOK RX7 40 ⟨RX7, "verdict", "(Z)I"⟩ YX2_verdict := ⟨cd_X2_verdict, (ws_t 8 (by decide +kernel) rfl), (ws_t 358 (by decide +kernel) rfl), by decide +kernel, rfl⟩
theorem us_X7_sm : Cond.sameMethod RX7 RX2 "verdict" "(Z)I" ∈ WS := (ws_t 359 (by decide +kernel) rfl)
theorem us_st : Cond.static yX2_verdict ∈ WS := (ws_t 347 (by decide +kernel) rfl)
def xJ : MethodName := ⟨RX2, "judge", "(JLCandidateRanges$Tally;)I"⟩
def xT : MethodName := ⟨RX2, "timesAsked", "()I"⟩
theorem uj_sm : Cond.sameMethod RX2 RX2 "judge" "(JLCandidateRanges$Tally;)I" ∈ WS := (ws_t 319 (by decide +kernel) rfl)
theorem ut_sm : Cond.sameMethod RX2 RX2 "timesAsked" "()I" ∈ WS := (ws_t 376 (by decide +kernel) rfl)
theorem uj_dc {G : Gt} {Y : Yt} {B : Bt} {M : Mt} (C : Cx G Y B M) : va_Decl M.2.2.2.1 ⟨RX2, "judge", "(JLCandidateRanges$Tally;)I"⟩ := va_Decl.abs C.2.2.2.2.2.2.2.1.2.2.1
theorem ut_im : Cond.instanceMethod yX2_timesAsked ∈ WS := (ws_t 375 (by decide +kernel) rfl)
theorem ut_dc {G : Gt} {Y : Yt} {B : Bt} {M : Mt} (C : Cx G Y B M) : va_Decl M.2.2.2.1 ⟨RX2, "timesAsked", "()I"⟩ := va_Decl.of (x := yX2_timesAsked) (C.2.2.2.2.2.1 _ ut_im) (C.2.2.2.2.2.1 _ cd_X2_timesAsked)
theorem uj_sel_X1 : Cond.selects RX1 xJ yX1_judge ∈ WS := (ws_t 320 (by decide +kernel) rfl)
theorem uj_im_X1 : Cond.instanceMethod yX1_judge ∈ WS := (ws_t 321 (by decide +kernel) rfl)
theorem ut_sel_X1 : Cond.selects RX1 xT yX2_timesAsked ∈ WS := (ws_t 377 (by decide +kernel) rfl)
theorem uj_X11_X1 : uOK RX11 115 xJ YX1_judge := ⟨cd_X1_judge, (ws_t 12 (by decide +kernel) rfl), (ws_t 317 (by decide +kernel) rfl), by decide +kernel, rfl⟩
theorem uj_X3_X1 : uOK RX3 32 xJ YX1_judge := ⟨cd_X1_judge, (ws_t 12 (by decide +kernel) rfl), (ws_t 342 (by decide +kernel) rfl), by decide +kernel, rfl⟩
theorem uj_X8_X1 : uOK RX8 141 xJ YX1_judge := ⟨cd_X1_judge, (ws_t 12 (by decide +kernel) rfl), (ws_t 567 (by decide +kernel) rfl), by decide +kernel, rfl⟩
theorem uj_sel_X3 : Cond.selects RX3 xJ yX3_judge ∈ WS := (ws_t 339 (by decide +kernel) rfl)
theorem uj_im_X3 : Cond.instanceMethod yX3_judge ∈ WS := (ws_t 340 (by decide +kernel) rfl)
theorem ut_sel_X3 : Cond.selects RX3 xT yX3_timesAsked ∈ WS := (ws_t 378 (by decide +kernel) rfl)
theorem uj_X11_X3 : uOK RX11 115 xJ YX3_judge := ⟨cd_X3_judge, (ws_t 9 (by decide +kernel) rfl), (ws_t 317 (by decide +kernel) rfl), by decide +kernel, rfl⟩
theorem uj_X3_X3 : uOK RX3 32 xJ YX3_judge := ⟨cd_X3_judge, (ws_t 9 (by decide +kernel) rfl), (ws_t 342 (by decide +kernel) rfl), by decide +kernel, rfl⟩
theorem uj_X8_X3 : uOK RX8 141 xJ YX3_judge := ⟨cd_X3_judge, (ws_t 9 (by decide +kernel) rfl), (ws_t 567 (by decide +kernel) rfl), by decide +kernel, rfl⟩
theorem uj_sel_X4 : Cond.selects RX4 xJ yX4_judge ∈ WS := (ws_t 368 (by decide +kernel) rfl)
theorem uj_im_X4 : Cond.instanceMethod yX4_judge ∈ WS := (ws_t 343 (by decide +kernel) rfl)
theorem ut_sel_X4 : Cond.selects RX4 xT yX2_timesAsked ∈ WS := (ws_t 381 (by decide +kernel) rfl)
theorem uj_X11_X4 : uOK RX11 115 xJ YX4_judge := ⟨cd_X4_judge, (ws_t 13 (by decide +kernel) rfl), (ws_t 317 (by decide +kernel) rfl), by decide +kernel, rfl⟩
theorem uj_X3_X4 : uOK RX3 32 xJ YX4_judge := ⟨cd_X4_judge, (ws_t 13 (by decide +kernel) rfl), (ws_t 342 (by decide +kernel) rfl), by decide +kernel, rfl⟩
theorem uj_X8_X4 : uOK RX8 141 xJ YX4_judge := ⟨cd_X4_judge, (ws_t 13 (by decide +kernel) rfl), (ws_t 567 (by decide +kernel) rfl), by decide +kernel, rfl⟩
theorem uj_sel_X7 : Cond.selects RX7 xJ yX7_judge ∈ WS := (ws_t 369 (by decide +kernel) rfl)
theorem uj_im_X7 : Cond.instanceMethod yX7_judge ∈ WS := (ws_t 355 (by decide +kernel) rfl)
theorem ut_sel_X7 : Cond.selects RX7 xT yX2_timesAsked ∈ WS := (ws_t 382 (by decide +kernel) rfl)
theorem uj_X11_X7 : uOK RX11 115 xJ YX7_judge := ⟨cd_X7_judge, (ws_t 11 (by decide +kernel) rfl), (ws_t 317 (by decide +kernel) rfl), by decide +kernel, rfl⟩
theorem uj_X3_X7 : uOK RX3 32 xJ YX7_judge := ⟨cd_X7_judge, (ws_t 11 (by decide +kernel) rfl), (ws_t 342 (by decide +kernel) rfl), by decide +kernel, rfl⟩
theorem uj_X8_X7 : uOK RX8 141 xJ YX7_judge := ⟨cd_X7_judge, (ws_t 11 (by decide +kernel) rfl), (ws_t 567 (by decide +kernel) rfl), by decide +kernel, rfl⟩
theorem ut_X11_X2 : uOK RX11 119 xT YX2_timesAsked := ⟨cd_X2_timesAsked, (ws_t 8 (by decide +kernel) rfl), (ws_t 374 (by decide +kernel) rfl), by decide +kernel, rfl⟩
theorem ut_X11_X3 : uOK RX11 119 xT YX3_timesAsked := ⟨cd_X3_timesAsked, (ws_t 9 (by decide +kernel) rfl), (ws_t 374 (by decide +kernel) rfl), by decide +kernel, rfl⟩
theorem ut_im3 : Cond.instanceMethod yX3_timesAsked ∈ WS := (ws_t 379 (by decide +kernel) rfl)
