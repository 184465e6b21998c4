section
-- ===== PART A: goes FIRST, ahead of the names: the tables' words, and 'selects' of the private methods out of them =====
/-- a private method of a class that the tables say can be made, by its rows of tables_1 -/
def lw_okq (q : MethodName × Nat) : Prop := (q.1.cls ≠ "java/lang/invoke/MethodHandle" ∧ q.1.cls ≠ "java/lang/invoke/VarHandle") ∧ Cond.instantiable q.1.cls q.2 ∈ tables_1 ∧ Cond.privateMethod q.1 ∈ tables_1 ∧ Cond.instanceMethod q.1 ∈ tables_1
theorem lw_p0 : lw_okq (⟨"CandidateRanges", "shelfAt", "(I)LCandidateRanges$Shelf;"⟩, 9) := ⟨⟨by decide +kernel, by decide +kernel⟩, List.mem_of_getElem? (i := 21) (by decide +kernel), List.mem_of_getElem? (i := 155) (by decide +kernel), List.mem_of_getElem? (i := 156) (by decide +kernel)⟩
theorem lw_p1 : lw_okq (⟨"CandidateRanges", "boxAt", "(I)LCandidateRanges$Box;"⟩, 9) := ⟨⟨by decide +kernel, by decide +kernel⟩, List.mem_of_getElem? (i := 21) (by decide +kernel), List.mem_of_getElem? (i := 188) (by decide +kernel), List.mem_of_getElem? (i := 189) (by decide +kernel)⟩
theorem lw_p2 : lw_okq (⟨"CandidateRanges", "filterOfFilters", "(III)I"⟩, 9) := ⟨⟨by decide +kernel, by decide +kernel⟩, List.mem_of_getElem? (i := 21) (by decide +kernel), List.mem_of_getElem? (i := 196) (by decide +kernel), List.mem_of_getElem? (i := 197) (by decide +kernel)⟩
theorem lw_p3 : lw_okq (⟨"CandidateRanges", "filterAt", "(I)LCandidateRanges$Filter;"⟩, 9) := ⟨⟨by decide +kernel, by decide +kernel⟩, List.mem_of_getElem? (i := 21) (by decide +kernel), List.mem_of_getElem? (i := 200) (by decide +kernel), List.mem_of_getElem? (i := 201) (by decide +kernel)⟩
theorem lw_p4 : lw_okq (⟨"CandidateRanges", "keepFilter", "(LCandidateRanges$Filter;)I"⟩, 9) := ⟨⟨by decide +kernel, by decide +kernel⟩, List.mem_of_getElem? (i := 21) (by decide +kernel), List.mem_of_getElem? (i := 243) (by decide +kernel), List.mem_of_getElem? (i := 244) (by decide +kernel)⟩
theorem lw_p5 : lw_okq (⟨"CandidateRanges", "filterOfShelf", "(IIJ)I"⟩, 9) := ⟨⟨by decide +kernel, by decide +kernel⟩, List.mem_of_getElem? (i := 21) (by decide +kernel), List.mem_of_getElem? (i := 247) (by decide +kernel), List.mem_of_getElem? (i := 248) (by decide +kernel)⟩
theorem lw_p6 : lw_okq (⟨"CandidateRanges", "filterOfBox", "(IJ)I"⟩, 9) := ⟨⟨by decide +kernel, by decide +kernel⟩, List.mem_of_getElem? (i := 21) (by decide +kernel), List.mem_of_getElem? (i := 269) (by decide +kernel), List.mem_of_getElem? (i := 270) (by decide +kernel)⟩
theorem lw_p7 : lw_okq (⟨"CandidateRanges$Box", "takes", "(I)Z"⟩, 2) := ⟨⟨by decide +kernel, by decide +kernel⟩, List.mem_of_getElem? (i := 109) (by decide +kernel), List.mem_of_getElem? (i := 332) (by decide +kernel), List.mem_of_getElem? (i := 333) (by decide +kernel)⟩
theorem lw_p8 : lw_okq (⟨"CandidateRanges$NumberFilter", "judgeRoom", "(JLCandidateRanges$Tally;)I"⟩, 5) := ⟨⟨by decide +kernel, by decide +kernel⟩, List.mem_of_getElem? (i := 292) (by decide +kernel), List.mem_of_getElem? (i := 351) (by decide +kernel), List.mem_of_getElem? (i := 352) (by decide +kernel)⟩
theorem lw_p9 : lw_okq (⟨"CandidateRanges$MadeFilter", "leavesItToSecond", "(I)Z"⟩, 6) := ⟨⟨by decide +kernel, by decide +kernel⟩, List.mem_of_getElem? (i := 204) (by decide +kernel), List.mem_of_getElem? (i := 362) (by decide +kernel), List.mem_of_getElem? (i := 363) (by decide +kernel)⟩
theorem lw_p10 : lw_okq (⟨"CandidateRanges", "keepSource", "(LCandidateRanges$Source;)I"⟩, 9) := ⟨⟨by decide +kernel, by decide +kernel⟩, List.mem_of_getElem? (i := 21) (by decide +kernel), List.mem_of_getElem? (i := 456) (by decide +kernel), List.mem_of_getElem? (i := 457) (by decide +kernel)⟩
theorem lw_p11 : lw_okq (⟨"CandidateRanges", "sourceAt", "(I)LCandidateRanges$Source;"⟩, 9) := ⟨⟨by decide +kernel, by decide +kernel⟩, List.mem_of_getElem? (i := 21) (by decide +kernel), List.mem_of_getElem? (i := 492) (by decide +kernel), List.mem_of_getElem? (i := 493) (by decide +kernel)⟩
theorem lw_p12 : lw_okq (⟨"CandidateRanges", "sourceOfShelf", "(I)I"⟩, 9) := ⟨⟨by decide +kernel, by decide +kernel⟩, List.mem_of_getElem? (i := 21) (by decide +kernel), List.mem_of_getElem? (i := 507) (by decide +kernel), List.mem_of_getElem? (i := 508) (by decide +kernel)⟩
theorem lw_p13 : lw_okq (⟨"CandidateRanges$Source", "gatherPlain", "([JI)I"⟩, 9) := ⟨⟨by decide +kernel, by decide +kernel⟩, List.mem_of_getElem? (i := 397) (by decide +kernel), List.mem_of_getElem? (i := 527) (by decide +kernel), List.mem_of_getElem? (i := 528) (by decide +kernel)⟩
theorem lw_p14 : lw_okq (⟨"CandidateRanges$Source", "gatherRow", "([JILCandidateRanges$Tally;)I"⟩, 9) := ⟨⟨by decide +kernel, by decide +kernel⟩, List.mem_of_getElem? (i := 397) (by decide +kernel), List.mem_of_getElem? (i := 533) (by decide +kernel), List.mem_of_getElem? (i := 534) (by decide +kernel)⟩
theorem lw_p15 : lw_okq (⟨"CandidateRanges$Source", "keepOfOne", "([JIILCandidateRanges$Tally;)I"⟩, 9) := ⟨⟨by decide +kernel, by decide +kernel⟩, List.mem_of_getElem? (i := 397) (by decide +kernel), List.mem_of_getElem? (i := 540) (by decide +kernel), List.mem_of_getElem? (i := 541) (by decide +kernel)⟩
def lw_privs_1 : List (MethodName × Nat) := [(⟨"CandidateRanges", "shelfAt", "(I)LCandidateRanges$Shelf;"⟩, 9), (⟨"CandidateRanges", "boxAt", "(I)LCandidateRanges$Box;"⟩, 9), (⟨"CandidateRanges", "filterOfFilters", "(III)I"⟩, 9), (⟨"CandidateRanges", "filterAt", "(I)LCandidateRanges$Filter;"⟩, 9), (⟨"CandidateRanges", "keepFilter", "(LCandidateRanges$Filter;)I"⟩, 9), (⟨"CandidateRanges", "filterOfShelf", "(IIJ)I"⟩, 9), (⟨"CandidateRanges", "filterOfBox", "(IJ)I"⟩, 9), (⟨"CandidateRanges$Box", "takes", "(I)Z"⟩, 2), (⟨"CandidateRanges$NumberFilter", "judgeRoom", "(JLCandidateRanges$Tally;)I"⟩, 5), (⟨"CandidateRanges$MadeFilter", "leavesItToSecond", "(I)Z"⟩, 6), (⟨"CandidateRanges", "keepSource", "(LCandidateRanges$Source;)I"⟩, 9), (⟨"CandidateRanges", "sourceAt", "(I)LCandidateRanges$Source;"⟩, 9), (⟨"CandidateRanges", "sourceOfShelf", "(I)I"⟩, 9), (⟨"CandidateRanges$Source", "gatherPlain", "([JI)I"⟩, 9), (⟨"CandidateRanges$Source", "gatherRow", "([JILCandidateRanges$Tally;)I"⟩, 9), (⟨"CandidateRanges$Source", "keepOfOne", "([JIILCandidateRanges$Tally;)I"⟩, 9)]
theorem lw_r1 : ∀ q ∈ lw_privs_1, lw_okq q := List.forall_mem_cons.mpr ⟨lw_p0, List.forall_mem_cons.mpr ⟨lw_p1, List.forall_mem_cons.mpr ⟨lw_p2, List.forall_mem_cons.mpr ⟨lw_p3, List.forall_mem_cons.mpr ⟨lw_p4, List.forall_mem_cons.mpr ⟨lw_p5, List.forall_mem_cons.mpr ⟨lw_p6, List.forall_mem_cons.mpr ⟨lw_p7, List.forall_mem_cons.mpr ⟨lw_p8, List.forall_mem_cons.mpr ⟨lw_p9, List.forall_mem_cons.mpr ⟨lw_p10, List.forall_mem_cons.mpr ⟨lw_p11, List.forall_mem_cons.mpr ⟨lw_p12, List.forall_mem_cons.mpr ⟨lw_p13, List.forall_mem_cons.mpr ⟨lw_p14, List.forall_mem_cons.mpr ⟨lw_p15, fun _ h => absurd h List.not_mem_nil⟩⟩⟩⟩⟩⟩⟩⟩⟩⟩⟩⟩⟩⟩⟩⟩
theorem lw_p16 : lw_okq (⟨"CandidateRanges$Source", "sortByNearness", "([JII)V"⟩, 9) := ⟨⟨by decide +kernel, by decide +kernel⟩, List.mem_of_getElem? (i := 397) (by decide +kernel), List.mem_of_getElem? (i := 547) (by decide +kernel), List.mem_of_getElem? (i := 548) (by decide +kernel)⟩
theorem lw_p17 : lw_okq (⟨"CandidateRanges$Source", "isNearer", "(JJ)Z"⟩, 9) := ⟨⟨by decide +kernel, by decide +kernel⟩, List.mem_of_getElem? (i := 397) (by decide +kernel), List.mem_of_getElem? (i := 551) (by decide +kernel), List.mem_of_getElem? (i := 552) (by decide +kernel)⟩
theorem lw_p18 : lw_okq (⟨"CandidateRanges$Source", "keepEvery", "([JII)I"⟩, 9) := ⟨⟨by decide +kernel, by decide +kernel⟩, List.mem_of_getElem? (i := 397) (by decide +kernel), List.mem_of_getElem? (i := 562) (by decide +kernel), List.mem_of_getElem? (i := 563) (by decide +kernel)⟩
theorem lw_p19 : lw_okq (⟨"CandidateRanges$Source", "keepPassing", "([JIILCandidateRanges$Tally;)I"⟩, 9) := ⟨⟨by decide +kernel, by decide +kernel⟩, List.mem_of_getElem? (i := 397) (by decide +kernel), List.mem_of_getElem? (i := 566) (by decide +kernel), List.mem_of_getElem? (i := 567) (by decide +kernel)⟩
theorem lw_p20 : lw_okq (⟨"CandidateRanges$Source", "keepOfTwo", "([JIII)I"⟩, 9) := ⟨⟨by decide +kernel, by decide +kernel⟩, List.mem_of_getElem? (i := 397) (by decide +kernel), List.mem_of_getElem? (i := 576) (by decide +kernel), List.mem_of_getElem? (i := 577) (by decide +kernel)⟩
theorem lw_p21 : lw_okq (⟨"java/lang/Throwable", "fillInStackTrace", "(I)Ljava/lang/Throwable;"⟩, 6) := ⟨⟨by decide +kernel, by decide +kernel⟩, List.mem_of_getElem? (i := 679) (by decide +kernel), List.mem_of_getElem? (i := 677) (by decide +kernel), List.mem_of_getElem? (i := 678) (by decide +kernel)⟩
theorem lw_p22 : lw_okq (⟨"CandidateRangesModel", "isFilter", "(I)Z"⟩, 41) := ⟨⟨by decide +kernel, by decide +kernel⟩, List.mem_of_getElem? (i := 731) (by decide +kernel), List.mem_of_getElem? (i := 882) (by decide +kernel), List.mem_of_getElem? (i := 883) (by decide +kernel)⟩
theorem lw_p23 : lw_okq (⟨"CandidateRangesModel", "passes", "(IJ)Z"⟩, 41) := ⟨⟨by decide +kernel, by decide +kernel⟩, List.mem_of_getElem? (i := 731) (by decide +kernel), List.mem_of_getElem? (i := 890) (by decide +kernel), List.mem_of_getElem? (i := 891) (by decide +kernel)⟩
theorem lw_p24 : lw_okq (⟨"CandidateRangesModel", "fails", "(II)Z"⟩, 41) := ⟨⟨by decide +kernel, by decide +kernel⟩, List.mem_of_getElem? (i := 731) (by decide +kernel), List.mem_of_getElem? (i := 894) (by decide +kernel), List.mem_of_getElem? (i := 895) (by decide +kernel)⟩
theorem lw_p25 : lw_okq (⟨"CandidateRangesModel", "puts", "(IIJJ)Z"⟩, 41) := ⟨⟨by decide +kernel, by decide +kernel⟩, List.mem_of_getElem? (i := 731) (by decide +kernel), List.mem_of_getElem? (i := 900) (by decide +kernel), List.mem_of_getElem? (i := 901) (by decide +kernel)⟩
theorem lw_p26 : lw_okq (⟨"CandidateRangesModel", "comes", "(IZI)I"⟩, 41) := ⟨⟨by decide +kernel, by decide +kernel⟩, List.mem_of_getElem? (i := 731) (by decide +kernel), List.mem_of_getElem? (i := 918) (by decide +kernel), List.mem_of_getElem? (i := 919) (by decide +kernel)⟩
theorem lw_p27 : lw_okq (⟨"CandidateRangesModel", "isSource", "(I)Z"⟩, 41) := ⟨⟨by decide +kernel, by decide +kernel⟩, List.mem_of_getElem? (i := 731) (by decide +kernel), List.mem_of_getElem? (i := 930) (by decide +kernel), List.mem_of_getElem? (i := 931) (by decide +kernel)⟩
theorem lw_p28 : lw_okq (⟨"CandidateRangesModel", "goes", "(II)Z"⟩, 41) := ⟨⟨by decide +kernel, by decide +kernel⟩, List.mem_of_getElem? (i := 731) (by decide +kernel), List.mem_of_getElem? (i := 942) (by decide +kernel), List.mem_of_getElem? (i := 943) (by decide +kernel)⟩
theorem lw_p29 : lw_okq (⟨"CandidateRangesModel", "put", "(IJ)V"⟩, 41) := ⟨⟨by decide +kernel, by decide +kernel⟩, List.mem_of_getElem? (i := 731) (by decide +kernel), List.mem_of_getElem? (i := 947) (by decide +kernel), List.mem_of_getElem? (i := 948) (by decide +kernel)⟩
theorem lw_p30 : lw_okq (⟨"CandidateRangesModel", "twoOf", "(II)Z"⟩, 41) := ⟨⟨by decide +kernel, by decide +kernel⟩, List.mem_of_getElem? (i := 731) (by decide +kernel), List.mem_of_getElem? (i := 951) (by decide +kernel), List.mem_of_getElem? (i := 952) (by decide +kernel)⟩
theorem lw_p31 : lw_okq (⟨"CandidateRangesModel", "isIn", "(IJ)Z"⟩, 41) := ⟨⟨by decide +kernel, by decide +kernel⟩, List.mem_of_getElem? (i := 731) (by decide +kernel), List.mem_of_getElem? (i := 955) (by decide +kernel), List.mem_of_getElem? (i := 956) (by decide +kernel)⟩
def lw_privs_2 : List (MethodName × Nat) := [(⟨"CandidateRanges$Source", "sortByNearness", "([JII)V"⟩, 9), (⟨"CandidateRanges$Source", "isNearer", "(JJ)Z"⟩, 9), (⟨"CandidateRanges$Source", "keepEvery", "([JII)I"⟩, 9), (⟨"CandidateRanges$Source", "keepPassing", "([JIILCandidateRanges$Tally;)I"⟩, 9), (⟨"CandidateRanges$Source", "keepOfTwo", "([JIII)I"⟩, 9), (⟨"java/lang/Throwable", "fillInStackTrace", "(I)Ljava/lang/Throwable;"⟩, 6), (⟨"CandidateRangesModel", "isFilter", "(I)Z"⟩, 41), (⟨"CandidateRangesModel", "passes", "(IJ)Z"⟩, 41), (⟨"CandidateRangesModel", "fails", "(II)Z"⟩, 41), (⟨"CandidateRangesModel", "puts", "(IIJJ)Z"⟩, 41), (⟨"CandidateRangesModel", "comes", "(IZI)I"⟩, 41), (⟨"CandidateRangesModel", "isSource", "(I)Z"⟩, 41), (⟨"CandidateRangesModel", "goes", "(II)Z"⟩, 41), (⟨"CandidateRangesModel", "put", "(IJ)V"⟩, 41), (⟨"CandidateRangesModel", "twoOf", "(II)Z"⟩, 41), (⟨"CandidateRangesModel", "isIn", "(IJ)Z"⟩, 41)]
theorem lw_r2 : ∀ q ∈ lw_privs_2, lw_okq q := List.forall_mem_cons.mpr ⟨lw_p16, List.forall_mem_cons.mpr ⟨lw_p17, List.forall_mem_cons.mpr ⟨lw_p18, List.forall_mem_cons.mpr ⟨lw_p19, List.forall_mem_cons.mpr ⟨lw_p20, List.forall_mem_cons.mpr ⟨lw_p21, List.forall_mem_cons.mpr ⟨lw_p22, List.forall_mem_cons.mpr ⟨lw_p23, List.forall_mem_cons.mpr ⟨lw_p24, List.forall_mem_cons.mpr ⟨lw_p25, List.forall_mem_cons.mpr ⟨lw_p26, List.forall_mem_cons.mpr ⟨lw_p27, List.forall_mem_cons.mpr ⟨lw_p28, List.forall_mem_cons.mpr ⟨lw_p29, List.forall_mem_cons.mpr ⟨lw_p30, List.forall_mem_cons.mpr ⟨lw_p31, fun _ h => absurd h List.not_mem_nil⟩⟩⟩⟩⟩⟩⟩⟩⟩⟩⟩⟩⟩⟩⟩⟩
theorem lw_p32 : lw_okq (⟨"CandidateRangesModel", "shelfOf", "(II)Z"⟩, 41) := ⟨⟨by decide +kernel, by decide +kernel⟩, List.mem_of_getElem? (i := 731) (by decide +kernel), List.mem_of_getElem? (i := 959) (by decide +kernel), List.mem_of_getElem? (i := 960) (by decide +kernel)⟩
theorem lw_p33 : lw_okq (⟨"CandidateRangesModel", "one", "(III)Z"⟩, 41) := ⟨⟨by decide +kernel, by decide +kernel⟩, List.mem_of_getElem? (i := 731) (by decide +kernel), List.mem_of_getElem? (i := 963) (by decide +kernel), List.mem_of_getElem? (i := 964) (by decide +kernel)⟩
theorem lw_p34 : lw_okq (⟨"CandidateRangesModel", "near", "(IIJI)V"⟩, 41) := ⟨⟨by decide +kernel, by decide +kernel⟩, List.mem_of_getElem? (i := 731) (by decide +kernel), List.mem_of_getElem? (i := 967) (by decide +kernel), List.mem_of_getElem? (i := 968) (by decide +kernel)⟩
def lw_privs_3 : List (MethodName × Nat) := [(⟨"CandidateRangesModel", "shelfOf", "(II)Z"⟩, 41), (⟨"CandidateRangesModel", "one", "(III)Z"⟩, 41), (⟨"CandidateRangesModel", "near", "(IIJI)V"⟩, 41)]
theorem lw_r3 : ∀ q ∈ lw_privs_3, lw_okq q := List.forall_mem_cons.mpr ⟨lw_p32, List.forall_mem_cons.mpr ⟨lw_p33, List.forall_mem_cons.mpr ⟨lw_p34, fun _ h => absurd h List.not_mem_nil⟩⟩⟩
def lw_privs : List (MethodName × Nat) := lw_privs_1 ++ (lw_privs_2 ++ (lw_privs_3))
def lw_tbl : List Cond := k2_sels lw_privs ++ tables_1
theorem lw_privs_ok : ∀ q ∈ lw_privs, lw_okq q := by
  show ∀ q ∈ lw_privs_1 ++ (lw_privs_2 ++ (lw_privs_3)), lw_okq q
  exact List.forall_mem_append.mpr ⟨lw_r1, List.forall_mem_append.mpr ⟨lw_r2, lw_r3⟩⟩
-- ===== end of PART A; then your names; then what follows =====
end
section
/-! ===== BEGIN printed: names, fields, word lists, decode rows ===== -/
def RX0 : String := "CandidateRanges$Box"
def TX0 : u_T := fun k => match k with
  | 0 => ("CandidateRanges$Box", "things", "[I", true)
  | _ => ("CandidateRanges$Box", "number", "I", true)
def tyX0 : Nat → FieldType := fun k => match k with
  | 0 => .array .int
  | _ => .int
theorem nmX0 : ∀ a, a < 2 → ∀ b, b < 2 → a ≠ b → (TX0 a).2.1 ≠ (TX0 b).2.1 := by decide +kernel
theorem tyX0_ok : ∀ k, k < 2 → parseFieldDescriptor (TX0 k).2.2.1 = some (tyX0 k) := by decide +kernel
abbrev cX0_init : ByteArray := prog_2_method_1_code
def yX0_init : MethodName := ⟨RX0, "<init>", "(I)V"⟩
abbrev cX0_put : ByteArray := prog_2_method_2_code
def yX0_put : MethodName := ⟨RX0, "put", "(II)Z"⟩
abbrev cX0_takes : ByteArray := prog_2_method_3_code
def yX0_takes : MethodName := ⟨RX0, "takes", "(I)Z"⟩
def RX1 : String := "CandidateRanges$BoxFilter"
def TX1 : u_T := fun k => match k with
  | 0 => ("CandidateRanges$Filter", "number", "I", true)
  | 1 => ("CandidateRanges$Filter", "depth", "I", true)
  | 2 => ("CandidateRanges$BoxFilter", "held", "LCandidateRanges$Box;", true)
  | _ => ("CandidateRanges$BoxFilter", "item", "I", true)
def tyX1 : Nat → FieldType := fun k => match k with
  | 0 => .int
  | 1 => .int
  | 2 => .object "CandidateRanges$Box"
  | _ => .int
theorem nmX1 : ∀ a, a < 4 → ∀ b, b < 4 → a ≠ b → (TX1 a).2.1 ≠ (TX1 b).2.1 := by decide +kernel
theorem tyX1_ok : ∀ k, k < 4 → parseFieldDescriptor (TX1 k).2.2.1 = some (tyX1 k) := by decide +kernel
abbrev cX1_init : ByteArray := prog_3_method_1_code
def yX1_init : MethodName := ⟨RX1, "<init>", "(ILCandidateRanges$Box;I)V"⟩
abbrev cX1_judge : ByteArray := prog_3_method_2_code
def yX1_judge : MethodName := ⟨RX1, "judge", "(JLCandidateRanges$Tally;)I"⟩
abbrev cX1_thingFor : ByteArray := prog_3_method_3_code
def yX1_thingFor : MethodName := ⟨RX1, "thingFor", "(J)I"⟩
def RX2 : String := "CandidateRanges$Filter"
def TX2 : u_T := fun k => match k with
  | _ => ("", "", "", false)
def tyX2 : Nat → FieldType := fun k => match k with
  | _ => .int
theorem nmX2 : ∀ a, a < 0 → ∀ b, b < 0 → a ≠ b → (TX2 a).2.1 ≠ (TX2 b).2.1 := by decide +kernel
theorem tyX2_ok : ∀ k, k < 0 → parseFieldDescriptor (TX2 k).2.2.1 = some (tyX2 k) := by decide +kernel
abbrev cX2_init : ByteArray := prog_4_method_1_code
def yX2_init : MethodName := ⟨RX2, "<init>", "(II)V"⟩
abbrev cX2_timesAsked : ByteArray := prog_4_method_3_code
def yX2_timesAsked : MethodName := ⟨RX2, "timesAsked", "()I"⟩
abbrev cX2_verdict : ByteArray := prog_4_method_4_code
def yX2_verdict : MethodName := ⟨RX2, "verdict", "(Z)I"⟩
def RX3 : String := "CandidateRanges$MadeFilter"
def TX3 : u_T := fun k => match k with
  | 0 => ("CandidateRanges$Filter", "number", "I", true)
  | 1 => ("CandidateRanges$Filter", "depth", "I", true)
  | 2 => ("CandidateRanges$MadeFilter", "kind", "I", true)
  | 3 => ("CandidateRanges$MadeFilter", "first", "LCandidateRanges$Filter;", true)
  | 4 => ("CandidateRanges$MadeFilter", "second", "LCandidateRanges$Filter;", true)
  | _ => ("CandidateRanges$MadeFilter", "timesAsked", "I", false)
def tyX3 : Nat → FieldType := fun k => match k with
  | 0 => .int
  | 1 => .int
  | 2 => .int
  | 3 => .object "CandidateRanges$Filter"
  | 4 => .object "CandidateRanges$Filter"
  | _ => .int
theorem nmX3 : ∀ a, a < 6 → ∀ b, b < 6 → a ≠ b → (TX3 a).2.1 ≠ (TX3 b).2.1 := by decide +kernel
theorem tyX3_ok : ∀ k, k < 6 → parseFieldDescriptor (TX3 k).2.2.1 = some (tyX3 k) := by decide +kernel
abbrev cX3_init : ByteArray := prog_5_method_1_code
def yX3_init : MethodName := ⟨RX3, "<init>", "(IILCandidateRanges$Filter;LCandidateRanges$Filter;)V"⟩
abbrev cX3_judge : ByteArray := prog_5_method_2_code
def yX3_judge : MethodName := ⟨RX3, "judge", "(JLCandidateRanges$Tally;)I"⟩
abbrev cX3_leavesItToSecond : ByteArray := prog_5_method_3_code
def yX3_leavesItToSecond : MethodName := ⟨RX3, "leavesItToSecond", "(I)Z"⟩
abbrev cX3_timesAsked : ByteArray := prog_5_method_4_code
def yX3_timesAsked : MethodName := ⟨RX3, "timesAsked", "()I"⟩
def RX4 : String := "CandidateRanges$NumberFilter"
def TX4 : u_T := fun k => match k with
  | 0 => ("CandidateRanges$Filter", "number", "I", true)
  | 1 => ("CandidateRanges$Filter", "depth", "I", true)
  | 2 => ("CandidateRanges$NumberFilter", "kind", "I", true)
  | 3 => ("CandidateRanges$NumberFilter", "a", "I", true)
  | _ => ("CandidateRanges$NumberFilter", "v", "J", true)
def tyX4 : Nat → FieldType := fun k => match k with
  | 0 => .int
  | 1 => .int
  | 2 => .int
  | 3 => .int
  | _ => .long
theorem nmX4 : ∀ a, a < 5 → ∀ b, b < 5 → a ≠ b → (TX4 a).2.1 ≠ (TX4 b).2.1 := by decide +kernel
theorem tyX4_ok : ∀ k, k < 5 → parseFieldDescriptor (TX4 k).2.2.1 = some (tyX4 k) := by decide +kernel
abbrev cX4_init : ByteArray := prog_6_method_1_code
def yX4_init : MethodName := ⟨RX4, "<init>", "(IIIJ)V"⟩
abbrev cX4_judge : ByteArray := prog_6_method_2_code
def yX4_judge : MethodName := ⟨RX4, "judge", "(JLCandidateRanges$Tally;)I"⟩
abbrev cX4_judgeRoom : ByteArray := prog_6_method_3_code
def yX4_judgeRoom : MethodName := ⟨RX4, "judgeRoom", "(JLCandidateRanges$Tally;)I"⟩
def RX5 : String := "CandidateRanges$Range"
def TX5 : u_T := fun k => match k with
  | 0 => ("CandidateRanges$Range", "stretch", "LCandidateRanges$Stretch;", false)
  | 1 => ("CandidateRanges$Range", "numbers", "[J", true)
  | _ => ("CandidateRanges$Range", "count", "I", false)
def tyX5 : Nat → FieldType := fun k => match k with
  | 0 => .object "CandidateRanges$Stretch"
  | 1 => .array .long
  | _ => .int
theorem nmX5 : ∀ a, a < 3 → ∀ b, b < 3 → a ≠ b → (TX5 a).2.1 ≠ (TX5 b).2.1 := by decide +kernel
theorem tyX5_ok : ∀ k, k < 3 → parseFieldDescriptor (TX5 k).2.2.1 = some (tyX5 k) := by decide +kernel
abbrev cX5_init : ByteArray := prog_7_method_1_code
def yX5_init : MethodName := ⟨RX5, "<init>", "()V"⟩
abbrev cX5_becomePlain : ByteArray := prog_7_method_2_code
def yX5_becomePlain : MethodName := ⟨RX5, "becomePlain", "(LCandidateRanges$Stretch;)V"⟩
abbrev cX5_becomeGathered : ByteArray := prog_7_method_3_code
def yX5_becomeGathered : MethodName := ⟨RX5, "becomeGathered", "([JI)V"⟩
abbrev cX5_many : ByteArray := prog_7_method_4_code
def yX5_many : MethodName := ⟨RX5, "many", "()J"⟩
abbrev cX5_numberAt : ByteArray := prog_7_method_5_code
def yX5_numberAt : MethodName := ⟨RX5, "numberAt", "(J)J"⟩
abbrev cX5_indexOf : ByteArray := prog_7_method_6_code
def yX5_indexOf : MethodName := ⟨RX5, "indexOf", "(J)J"⟩
def RX6 : String := "CandidateRanges$Shelf"
def TX6 : u_T := fun k => match k with
  | 0 => ("CandidateRanges$Shelf", "items", "[J", true)
  | 1 => ("CandidateRanges$Shelf", "kind", "I", false)
  | 2 => ("CandidateRanges$Shelf", "count", "I", false)
  | _ => ("CandidateRanges$Shelf", "point", "I", false)
def tyX6 : Nat → FieldType := fun k => match k with
  | 0 => .array .long
  | 1 => .int
  | 2 => .int
  | _ => .int
theorem nmX6 : ∀ a, a < 4 → ∀ b, b < 4 → a ≠ b → (TX6 a).2.1 ≠ (TX6 b).2.1 := by decide +kernel
theorem tyX6_ok : ∀ k, k < 4 → parseFieldDescriptor (TX6 k).2.2.1 = some (tyX6 k) := by decide +kernel
abbrev cX6_init : ByteArray := prog_8_method_1_code
def yX6_init : MethodName := ⟨RX6, "<init>", "()V"⟩
abbrev cX6_hold : ByteArray := prog_8_method_2_code
def yX6_hold : MethodName := ⟨RX6, "hold", "(II)V"⟩
abbrev cX6_rowFailure : ByteArray := prog_8_method_3_code
def yX6_rowFailure : MethodName := ⟨RX6, "rowFailure", "()I"⟩
abbrev cX6_hasItem : ByteArray := prog_8_method_4_code
def yX6_hasItem : MethodName := ⟨RX6, "hasItem", "(J)Z"⟩
abbrev cX6_setItem : ByteArray := prog_8_method_5_code
def yX6_setItem : MethodName := ⟨RX6, "setItem", "(IJ)V"⟩
abbrev cX6_append : ByteArray := prog_8_method_6_code
def yX6_append : MethodName := ⟨RX6, "append", "(J)Z"⟩
def RX7 : String := "CandidateRanges$ShelfFilter"
def TX7 : u_T := fun k => match k with
  | 0 => ("CandidateRanges$Filter", "number", "I", true)
  | 1 => ("CandidateRanges$Filter", "depth", "I", true)
  | 2 => ("CandidateRanges$ShelfFilter", "held", "LCandidateRanges$Shelf;", true)
  | 3 => ("CandidateRanges$ShelfFilter", "wanted", "I", true)
  | _ => ("CandidateRanges$ShelfFilter", "v", "J", true)
def tyX7 : Nat → FieldType := fun k => match k with
  | 0 => .int
  | 1 => .int
  | 2 => .object "CandidateRanges$Shelf"
  | 3 => .int
  | _ => .long
theorem nmX7 : ∀ a, a < 5 → ∀ b, b < 5 → a ≠ b → (TX7 a).2.1 ≠ (TX7 b).2.1 := by decide +kernel
theorem tyX7_ok : ∀ k, k < 5 → parseFieldDescriptor (TX7 k).2.2.1 = some (tyX7 k) := by decide +kernel
abbrev cX7_init : ByteArray := prog_9_method_1_code
def yX7_init : MethodName := ⟨RX7, "<init>", "(ILCandidateRanges$Shelf;IJ)V"⟩
abbrev cX7_judge : ByteArray := prog_9_method_2_code
def yX7_judge : MethodName := ⟨RX7, "judge", "(JLCandidateRanges$Tally;)I"⟩
def RX8 : String := "CandidateRanges$Source"
def TX8 : u_T := fun k => match k with
  | 0 => ("CandidateRanges$Source", "sort", "I", true)
  | 1 => ("CandidateRanges$Source", "depth", "I", true)
  | 2 => ("CandidateRanges$Source", "stretch", "LCandidateRanges$Stretch;", true)
  | 3 => ("CandidateRanges$Source", "shelf", "LCandidateRanges$Shelf;", true)
  | 4 => ("CandidateRanges$Source", "s", "LCandidateRanges$Source;", true)
  | 5 => ("CandidateRanges$Source", "t", "LCandidateRanges$Source;", true)
  | 6 => ("CandidateRanges$Source", "filter", "LCandidateRanges$Filter;", true)
  | 7 => ("CandidateRanges$Source", "n", "I", true)
  | _ => ("CandidateRanges$Source", "v", "J", true)
def tyX8 : Nat → FieldType := fun k => match k with
  | 0 => .int
  | 1 => .int
  | 2 => .object "CandidateRanges$Stretch"
  | 3 => .object "CandidateRanges$Shelf"
  | 4 => .object "CandidateRanges$Source"
  | 5 => .object "CandidateRanges$Source"
  | 6 => .object "CandidateRanges$Filter"
  | 7 => .int
  | _ => .long
theorem nmX8 : ∀ a, a < 9 → ∀ b, b < 9 → a ≠ b → (TX8 a).2.1 ≠ (TX8 b).2.1 := by decide +kernel
theorem tyX8_ok : ∀ k, k < 9 → parseFieldDescriptor (TX8 k).2.2.1 = some (tyX8 k) := by decide +kernel
abbrev cX8_init : ByteArray := prog_10_method_1_code
def yX8_init : MethodName := ⟨RX8, "<init>", "(LCandidateRanges$Stretch;)V"⟩
abbrev cX8_init_ : ByteArray := prog_10_method_2_code
def yX8_init_ : MethodName := ⟨RX8, "<init>", "(ILCandidateRanges$Source;LCandidateRanges$Source;LCandidateRanges$Filter;LCandidateRanges$Shelf;IJ)V"⟩
abbrev cX8_depthOver : ByteArray := prog_10_method_3_code
def yX8_depthOver : MethodName := ⟨RX8, "depthOver", "(LCandidateRanges$Source;LCandidateRanges$Source;)I"⟩
abbrev cX8_plainOver : ByteArray := prog_10_method_4_code
def yX8_plainOver : MethodName := ⟨RX8, "plainOver", "(ILCandidateRanges$Source;I)LCandidateRanges$Stretch;"⟩
abbrev cX8_gather : ByteArray := prog_10_method_5_code
def yX8_gather : MethodName := ⟨RX8, "gather", "([JILCandidateRanges$Tally;)I"⟩
abbrev cX8_gatherPlain : ByteArray := prog_10_method_6_code
def yX8_gatherPlain : MethodName := ⟨RX8, "gatherPlain", "([JI)I"⟩
abbrev cX8_gatherRow : ByteArray := prog_10_method_7_code
def yX8_gatherRow : MethodName := ⟨RX8, "gatherRow", "([JILCandidateRanges$Tally;)I"⟩
abbrev cX8_keepOfOne : ByteArray := prog_10_method_8_code
def yX8_keepOfOne : MethodName := ⟨RX8, "keepOfOne", "([JIILCandidateRanges$Tally;)I"⟩
abbrev cX8_turn : ByteArray := prog_10_method_9_code
def yX8_turn : MethodName := ⟨RX8, "turn", "([JII)V"⟩
abbrev cX8_sortByNearness : ByteArray := prog_10_method_10_code
def yX8_sortByNearness : MethodName := ⟨RX8, "sortByNearness", "([JII)V"⟩
abbrev cX8_isNearer : ByteArray := prog_10_method_11_code
def yX8_isNearer : MethodName := ⟨RX8, "isNearer", "(JJ)Z"⟩
abbrev cX8_keepEvery : ByteArray := prog_10_method_12_code
def yX8_keepEvery : MethodName := ⟨RX8, "keepEvery", "([JII)I"⟩
abbrev cX8_keepPassing : ByteArray := prog_10_method_13_code
def yX8_keepPassing : MethodName := ⟨RX8, "keepPassing", "([JIILCandidateRanges$Tally;)I"⟩
abbrev cX8_keepOfTwo : ByteArray := prog_10_method_14_code
def yX8_keepOfTwo : MethodName := ⟨RX8, "keepOfTwo", "([JIII)I"⟩
def RX9 : String := "CandidateRanges$Stretch"
def TX9 : u_T := fun k => match k with
  | 0 => ("CandidateRanges$Stretch", "first", "J", true)
  | 1 => ("CandidateRanges$Stretch", "stride", "J", true)
  | 2 => ("CandidateRanges$Stretch", "down", "Z", true)
  | _ => ("CandidateRanges$Stretch", "count", "J", true)
def tyX9 : Nat → FieldType := fun k => match k with
  | 0 => .long
  | 1 => .long
  | 2 => .boolean
  | _ => .long
theorem nmX9 : ∀ a, a < 4 → ∀ b, b < 4 → a ≠ b → (TX9 a).2.1 ≠ (TX9 b).2.1 := by decide +kernel
theorem tyX9_ok : ∀ k, k < 4 → parseFieldDescriptor (TX9 k).2.2.1 = some (tyX9 k) := by decide +kernel
abbrev cX9_init : ByteArray := prog_11_method_1_code
def yX9_init : MethodName := ⟨RX9, "<init>", "(JJZJ)V"⟩
abbrev cX9_numberAt : ByteArray := prog_11_method_2_code
def yX9_numberAt : MethodName := ⟨RX9, "numberAt", "(J)J"⟩
abbrev cX9_indexOf : ByteArray := prog_11_method_3_code
def yX9_indexOf : MethodName := ⟨RX9, "indexOf", "(J)J"⟩
abbrev cX9_turned : ByteArray := prog_11_method_4_code
def yX9_turned : MethodName := ⟨RX9, "turned", "()LCandidateRanges$Stretch;"⟩
abbrev cX9_every : ByteArray := prog_11_method_5_code
def yX9_every : MethodName := ⟨RX9, "every", "(I)LCandidateRanges$Stretch;"⟩
def RX10 : String := "CandidateRanges$Tally"
def TX10 : u_T := fun k => match k with
  | 0 => ("CandidateRanges$Tally", "barredNumbers", "[J", true)
  | 1 => ("CandidateRanges$Tally", "barredBy", "[I", true)
  | 2 => ("CandidateRanges$Tally", "barredIn", "[I", true)
  | 3 => ("CandidateRanges$Tally", "barred", "I", false)
  | 4 => ("CandidateRanges$Tally", "failures", "I", false)
  | _ => ("CandidateRanges$Tally", "arose", "I", false)
def tyX10 : Nat → FieldType := fun k => match k with
  | 0 => .array .long
  | 1 => .array .int
  | 2 => .array .int
  | 3 => .int
  | 4 => .int
  | _ => .int
theorem nmX10 : ∀ a, a < 6 → ∀ b, b < 6 → a ≠ b → (TX10 a).2.1 ≠ (TX10 b).2.1 := by decide +kernel
theorem tyX10_ok : ∀ k, k < 6 → parseFieldDescriptor (TX10 k).2.2.1 = some (tyX10 k) := by decide +kernel
abbrev cX10_init : ByteArray := prog_12_method_1_code
def yX10_init : MethodName := ⟨RX10, "<init>", "()V"⟩
abbrev cX10_beginAsk : ByteArray := prog_12_method_2_code
def yX10_beginAsk : MethodName := ⟨RX10, "beginAsk", "()V"⟩
abbrev cX10_beginRange : ByteArray := prog_12_method_3_code
def yX10_beginRange : MethodName := ⟨RX10, "beginRange", "()V"⟩
abbrev cX10_fail : ByteArray := prog_12_method_4_code
def yX10_fail : MethodName := ⟨RX10, "fail", "(II)I"⟩
abbrev cX10_barByLatest : ByteArray := prog_12_method_5_code
def yX10_barByLatest : MethodName := ⟨RX10, "barByLatest", "(JI)V"⟩
abbrev cX10_hasBarred : ByteArray := prog_12_method_6_code
def yX10_hasBarred : MethodName := ⟨RX10, "hasBarred", "(I)Z"⟩
abbrev cX10_canBeMet : ByteArray := prog_12_method_7_code
def yX10_canBeMet : MethodName := ⟨RX10, "canBeMet", "(I)Z"⟩
def RX11 : String := "CandidateRanges"
def TX11 : u_T := fun k => match k with
  | 0 => ("CandidateRanges", "shelves", "[LCandidateRanges$Shelf;", true)
  | 1 => ("CandidateRanges", "boxes", "[LCandidateRanges$Box;", true)
  | 2 => ("CandidateRanges", "filters", "[LCandidateRanges$Filter;", true)
  | 3 => ("CandidateRanges", "sources", "[LCandidateRanges$Source;", true)
  | 4 => ("CandidateRanges", "filterCount", "I", false)
  | 5 => ("CandidateRanges", "sourceCount", "I", false)
  | 6 => ("CandidateRanges", "tally", "LCandidateRanges$Tally;", true)
  | 7 => ("CandidateRanges", "latest", "LCandidateRanges$Range;", true)
  | _ => ("CandidateRanges", "pool", "[J", true)
def tyX11 : Nat → FieldType := fun k => match k with
  | 0 => .array (.object "CandidateRanges$Shelf")
  | 1 => .array (.object "CandidateRanges$Box")
  | 2 => .array (.object "CandidateRanges$Filter")
  | 3 => .array (.object "CandidateRanges$Source")
  | 4 => .int
  | 5 => .int
  | 6 => .object "CandidateRanges$Tally"
  | 7 => .object "CandidateRanges$Range"
  | _ => .array .long
theorem nmX11 : ∀ a, a < 9 → ∀ b, b < 9 → a ≠ b → (TX11 a).2.1 ≠ (TX11 b).2.1 := by decide +kernel
theorem tyX11_ok : ∀ k, k < 9 → parseFieldDescriptor (TX11 k).2.2.1 = some (tyX11 k) := by decide +kernel
abbrev cX11_init : ByteArray := prog_1_method_1_code
def yX11_init : MethodName := ⟨RX11, "<init>", "()V"⟩
abbrev cX11_shelf : ByteArray := prog_1_method_2_code
def yX11_shelf : MethodName := ⟨RX11, "shelf", "(III)I"⟩
abbrev cX11_item : ByteArray := prog_1_method_3_code
def yX11_item : MethodName := ⟨RX11, "item", "(IIJ)I"⟩
abbrev cX11_box : ByteArray := prog_1_method_4_code
def yX11_box : MethodName := ⟨RX11, "box", "(II)I"⟩
abbrev cX11_filter : ByteArray := prog_1_method_5_code
def yX11_filter : MethodName := ⟨RX11, "filter", "(IIIJ)I"⟩
abbrev cX11_ask : ByteArray := prog_1_method_6_code
def yX11_ask : MethodName := ⟨RX11, "ask", "(IJ)I"⟩
abbrev cX11_asked : ByteArray := prog_1_method_7_code
def yX11_asked : MethodName := ⟨RX11, "asked", "(I)I"⟩
abbrev cX11_span : ByteArray := prog_1_method_8_code
def yX11_span : MethodName := ⟨RX11, "span", "(JJJ)I"⟩
abbrev cX11_list : ByteArray := prog_1_method_9_code
def yX11_list : MethodName := ⟨RX11, "list", "()I"⟩
abbrev cX11_add : ByteArray := prog_1_method_10_code
def yX11_add : MethodName := ⟨RX11, "add", "(IJ)I"⟩
abbrev cX11_source : ByteArray := prog_1_method_11_code
def yX11_source : MethodName := ⟨RX11, "source", "(IIIIIJ)I"⟩
abbrev cX11_range : ByteArray := prog_1_method_12_code
def yX11_range : MethodName := ⟨RX11, "range", "(I)I"⟩
abbrev cX11_size : ByteArray := prog_1_method_13_code
def yX11_size : MethodName := ⟨RX11, "size", "()J"⟩
abbrev cX11_at : ByteArray := prog_1_method_14_code
def yX11_at : MethodName := ⟨RX11, "at", "(J)J"⟩
abbrev cX11_place : ByteArray := prog_1_method_15_code
def yX11_place : MethodName := ⟨RX11, "place", "(J)J"⟩
abbrev cX11_draw : ByteArray := prog_1_method_16_code
def yX11_draw : MethodName := ⟨RX11, "draw", "(J)J"⟩
abbrev cX11_barred : ByteArray := prog_1_method_17_code
def yX11_barred : MethodName := ⟨RX11, "barred", "()I"⟩
abbrev cX11_bar : ByteArray := prog_1_method_18_code
def yX11_bar : MethodName := ⟨RX11, "bar", "(II)I"⟩
abbrev cX11_barredAt : ByteArray := prog_1_method_19_code
def yX11_barredAt : MethodName := ⟨RX11, "barredAt", "(I)J"⟩
abbrev cX11_distance : ByteArray := prog_1_method_20_code
def yX11_distance : MethodName := ⟨RX11, "distance", "(JJ)J"⟩
abbrev cX11_told : ByteArray := prog_1_method_21_code
def yX11_told : MethodName := ⟨RX11, "told", "(I)I"⟩
abbrev cX11_shelfAt : ByteArray := prog_1_method_22_code
def yX11_shelfAt : MethodName := ⟨RX11, "shelfAt", "(I)LCandidateRanges$Shelf;"⟩
abbrev cX11_boxAt : ByteArray := prog_1_method_23_code
def yX11_boxAt : MethodName := ⟨RX11, "boxAt", "(I)LCandidateRanges$Box;"⟩
abbrev cX11_filterAt : ByteArray := prog_1_method_24_code
def yX11_filterAt : MethodName := ⟨RX11, "filterAt", "(I)LCandidateRanges$Filter;"⟩
abbrev cX11_sourceAt : ByteArray := prog_1_method_25_code
def yX11_sourceAt : MethodName := ⟨RX11, "sourceAt", "(I)LCandidateRanges$Source;"⟩
abbrev cX11_filterOfFilters : ByteArray := prog_1_method_26_code
def yX11_filterOfFilters : MethodName := ⟨RX11, "filterOfFilters", "(III)I"⟩
abbrev cX11_filterOfShelf : ByteArray := prog_1_method_27_code
def yX11_filterOfShelf : MethodName := ⟨RX11, "filterOfShelf", "(IIJ)I"⟩
abbrev cX11_filterOfBox : ByteArray := prog_1_method_28_code
def yX11_filterOfBox : MethodName := ⟨RX11, "filterOfBox", "(IJ)I"⟩
abbrev cX11_keepFilter : ByteArray := prog_1_method_29_code
def yX11_keepFilter : MethodName := ⟨RX11, "keepFilter", "(LCandidateRanges$Filter;)I"⟩
abbrev cX11_countFits : ByteArray := prog_1_method_30_code
def yX11_countFits : MethodName := ⟨RX11, "countFits", "(II)Z"⟩
abbrev cX11_sourceOfShelf : ByteArray := prog_1_method_31_code
def yX11_sourceOfShelf : MethodName := ⟨RX11, "sourceOfShelf", "(I)I"⟩
abbrev cX11_keepSource : ByteArray := prog_1_method_32_code
def yX11_keepSource : MethodName := ⟨RX11, "keepSource", "(LCandidateRanges$Source;)I"⟩
abbrev cX11_gap : ByteArray := prog_1_method_33_code
def yX11_gap : MethodName := ⟨RX11, "gap", "(JJ)J"⟩
abbrev cX11_unsignedBelow : ByteArray := prog_1_method_34_code
def yX11_unsignedBelow : MethodName := ⟨RX11, "unsignedBelow", "(JJ)Z"⟩
abbrev cX11_unsignedQuotient : ByteArray := prog_1_method_35_code
def yX11_unsignedQuotient : MethodName := ⟨RX11, "unsignedQuotient", "(JJ)J"⟩
abbrev cX11_unsignedRest : ByteArray := prog_1_method_36_code
def yX11_unsignedRest : MethodName := ⟨RX11, "unsignedRest", "(JJ)J"⟩
abbrev cX11_find : ByteArray := prog_1_method_37_code
def yX11_find : MethodName := ⟨RX11, "find", "([JIIJ)I"⟩
def RX12 : String := "CandidateRangesModel"
def TX12 : u_T := fun k => match k with
  | 0 => ("CandidateRangesModel", "code", "I", false)
  | 1 => ("CandidateRangesModel", "shelfKind", "[I", true)
  | 2 => ("CandidateRangesModel", "shelfSize", "[I", true)
  | 3 => ("CandidateRangesModel", "shelfPoint", "[J", true)
  | 4 => ("CandidateRangesModel", "shelfItems", "[J", true)
  | 5 => ("CandidateRangesModel", "boxes", "[I", true)
  | 6 => ("CandidateRangesModel", "filters", "I", false)
  | 7 => ("CandidateRangesModel", "fKind", "[I", true)
  | 8 => ("CandidateRangesModel", "fA", "[I", true)
  | 9 => ("CandidateRangesModel", "fB", "[I", true)
  | 10 => ("CandidateRangesModel", "fV", "[J", true)
  | 11 => ("CandidateRangesModel", "fDeep", "[I", true)
  | 12 => ("CandidateRangesModel", "fAsked", "[I", true)
  | 13 => ("CandidateRangesModel", "failed", "I", false)
  | 14 => ("CandidateRangesModel", "where", "I", false)
  | 15 => ("CandidateRangesModel", "failures", "I", false)
  | 16 => ("CandidateRangesModel", "sources", "I", false)
  | 17 => ("CandidateRangesModel", "sSort", "[I", true)
  | 18 => ("CandidateRangesModel", "sS", "[I", true)
  | 19 => ("CandidateRangesModel", "sT", "[I", true)
  | 20 => ("CandidateRangesModel", "sA", "[I", true)
  | 21 => ("CandidateRangesModel", "sN", "[I", true)
  | 22 => ("CandidateRangesModel", "sV", "[J", true)
  | 23 => ("CandidateRangesModel", "sDeep", "[I", true)
  | 24 => ("CandidateRangesModel", "sPlain", "[Z", true)
  | 25 => ("CandidateRangesModel", "sFirst", "[J", true)
  | 26 => ("CandidateRangesModel", "sStep", "[J", true)
  | 27 => ("CandidateRangesModel", "sMany", "[J", true)
  | 28 => ("CandidateRangesModel", "lists", "[J", true)
  | 29 => ("CandidateRangesModel", "rows", "[J", true)
  | 30 => ("CandidateRangesModel", "many", "[I", true)
  | 31 => ("CandidateRangesModel", "isLarge", "Z", false)
  | 32 => ("CandidateRangesModel", "barred", "I", false)
  | 33 => ("CandidateRangesModel", "barNumber", "[J", true)
  | 34 => ("CandidateRangesModel", "barFailure", "[I", true)
  | 35 => ("CandidateRangesModel", "barFilter", "[I", true)
  | 36 => ("CandidateRangesModel", "isPlain", "Z", false)
  | 37 => ("CandidateRangesModel", "first", "J", false)
  | 38 => ("CandidateRangesModel", "step", "J", false)
  | 39 => ("CandidateRangesModel", "size", "J", false)
  | _ => ("CandidateRangesModel", "range", "[J", true)
def tyX12 : Nat → FieldType := fun k => match k with
  | 0 => .int
  | 1 => .array .int
  | 2 => .array .int
  | 3 => .array .long
  | 4 => .array .long
  | 5 => .array .int
  | 6 => .int
  | 7 => .array .int
  | 8 => .array .int
  | 9 => .array .int
  | 10 => .array .long
  | 11 => .array .int
  | 12 => .array .int
  | 13 => .int
  | 14 => .int
  | 15 => .int
  | 16 => .int
  | 17 => .array .int
  | 18 => .array .int
  | 19 => .array .int
  | 20 => .array .int
  | 21 => .array .int
  | 22 => .array .long
  | 23 => .array .int
  | 24 => .array .boolean
  | 25 => .array .long
  | 26 => .array .long
  | 27 => .array .long
  | 28 => .array .long
  | 29 => .array .long
  | 30 => .array .int
  | 31 => .boolean
  | 32 => .int
  | 33 => .array .long
  | 34 => .array .int
  | 35 => .array .int
  | 36 => .boolean
  | 37 => .long
  | 38 => .long
  | 39 => .long
  | _ => .array .long
theorem nmX12 : ∀ a, a < 41 → ∀ b, b < 41 → a ≠ b → (TX12 a).2.1 ≠ (TX12 b).2.1 := by decide +kernel
theorem tyX12_ok : ∀ k, k < 41 → parseFieldDescriptor (TX12 k).2.2.1 = some (tyX12 k) := by decide +kernel
abbrev cX12_init : ByteArray := prog_14_method_1_code
def yX12_init : MethodName := ⟨RX12, "<init>", "()V"⟩
abbrev cX12_thrown : ByteArray := prog_14_method_2_code
def yX12_thrown : MethodName := ⟨RX12, "thrown", "()I"⟩
abbrev cX12_shelf : ByteArray := prog_14_method_3_code
def yX12_shelf : MethodName := ⟨RX12, "shelf", "(III)I"⟩
abbrev cX12_item : ByteArray := prog_14_method_4_code
def yX12_item : MethodName := ⟨RX12, "item", "(IIJ)I"⟩
abbrev cX12_box : ByteArray := prog_14_method_5_code
def yX12_box : MethodName := ⟨RX12, "box", "(II)I"⟩
abbrev cX12_isFilter : ByteArray := prog_14_method_6_code
def yX12_isFilter : MethodName := ⟨RX12, "isFilter", "(I)Z"⟩
abbrev cX12_filter : ByteArray := prog_14_method_7_code
def yX12_filter : MethodName := ⟨RX12, "filter", "(IIIJ)I"⟩
abbrev cX12_fails : ByteArray := prog_14_method_8_code
def yX12_fails : MethodName := ⟨RX12, "fails", "(II)Z"⟩
abbrev cX12_passes : ByteArray := prog_14_method_9_code
def yX12_passes : MethodName := ⟨RX12, "passes", "(IJ)Z"⟩
abbrev cX12_puts : ByteArray := prog_14_method_10_code
def yX12_puts : MethodName := ⟨RX12, "puts", "(IIJJ)Z"⟩
abbrev cX12_ask : ByteArray := prog_14_method_11_code
def yX12_ask : MethodName := ⟨RX12, "ask", "(IJ)I"⟩
abbrev cX12_asked : ByteArray := prog_14_method_12_code
def yX12_asked : MethodName := ⟨RX12, "asked", "(I)I"⟩
abbrev cX12_isSource : ByteArray := prog_14_method_13_code
def yX12_isSource : MethodName := ⟨RX12, "isSource", "(I)Z"⟩
abbrev cX12_comes : ByteArray := prog_14_method_14_code
def yX12_comes : MethodName := ⟨RX12, "comes", "(IZI)I"⟩
abbrev cX12_divided : ByteArray := prog_14_method_15_code
def yX12_divided : MethodName := ⟨RX12, "divided", "(JJ)J"⟩
abbrev cX12_span : ByteArray := prog_14_method_16_code
def yX12_span : MethodName := ⟨RX12, "span", "(JJJ)I"⟩
abbrev cX12_list : ByteArray := prog_14_method_17_code
def yX12_list : MethodName := ⟨RX12, "list", "()I"⟩
abbrev cX12_add : ByteArray := prog_14_method_18_code
def yX12_add : MethodName := ⟨RX12, "add", "(IJ)I"⟩
abbrev cX12_source : ByteArray := prog_14_method_19_code
def yX12_source : MethodName := ⟨RX12, "source", "(IIIIIJ)I"⟩
abbrev cX12_goes : ByteArray := prog_14_method_20_code
def yX12_goes : MethodName := ⟨RX12, "goes", "(II)Z"⟩
abbrev cX12_put : ByteArray := prog_14_method_21_code
def yX12_put : MethodName := ⟨RX12, "put", "(IJ)V"⟩
abbrev cX12_isIn : ByteArray := prog_14_method_22_code
def yX12_isIn : MethodName := ⟨RX12, "isIn", "(IJ)Z"⟩
abbrev cX12_twoOf : ByteArray := prog_14_method_23_code
def yX12_twoOf : MethodName := ⟨RX12, "twoOf", "(II)Z"⟩
abbrev cX12_shelfOf : ByteArray := prog_14_method_24_code
def yX12_shelfOf : MethodName := ⟨RX12, "shelfOf", "(II)Z"⟩
abbrev cX12_one : ByteArray := prog_14_method_25_code
def yX12_one : MethodName := ⟨RX12, "one", "(III)Z"⟩
abbrev cX12_far : ByteArray := prog_14_method_26_code
def yX12_far : MethodName := ⟨RX12, "far", "(JJ)J"⟩
abbrev cX12_isNearer : ByteArray := prog_14_method_27_code
def yX12_isNearer : MethodName := ⟨RX12, "isNearer", "(JJJ)Z"⟩
abbrev cX12_near : ByteArray := prog_14_method_28_code
def yX12_near : MethodName := ⟨RX12, "near", "(IIJI)V"⟩
abbrev cX12_range : ByteArray := prog_14_method_29_code
def yX12_range : MethodName := ⟨RX12, "range", "(I)I"⟩
abbrev cX12_size : ByteArray := prog_14_method_30_code
def yX12_size : MethodName := ⟨RX12, "size", "()J"⟩
abbrev cX12_at : ByteArray := prog_14_method_31_code
def yX12_at : MethodName := ⟨RX12, "at", "(J)J"⟩
abbrev cX12_place : ByteArray := prog_14_method_32_code
def yX12_place : MethodName := ⟨RX12, "place", "(J)J"⟩
abbrev cX12_draw : ByteArray := prog_14_method_33_code
def yX12_draw : MethodName := ⟨RX12, "draw", "(J)J"⟩
abbrev cX12_barred : ByteArray := prog_14_method_34_code
def yX12_barred : MethodName := ⟨RX12, "barred", "()I"⟩
abbrev cX12_bar : ByteArray := prog_14_method_35_code
def yX12_bar : MethodName := ⟨RX12, "bar", "(II)I"⟩
abbrev cX12_barredAt : ByteArray := prog_14_method_36_code
def yX12_barredAt : MethodName := ⟨RX12, "barredAt", "(I)J"⟩
abbrev cX12_distance : ByteArray := prog_14_method_37_code
def yX12_distance : MethodName := ⟨RX12, "distance", "(JJ)J"⟩
abbrev cX12_told : ByteArray := prog_14_method_38_code
def yX12_told : MethodName := ⟨RX12, "told", "(I)I"⟩
def RJ9 : String := "java/lang/Math"
def TJ9 : u_T := fun k => match k with
  | _ => ("", "", "", false)
def tyJ9 : Nat → FieldType := fun k => match k with
  | _ => .int
theorem nmJ9 : ∀ a, a < 0 → ∀ b, b < 0 → a ≠ b → (TJ9 a).2.1 ≠ (TJ9 b).2.1 := by decide +kernel
theorem tyJ9_ok : ∀ k, k < 0 → parseFieldDescriptor (TJ9 k).2.2.1 = some (tyJ9 k) := by decide +kernel
abbrev cJ9_abs_067f4 : ByteArray := prog_17_method_61_code
def yJ9_abs_067f4 : MethodName := ⟨RJ9, "abs", "(J)J"⟩
abbrev cJ9_max_7cf53 : ByteArray := prog_17_method_65_code
def yJ9_max_7cf53 : MethodName := ⟨RJ9, "max", "(II)I"⟩
abbrev cJ9_min_7cf53 : ByteArray := prog_17_method_69_code
def yJ9_min_7cf53 : MethodName := ⟨RJ9, "min", "(II)I"⟩
def RJ0 : String := "java/lang/String"
def TJ0 : u_T := fun k => match k with
  | _ => ("", "", "", false)
def tyJ0 : Nat → FieldType := fun k => match k with
  | _ => .int
theorem nmJ0 : ∀ a, a < 0 → ∀ b, b < 0 → a ≠ b → (TJ0 a).2.1 ≠ (TJ0 b).2.1 := by decide +kernel
theorem tyJ0_ok : ∀ k, k < 0 → parseFieldDescriptor (TJ0 k).2.2.1 = some (tyJ0 k) := by decide +kernel
def RJ7 : String := "java/util/Arrays"
def TJ7 : u_T := fun k => match k with
  | _ => ("", "", "", false)
def tyJ7 : Nat → FieldType := fun k => match k with
  | _ => .int
theorem nmJ7 : ∀ a, a < 0 → ∀ b, b < 0 → a ≠ b → (TJ7 a).2.1 ≠ (TJ7 b).2.1 := by decide +kernel
theorem tyJ7_ok : ∀ k, k < 0 → parseFieldDescriptor (TJ7 k).2.2.1 = some (tyJ7 k) := by decide +kernel
abbrev cJ7_fill_d0a16 : ByteArray := prog_21_method_101_code
def yJ7_fill_d0a16 : MethodName := ⟨RJ7, "fill", "([JJ)V"⟩
def RL : String := "CandidateRangesLaw"
abbrev cL_at : ByteArray := method_3_code
def yL_at : MethodName := ⟨RL, "at", "(LCandidateRanges;J[J)I"⟩
abbrev cL_draw : ByteArray := method_4_code
def yL_draw : MethodName := ⟨RL, "draw", "(LCandidateRanges;J[J)I"⟩
abbrev cL_barredAt : ByteArray := method_5_code
def yL_barredAt : MethodName := ⟨RL, "barredAt", "(LCandidateRanges;I[J)I"⟩
abbrev cL_law : ByteArray := code
def yL_law : MethodName := ⟨RL, "law", "([I)Z"⟩
abbrev vwCl : List vw_C := [(RX0, TX0, 2), (RX1, TX1, 4), (RX3, TX3, 6), (RX4, TX4, 5), (RX5, TX5, 3), (RX6, TX6, 4), (RX7, TX7, 5), (RX8, TX8, 9), (RX9, TX9, 4), (RX10, TX10, 6), (RX11, TX11, 9), (RX12, TX12, 41)]
theorem dX0_init_0 : decode cX0_init 0 = .ok (.aload_n 0, 1) := by decide +kernel
theorem dX0_init_1 : decode cX0_init 1 = .ok (.invokespecial 3, 3) := by decide +kernel
theorem dX0_init_4 : decode cX0_init 4 = .ok (.aload_n 0, 1) := by decide +kernel
theorem dX0_init_5 : decode cX0_init 5 = .ok (.iconst 3, 1) := by decide +kernel
theorem dX0_init_6 : decode cX0_init 6 = .ok (.newarray .int, 2) := by decide +kernel
theorem dX0_init_8 : decode cX0_init 8 = .ok (.putfield 9, 3) := by decide +kernel
theorem dX0_init_11 : decode cX0_init 11 = .ok (.aload_n 0, 1) := by decide +kernel
theorem dX0_init_12 : decode cX0_init 12 = .ok (.iload_n 1, 1) := by decide +kernel
theorem dX0_init_13 : decode cX0_init 13 = .ok (.putfield 15, 3) := by decide +kernel
theorem dX0_init_16 : decode cX0_init 16 = .ok (.return_, 1) := by decide +kernel
theorem dX0_put_0 : decode cX0_put 0 = .ok (.iload_n 1, 1) := by decide +kernel
theorem dX0_put_1 : decode cX0_put 1 = .ok (.ifCond .lt 16, 3) := by decide +kernel
theorem dX0_put_4 : decode cX0_put 4 = .ok (.iload_n 1, 1) := by decide +kernel
theorem dX0_put_5 : decode cX0_put 5 = .ok (.iconst 3, 1) := by decide +kernel
theorem dX0_put_6 : decode cX0_put 6 = .ok (.if_icmp .ge 11, 3) := by decide +kernel
theorem dX0_put_9 : decode cX0_put 9 = .ok (.aload_n 0, 1) := by decide +kernel
theorem dX0_put_10 : decode cX0_put 10 = .ok (.iload_n 2, 1) := by decide +kernel
theorem dX0_put_11 : decode cX0_put 11 = .ok (.invokevirtual 19, 3) := by decide +kernel
theorem dX0_put_14 : decode cX0_put 14 = .ok (.ifCond .ne 5, 3) := by decide +kernel
theorem dX0_put_17 : decode cX0_put 17 = .ok (.iconst 0, 1) := by decide +kernel
theorem dX0_put_18 : decode cX0_put 18 = .ok (.ireturn, 1) := by decide +kernel
theorem dX0_put_19 : decode cX0_put 19 = .ok (.aload_n 0, 1) := by decide +kernel
theorem dX0_put_20 : decode cX0_put 20 = .ok (.getfield 9, 3) := by decide +kernel
theorem dX0_put_23 : decode cX0_put 23 = .ok (.iload_n 1, 1) := by decide +kernel
theorem dX0_put_24 : decode cX0_put 24 = .ok (.iload_n 2, 1) := by decide +kernel
theorem dX0_put_25 : decode cX0_put 25 = .ok (.iastore, 1) := by decide +kernel
theorem dX0_put_26 : decode cX0_put 26 = .ok (.iconst 1, 1) := by decide +kernel
theorem dX0_put_27 : decode cX0_put 27 = .ok (.ireturn, 1) := by decide +kernel
theorem dX0_takes_0 : decode cX0_takes 0 = .ok (.aload_n 0, 1) := by decide +kernel
theorem dX0_takes_1 : decode cX0_takes 1 = .ok (.getfield 15, 3) := by decide +kernel
theorem dX0_takes_4 : decode cX0_takes 4 = .ok (.lookupswitch 55 #[(0, 28), (1, 44)], 28) := by decide +kernel
theorem dX0_takes_32 : decode cX0_takes 32 = .ok (.iload_n 1, 1) := by decide +kernel
theorem dX0_takes_33 : decode cX0_takes 33 = .ok (.iconst 1, 1) := by decide +kernel
theorem dX0_takes_34 : decode cX0_takes 34 = .ok (.if_icmp .eq 8, 3) := by decide +kernel
theorem dX0_takes_37 : decode cX0_takes 37 = .ok (.iload_n 1, 1) := by decide +kernel
theorem dX0_takes_38 : decode cX0_takes 38 = .ok (.iconst 2, 1) := by decide +kernel
theorem dX0_takes_39 : decode cX0_takes 39 = .ok (.if_icmp .ne 7, 3) := by decide +kernel
theorem dX0_takes_42 : decode cX0_takes 42 = .ok (.iconst 1, 1) := by decide +kernel
theorem dX0_takes_43 : decode cX0_takes 43 = .ok (.goto 4, 3) := by decide +kernel
theorem dX0_takes_46 : decode cX0_takes 46 = .ok (.iconst 0, 1) := by decide +kernel
theorem dX0_takes_47 : decode cX0_takes 47 = .ok (.ireturn, 1) := by decide +kernel
theorem dX0_takes_48 : decode cX0_takes 48 = .ok (.iload_n 1, 1) := by decide +kernel
theorem dX0_takes_49 : decode cX0_takes 49 = .ok (.iconst 2, 1) := by decide +kernel
theorem dX0_takes_50 : decode cX0_takes 50 = .ok (.if_icmp .ne 7, 3) := by decide +kernel
theorem dX0_takes_53 : decode cX0_takes 53 = .ok (.iconst 1, 1) := by decide +kernel
theorem dX0_takes_54 : decode cX0_takes 54 = .ok (.goto 4, 3) := by decide +kernel
theorem dX0_takes_57 : decode cX0_takes 57 = .ok (.iconst 0, 1) := by decide +kernel
theorem dX0_takes_58 : decode cX0_takes 58 = .ok (.ireturn, 1) := by decide +kernel
theorem dX0_takes_59 : decode cX0_takes 59 = .ok (.iconst 1, 1) := by decide +kernel
theorem dX0_takes_60 : decode cX0_takes 60 = .ok (.ireturn, 1) := by decide +kernel
theorem dX1_init_0 : decode cX1_init 0 = .ok (.aload_n 0, 1) := by decide +kernel
theorem dX1_init_1 : decode cX1_init 1 = .ok (.iload_n 1, 1) := by decide +kernel
theorem dX1_init_2 : decode cX1_init 2 = .ok (.iconst 1, 1) := by decide +kernel
theorem dX1_init_3 : decode cX1_init 3 = .ok (.invokespecial 3, 3) := by decide +kernel
theorem dX1_init_6 : decode cX1_init 6 = .ok (.aload_n 0, 1) := by decide +kernel
theorem dX1_init_7 : decode cX1_init 7 = .ok (.aload_n 2, 1) := by decide +kernel
theorem dX1_init_8 : decode cX1_init 8 = .ok (.putfield 9, 3) := by decide +kernel
theorem dX1_init_11 : decode cX1_init 11 = .ok (.aload_n 0, 1) := by decide +kernel
theorem dX1_init_12 : decode cX1_init 12 = .ok (.iload_n 3, 1) := by decide +kernel
theorem dX1_init_13 : decode cX1_init 13 = .ok (.putfield 15, 3) := by decide +kernel
theorem dX1_init_16 : decode cX1_init 16 = .ok (.return_, 1) := by decide +kernel
theorem dX1_judge_0 : decode cX1_judge 0 = .ok (.aload_n 0, 1) := by decide +kernel
theorem dX1_judge_1 : decode cX1_judge 1 = .ok (.getfield 9, 3) := by decide +kernel
theorem dX1_judge_4 : decode cX1_judge 4 = .ok (.aload_n 0, 1) := by decide +kernel
theorem dX1_judge_5 : decode cX1_judge 5 = .ok (.getfield 15, 3) := by decide +kernel
theorem dX1_judge_8 : decode cX1_judge 8 = .ok (.lload_n 1, 1) := by decide +kernel
theorem dX1_judge_9 : decode cX1_judge 9 = .ok (.invokestatic 19, 3) := by decide +kernel
theorem dX1_judge_12 : decode cX1_judge 12 = .ok (.invokevirtual 23, 3) := by decide +kernel
theorem dX1_judge_15 : decode cX1_judge 15 = .ok (.ifCond .eq 7, 3) := by decide +kernel
theorem dX1_judge_18 : decode cX1_judge 18 = .ok (.iconst 1, 1) := by decide +kernel
theorem dX1_judge_19 : decode cX1_judge 19 = .ok (.goto 12, 3) := by decide +kernel
theorem dX1_judge_22 : decode cX1_judge 22 = .ok (.aload_n 3, 1) := by decide +kernel
theorem dX1_judge_23 : decode cX1_judge 23 = .ok (.iconst 4, 1) := by decide +kernel
theorem dX1_judge_24 : decode cX1_judge 24 = .ok (.aload_n 0, 1) := by decide +kernel
theorem dX1_judge_25 : decode cX1_judge 25 = .ok (.getfield 29, 3) := by decide +kernel
theorem dX1_judge_28 : decode cX1_judge 28 = .ok (.invokevirtual 32, 3) := by decide +kernel
theorem dX1_judge_31 : decode cX1_judge 31 = .ok (.ireturn, 1) := by decide +kernel
theorem dX1_thingFor_0 : decode cX1_thingFor 0 = .ok (.lload_n 0, 1) := by decide +kernel
theorem dX1_thingFor_1 : decode cX1_thingFor 1 = .ok (.ldc2_w 38, 3) := by decide +kernel
theorem dX1_thingFor_4 : decode cX1_thingFor 4 = .ok (.lrem, 1) := by decide +kernel
theorem dX1_thingFor_5 : decode cX1_thingFor 5 = .ok (.lstore_n 2, 1) := by decide +kernel
theorem dX1_thingFor_6 : decode cX1_thingFor 6 = .ok (.lload_n 2, 1) := by decide +kernel
theorem dX1_thingFor_7 : decode cX1_thingFor 7 = .ok (.lconst 0, 1) := by decide +kernel
theorem dX1_thingFor_8 : decode cX1_thingFor 8 = .ok (.lcmp, 1) := by decide +kernel
theorem dX1_thingFor_9 : decode cX1_thingFor 9 = .ok (.ifCond .ne 5, 3) := by decide +kernel
theorem dX1_thingFor_12 : decode cX1_thingFor 12 = .ok (.iconst 2, 1) := by decide +kernel
theorem dX1_thingFor_13 : decode cX1_thingFor 13 = .ok (.ireturn, 1) := by decide +kernel
theorem dX1_thingFor_14 : decode cX1_thingFor 14 = .ok (.lload_n 2, 1) := by decide +kernel
theorem dX1_thingFor_15 : decode cX1_thingFor 15 = .ok (.lconst 1, 1) := by decide +kernel
theorem dX1_thingFor_16 : decode cX1_thingFor 16 = .ok (.lcmp, 1) := by decide +kernel
theorem dX1_thingFor_17 : decode cX1_thingFor 17 = .ok (.ifCond .ne 7, 3) := by decide +kernel
theorem dX1_thingFor_20 : decode cX1_thingFor 20 = .ok (.iconst 3, 1) := by decide +kernel
theorem dX1_thingFor_21 : decode cX1_thingFor 21 = .ok (.goto 4, 3) := by decide +kernel
theorem dX1_thingFor_24 : decode cX1_thingFor 24 = .ok (.iconst 1, 1) := by decide +kernel
theorem dX1_thingFor_25 : decode cX1_thingFor 25 = .ok (.ireturn, 1) := by decide +kernel
theorem dX2_init_0 : decode cX2_init 0 = .ok (.aload_n 0, 1) := by decide +kernel
theorem dX2_init_1 : decode cX2_init 1 = .ok (.invokespecial 1, 3) := by decide +kernel
theorem dX2_init_4 : decode cX2_init 4 = .ok (.aload_n 0, 1) := by decide +kernel
theorem dX2_init_5 : decode cX2_init 5 = .ok (.iload_n 1, 1) := by decide +kernel
theorem dX2_init_6 : decode cX2_init 6 = .ok (.putfield 7, 3) := by decide +kernel
theorem dX2_init_9 : decode cX2_init 9 = .ok (.aload_n 0, 1) := by decide +kernel
theorem dX2_init_10 : decode cX2_init 10 = .ok (.iload_n 2, 1) := by decide +kernel
theorem dX2_init_11 : decode cX2_init 11 = .ok (.putfield 13, 3) := by decide +kernel
theorem dX2_init_14 : decode cX2_init 14 = .ok (.return_, 1) := by decide +kernel
theorem dX2_timesAsked_0 : decode cX2_timesAsked 0 = .ok (.iconst 0, 1) := by decide +kernel
theorem dX2_timesAsked_1 : decode cX2_timesAsked 1 = .ok (.ireturn, 1) := by decide +kernel
theorem dX2_verdict_0 : decode cX2_verdict 0 = .ok (.iload_n 0, 1) := by decide +kernel
theorem dX2_verdict_1 : decode cX2_verdict 1 = .ok (.ifCond .eq 7, 3) := by decide +kernel
theorem dX2_verdict_4 : decode cX2_verdict 4 = .ok (.iconst 1, 1) := by decide +kernel
theorem dX2_verdict_5 : decode cX2_verdict 5 = .ok (.goto 4, 3) := by decide +kernel
theorem dX2_verdict_8 : decode cX2_verdict 8 = .ok (.iconst 0, 1) := by decide +kernel
theorem dX2_verdict_9 : decode cX2_verdict 9 = .ok (.ireturn, 1) := by decide +kernel
theorem dX3_init_0 : decode cX3_init 0 = .ok (.aload_n 0, 1) := by decide +kernel
theorem dX3_init_1 : decode cX3_init 1 = .ok (.iload_n 1, 1) := by decide +kernel
theorem dX3_init_2 : decode cX3_init 2 = .ok (.iconst 1, 1) := by decide +kernel
theorem dX3_init_3 : decode cX3_init 3 = .ok (.aload_n 3, 1) := by decide +kernel
theorem dX3_init_4 : decode cX3_init 4 = .ok (.getfield 1, 3) := by decide +kernel
theorem dX3_init_7 : decode cX3_init 7 = .ok (.aload 4, 2) := by decide +kernel
theorem dX3_init_9 : decode cX3_init 9 = .ok (.ifnonnull 7, 3) := by decide +kernel
theorem dX3_init_12 : decode cX3_init 12 = .ok (.iconst 0, 1) := by decide +kernel
theorem dX3_init_13 : decode cX3_init 13 = .ok (.goto 8, 3) := by decide +kernel
theorem dX3_init_16 : decode cX3_init 16 = .ok (.aload 4, 2) := by decide +kernel
theorem dX3_init_18 : decode cX3_init 18 = .ok (.getfield 1, 3) := by decide +kernel
theorem dX3_init_21 : decode cX3_init 21 = .ok (.invokestatic 7, 3) := by decide +kernel
theorem dX3_init_24 : decode cX3_init 24 = .ok (.iadd, 1) := by decide +kernel
theorem dX3_init_25 : decode cX3_init 25 = .ok (.invokespecial 13, 3) := by decide +kernel
theorem dX3_init_28 : decode cX3_init 28 = .ok (.aload_n 0, 1) := by decide +kernel
theorem dX3_init_29 : decode cX3_init 29 = .ok (.iload_n 2, 1) := by decide +kernel
theorem dX3_init_30 : decode cX3_init 30 = .ok (.putfield 17, 3) := by decide +kernel
theorem dX3_init_33 : decode cX3_init 33 = .ok (.aload_n 0, 1) := by decide +kernel
theorem dX3_init_34 : decode cX3_init 34 = .ok (.aload_n 3, 1) := by decide +kernel
theorem dX3_init_35 : decode cX3_init 35 = .ok (.putfield 22, 3) := by decide +kernel
theorem dX3_init_38 : decode cX3_init 38 = .ok (.aload_n 0, 1) := by decide +kernel
theorem dX3_init_39 : decode cX3_init 39 = .ok (.aload 4, 2) := by decide +kernel
theorem dX3_init_41 : decode cX3_init 41 = .ok (.putfield 26, 3) := by decide +kernel
theorem dX3_init_44 : decode cX3_init 44 = .ok (.return_, 1) := by decide +kernel
theorem dX3_judge_0 : decode cX3_judge 0 = .ok (.aload_n 0, 1) := by decide +kernel
theorem dX3_judge_1 : decode cX3_judge 1 = .ok (.dup, 1) := by decide +kernel
theorem dX3_judge_2 : decode cX3_judge 2 = .ok (.getfield 29, 3) := by decide +kernel
theorem dX3_judge_5 : decode cX3_judge 5 = .ok (.iconst 1, 1) := by decide +kernel
theorem dX3_judge_6 : decode cX3_judge 6 = .ok (.iadd, 1) := by decide +kernel
theorem dX3_judge_7 : decode cX3_judge 7 = .ok (.putfield 29, 3) := by decide +kernel
theorem dX3_judge_10 : decode cX3_judge 10 = .ok (.aload_n 0, 1) := by decide +kernel
theorem dX3_judge_11 : decode cX3_judge 11 = .ok (.getfield 22, 3) := by decide +kernel
theorem dX3_judge_14 : decode cX3_judge 14 = .ok (.lload_n 1, 1) := by decide +kernel
theorem dX3_judge_15 : decode cX3_judge 15 = .ok (.aload_n 3, 1) := by decide +kernel
theorem dX3_judge_16 : decode cX3_judge 16 = .ok (.invokevirtual 32, 3) := by decide +kernel
theorem dX3_judge_19 : decode cX3_judge 19 = .ok (.istore 4, 2) := by decide +kernel
theorem dX3_judge_21 : decode cX3_judge 21 = .ok (.aload_n 0, 1) := by decide +kernel
theorem dX3_judge_22 : decode cX3_judge 22 = .ok (.getfield 26, 3) := by decide +kernel
theorem dX3_judge_25 : decode cX3_judge 25 = .ok (.ifnull 22, 3) := by decide +kernel
theorem dX3_judge_28 : decode cX3_judge 28 = .ok (.aload_n 0, 1) := by decide +kernel
theorem dX3_judge_29 : decode cX3_judge 29 = .ok (.iload 4, 2) := by decide +kernel
theorem dX3_judge_31 : decode cX3_judge 31 = .ok (.invokevirtual 36, 3) := by decide +kernel
theorem dX3_judge_34 : decode cX3_judge 34 = .ok (.ifCond .eq 13, 3) := by decide +kernel
theorem dX3_judge_37 : decode cX3_judge 37 = .ok (.aload_n 0, 1) := by decide +kernel
theorem dX3_judge_38 : decode cX3_judge 38 = .ok (.getfield 26, 3) := by decide +kernel
theorem dX3_judge_41 : decode cX3_judge 41 = .ok (.lload_n 1, 1) := by decide +kernel
theorem dX3_judge_42 : decode cX3_judge 42 = .ok (.aload_n 3, 1) := by decide +kernel
theorem dX3_judge_43 : decode cX3_judge 43 = .ok (.invokevirtual 32, 3) := by decide +kernel
theorem dX3_judge_46 : decode cX3_judge 46 = .ok (.ireturn, 1) := by decide +kernel
theorem dX3_judge_47 : decode cX3_judge 47 = .ok (.aload_n 0, 1) := by decide +kernel
theorem dX3_judge_48 : decode cX3_judge 48 = .ok (.getfield 17, 3) := by decide +kernel
theorem dX3_judge_51 : decode cX3_judge 51 = .ok (.bipush 7, 2) := by decide +kernel
theorem dX3_judge_53 : decode cX3_judge 53 = .ok (.if_icmp .ne 15, 3) := by decide +kernel
theorem dX3_judge_56 : decode cX3_judge 56 = .ok (.iload 4, 2) := by decide +kernel
theorem dX3_judge_58 : decode cX3_judge 58 = .ok (.ifCond .lt 10, 3) := by decide +kernel
theorem dX3_judge_61 : decode cX3_judge 61 = .ok (.iconst 1, 1) := by decide +kernel
theorem dX3_judge_62 : decode cX3_judge 62 = .ok (.iload 4, 2) := by decide +kernel
theorem dX3_judge_64 : decode cX3_judge 64 = .ok (.isub, 1) := by decide +kernel
theorem dX3_judge_65 : decode cX3_judge 65 = .ok (.goto 5, 3) := by decide +kernel
theorem dX3_judge_68 : decode cX3_judge 68 = .ok (.iload 4, 2) := by decide +kernel
theorem dX3_judge_70 : decode cX3_judge 70 = .ok (.ireturn, 1) := by decide +kernel
theorem dX3_leavesItToSecond_0 : decode cX3_leavesItToSecond 0 = .ok (.aload_n 0, 1) := by decide +kernel
theorem dX3_leavesItToSecond_1 : decode cX3_leavesItToSecond 1 = .ok (.getfield 17, 3) := by decide +kernel
theorem dX3_leavesItToSecond_4 : decode cX3_leavesItToSecond 4 = .ok (.lookupswitch 49 #[(8, 28), (9, 39)], 28) := by decide +kernel
theorem dX3_leavesItToSecond_32 : decode cX3_leavesItToSecond 32 = .ok (.iload_n 1, 1) := by decide +kernel
theorem dX3_leavesItToSecond_33 : decode cX3_leavesItToSecond 33 = .ok (.iconst 1, 1) := by decide +kernel
theorem dX3_leavesItToSecond_34 : decode cX3_leavesItToSecond 34 = .ok (.if_icmp .ne 7, 3) := by decide +kernel
theorem dX3_leavesItToSecond_37 : decode cX3_leavesItToSecond 37 = .ok (.iconst 1, 1) := by decide +kernel
theorem dX3_leavesItToSecond_38 : decode cX3_leavesItToSecond 38 = .ok (.goto 4, 3) := by decide +kernel
theorem dX3_leavesItToSecond_41 : decode cX3_leavesItToSecond 41 = .ok (.iconst 0, 1) := by decide +kernel
theorem dX3_leavesItToSecond_42 : decode cX3_leavesItToSecond 42 = .ok (.ireturn, 1) := by decide +kernel
theorem dX3_leavesItToSecond_43 : decode cX3_leavesItToSecond 43 = .ok (.iload_n 1, 1) := by decide +kernel
theorem dX3_leavesItToSecond_44 : decode cX3_leavesItToSecond 44 = .ok (.ifCond .ne 7, 3) := by decide +kernel
theorem dX3_leavesItToSecond_47 : decode cX3_leavesItToSecond 47 = .ok (.iconst 1, 1) := by decide +kernel
theorem dX3_leavesItToSecond_48 : decode cX3_leavesItToSecond 48 = .ok (.goto 4, 3) := by decide +kernel
theorem dX3_leavesItToSecond_51 : decode cX3_leavesItToSecond 51 = .ok (.iconst 0, 1) := by decide +kernel
theorem dX3_leavesItToSecond_52 : decode cX3_leavesItToSecond 52 = .ok (.ireturn, 1) := by decide +kernel
theorem dX3_leavesItToSecond_53 : decode cX3_leavesItToSecond 53 = .ok (.iload_n 1, 1) := by decide +kernel
theorem dX3_leavesItToSecond_54 : decode cX3_leavesItToSecond 54 = .ok (.invokestatic 40, 3) := by decide +kernel
theorem dX3_leavesItToSecond_57 : decode cX3_leavesItToSecond 57 = .ok (.ireturn, 1) := by decide +kernel
theorem dX3_timesAsked_0 : decode cX3_timesAsked 0 = .ok (.aload_n 0, 1) := by decide +kernel
theorem dX3_timesAsked_1 : decode cX3_timesAsked 1 = .ok (.getfield 17, 3) := by decide +kernel
theorem dX3_timesAsked_4 : decode cX3_timesAsked 4 = .ok (.bipush 11, 2) := by decide +kernel
theorem dX3_timesAsked_6 : decode cX3_timesAsked 6 = .ok (.if_icmp .ne 10, 3) := by decide +kernel
theorem dX3_timesAsked_9 : decode cX3_timesAsked 9 = .ok (.aload_n 0, 1) := by decide +kernel
theorem dX3_timesAsked_10 : decode cX3_timesAsked 10 = .ok (.getfield 29, 3) := by decide +kernel
theorem dX3_timesAsked_13 : decode cX3_timesAsked 13 = .ok (.goto 4, 3) := by decide +kernel
theorem dX3_timesAsked_16 : decode cX3_timesAsked 16 = .ok (.iconst 0, 1) := by decide +kernel
theorem dX3_timesAsked_17 : decode cX3_timesAsked 17 = .ok (.ireturn, 1) := by decide +kernel
theorem dX4_init_0 : decode cX4_init 0 = .ok (.aload_n 0, 1) := by decide +kernel
theorem dX4_init_1 : decode cX4_init 1 = .ok (.iload_n 1, 1) := by decide +kernel
theorem dX4_init_2 : decode cX4_init 2 = .ok (.iconst 1, 1) := by decide +kernel
theorem dX4_init_3 : decode cX4_init 3 = .ok (.invokespecial 3, 3) := by decide +kernel
theorem dX4_init_6 : decode cX4_init 6 = .ok (.aload_n 0, 1) := by decide +kernel
theorem dX4_init_7 : decode cX4_init 7 = .ok (.iload_n 2, 1) := by decide +kernel
theorem dX4_init_8 : decode cX4_init 8 = .ok (.putfield 9, 3) := by decide +kernel
theorem dX4_init_11 : decode cX4_init 11 = .ok (.aload_n 0, 1) := by decide +kernel
theorem dX4_init_12 : decode cX4_init 12 = .ok (.iload_n 3, 1) := by decide +kernel
theorem dX4_init_13 : decode cX4_init 13 = .ok (.putfield 15, 3) := by decide +kernel
theorem dX4_init_16 : decode cX4_init 16 = .ok (.aload_n 0, 1) := by decide +kernel
theorem dX4_init_17 : decode cX4_init 17 = .ok (.lload 4, 2) := by decide +kernel
theorem dX4_init_19 : decode cX4_init 19 = .ok (.putfield 18, 3) := by decide +kernel
theorem dX4_init_22 : decode cX4_init 22 = .ok (.return_, 1) := by decide +kernel
theorem dX4_judge_0 : decode cX4_judge 0 = .ok (.aload_n 0, 1) := by decide +kernel
theorem dX4_judge_1 : decode cX4_judge 1 = .ok (.getfield 9, 3) := by decide +kernel
theorem dX4_judge_4 : decode cX4_judge 4 = .ok (.tableswitch 150 0 4 #[36, 54, 100, 150, 143], 36) := by decide +kernel
theorem dX4_judge_40 : decode cX4_judge 40 = .ok (.lload_n 1, 1) := by decide +kernel
theorem dX4_judge_41 : decode cX4_judge 41 = .ok (.aload_n 0, 1) := by decide +kernel
theorem dX4_judge_42 : decode cX4_judge 42 = .ok (.getfield 18, 3) := by decide +kernel
theorem dX4_judge_45 : decode cX4_judge 45 = .ok (.lcmp, 1) := by decide +kernel
theorem dX4_judge_46 : decode cX4_judge 46 = .ok (.ifCond .ge 7, 3) := by decide +kernel
theorem dX4_judge_49 : decode cX4_judge 49 = .ok (.iconst 1, 1) := by decide +kernel
theorem dX4_judge_50 : decode cX4_judge 50 = .ok (.goto 4, 3) := by decide +kernel
theorem dX4_judge_53 : decode cX4_judge 53 = .ok (.iconst 0, 1) := by decide +kernel
theorem dX4_judge_54 : decode cX4_judge 54 = .ok (.invokestatic 22, 3) := by decide +kernel
theorem dX4_judge_57 : decode cX4_judge 57 = .ok (.ireturn, 1) := by decide +kernel
theorem dX4_judge_58 : decode cX4_judge 58 = .ok (.aload_n 0, 1) := by decide +kernel
theorem dX4_judge_59 : decode cX4_judge 59 = .ok (.getfield 18, 3) := by decide +kernel
theorem dX4_judge_62 : decode cX4_judge 62 = .ok (.lconst 0, 1) := by decide +kernel
theorem dX4_judge_63 : decode cX4_judge 63 = .ok (.lcmp, 1) := by decide +kernel
theorem dX4_judge_64 : decode cX4_judge 64 = .ok (.ifCond .ne 16, 3) := by decide +kernel
theorem dX4_judge_67 : decode cX4_judge 67 = .ok (.aload_n 3, 1) := by decide +kernel
theorem dX4_judge_68 : decode cX4_judge 68 = .ok (.bipush 6, 2) := by decide +kernel
theorem dX4_judge_70 : decode cX4_judge 70 = .ok (.aload_n 0, 1) := by decide +kernel
theorem dX4_judge_71 : decode cX4_judge 71 = .ok (.getfield 26, 3) := by decide +kernel
theorem dX4_judge_74 : decode cX4_judge 74 = .ok (.invokevirtual 29, 3) := by decide +kernel
theorem dX4_judge_77 : decode cX4_judge 77 = .ok (.goto 26, 3) := by decide +kernel
theorem dX4_judge_80 : decode cX4_judge 80 = .ok (.lload_n 1, 1) := by decide +kernel
theorem dX4_judge_81 : decode cX4_judge 81 = .ok (.aload_n 0, 1) := by decide +kernel
theorem dX4_judge_82 : decode cX4_judge 82 = .ok (.getfield 18, 3) := by decide +kernel
theorem dX4_judge_85 : decode cX4_judge 85 = .ok (.lrem, 1) := by decide +kernel
theorem dX4_judge_86 : decode cX4_judge 86 = .ok (.aload_n 0, 1) := by decide +kernel
theorem dX4_judge_87 : decode cX4_judge 87 = .ok (.getfield 15, 3) := by decide +kernel
theorem dX4_judge_90 : decode cX4_judge 90 = .ok (.i2l, 1) := by decide +kernel
theorem dX4_judge_91 : decode cX4_judge 91 = .ok (.lcmp, 1) := by decide +kernel
theorem dX4_judge_92 : decode cX4_judge 92 = .ok (.ifCond .ne 7, 3) := by decide +kernel
theorem dX4_judge_95 : decode cX4_judge 95 = .ok (.iconst 1, 1) := by decide +kernel
theorem dX4_judge_96 : decode cX4_judge 96 = .ok (.goto 4, 3) := by decide +kernel
theorem dX4_judge_99 : decode cX4_judge 99 = .ok (.iconst 0, 1) := by decide +kernel
theorem dX4_judge_100 : decode cX4_judge 100 = .ok (.invokestatic 22, 3) := by decide +kernel
theorem dX4_judge_103 : decode cX4_judge 103 = .ok (.ireturn, 1) := by decide +kernel
theorem dX4_judge_104 : decode cX4_judge 104 = .ok (.lload_n 1, 1) := by decide +kernel
theorem dX4_judge_105 : decode cX4_judge 105 = .ok (.lconst 0, 1) := by decide +kernel
theorem dX4_judge_106 : decode cX4_judge 106 = .ok (.lcmp, 1) := by decide +kernel
theorem dX4_judge_107 : decode cX4_judge 107 = .ok (.ifCond .ne 16, 3) := by decide +kernel
theorem dX4_judge_110 : decode cX4_judge 110 = .ok (.aload_n 3, 1) := by decide +kernel
theorem dX4_judge_111 : decode cX4_judge 111 = .ok (.bipush 6, 2) := by decide +kernel
theorem dX4_judge_113 : decode cX4_judge 113 = .ok (.aload_n 0, 1) := by decide +kernel
theorem dX4_judge_114 : decode cX4_judge 114 = .ok (.getfield 26, 3) := by decide +kernel
theorem dX4_judge_117 : decode cX4_judge 117 = .ok (.invokevirtual 29, 3) := by decide +kernel
theorem dX4_judge_120 : decode cX4_judge 120 = .ok (.goto 26, 3) := by decide +kernel
theorem dX4_judge_123 : decode cX4_judge 123 = .ok (.aload_n 0, 1) := by decide +kernel
theorem dX4_judge_124 : decode cX4_judge 124 = .ok (.getfield 18, 3) := by decide +kernel
theorem dX4_judge_127 : decode cX4_judge 127 = .ok (.lload_n 1, 1) := by decide +kernel
theorem dX4_judge_128 : decode cX4_judge 128 = .ok (.ldiv, 1) := by decide +kernel
theorem dX4_judge_129 : decode cX4_judge 129 = .ok (.aload_n 0, 1) := by decide +kernel
theorem dX4_judge_130 : decode cX4_judge 130 = .ok (.getfield 15, 3) := by decide +kernel
theorem dX4_judge_133 : decode cX4_judge 133 = .ok (.i2l, 1) := by decide +kernel
theorem dX4_judge_134 : decode cX4_judge 134 = .ok (.lcmp, 1) := by decide +kernel
theorem dX4_judge_135 : decode cX4_judge 135 = .ok (.ifCond .le 7, 3) := by decide +kernel
theorem dX4_judge_138 : decode cX4_judge 138 = .ok (.iconst 1, 1) := by decide +kernel
theorem dX4_judge_139 : decode cX4_judge 139 = .ok (.goto 4, 3) := by decide +kernel
theorem dX4_judge_142 : decode cX4_judge 142 = .ok (.iconst 0, 1) := by decide +kernel
theorem dX4_judge_143 : decode cX4_judge 143 = .ok (.invokestatic 22, 3) := by decide +kernel
theorem dX4_judge_146 : decode cX4_judge 146 = .ok (.ireturn, 1) := by decide +kernel
theorem dX4_judge_147 : decode cX4_judge 147 = .ok (.aload_n 0, 1) := by decide +kernel
theorem dX4_judge_148 : decode cX4_judge 148 = .ok (.lload_n 1, 1) := by decide +kernel
theorem dX4_judge_149 : decode cX4_judge 149 = .ok (.aload_n 3, 1) := by decide +kernel
theorem dX4_judge_150 : decode cX4_judge 150 = .ok (.invokevirtual 35, 3) := by decide +kernel
theorem dX4_judge_153 : decode cX4_judge 153 = .ok (.ireturn, 1) := by decide +kernel
theorem dX4_judge_154 : decode cX4_judge 154 = .ok (.lload_n 1, 1) := by decide +kernel
theorem dX4_judge_155 : decode cX4_judge 155 = .ok (.aload_n 0, 1) := by decide +kernel
theorem dX4_judge_156 : decode cX4_judge 156 = .ok (.getfield 18, 3) := by decide +kernel
theorem dX4_judge_159 : decode cX4_judge 159 = .ok (.lcmp, 1) := by decide +kernel
theorem dX4_judge_160 : decode cX4_judge 160 = .ok (.ifCond .ne 16, 3) := by decide +kernel
theorem dX4_judge_163 : decode cX4_judge 163 = .ok (.aload_n 3, 1) := by decide +kernel
theorem dX4_judge_164 : decode cX4_judge 164 = .ok (.bipush 7, 2) := by decide +kernel
theorem dX4_judge_166 : decode cX4_judge 166 = .ok (.aload_n 0, 1) := by decide +kernel
theorem dX4_judge_167 : decode cX4_judge 167 = .ok (.getfield 26, 3) := by decide +kernel
theorem dX4_judge_170 : decode cX4_judge 170 = .ok (.invokevirtual 29, 3) := by decide +kernel
theorem dX4_judge_173 : decode cX4_judge 173 = .ok (.goto 4, 3) := by decide +kernel
theorem dX4_judge_176 : decode cX4_judge 176 = .ok (.iconst 1, 1) := by decide +kernel
theorem dX4_judge_177 : decode cX4_judge 177 = .ok (.ireturn, 1) := by decide +kernel
theorem dX4_judgeRoom_0 : decode cX4_judgeRoom 0 = .ok (.lload_n 1, 1) := by decide +kernel
theorem dX4_judgeRoom_1 : decode cX4_judgeRoom 1 = .ok (.ldc2_w 39, 3) := by decide +kernel
theorem dX4_judgeRoom_4 : decode cX4_judgeRoom 4 = .ok (.lcmp, 1) := by decide +kernel
theorem dX4_judgeRoom_5 : decode cX4_judgeRoom 5 = .ok (.ifCond .le 14, 3) := by decide +kernel
theorem dX4_judgeRoom_8 : decode cX4_judgeRoom 8 = .ok (.aload_n 3, 1) := by decide +kernel
theorem dX4_judgeRoom_9 : decode cX4_judgeRoom 9 = .ok (.bipush 7, 2) := by decide +kernel
theorem dX4_judgeRoom_11 : decode cX4_judgeRoom 11 = .ok (.aload_n 0, 1) := by decide +kernel
theorem dX4_judgeRoom_12 : decode cX4_judgeRoom 12 = .ok (.getfield 26, 3) := by decide +kernel
theorem dX4_judgeRoom_15 : decode cX4_judgeRoom 15 = .ok (.invokevirtual 29, 3) := by decide +kernel
theorem dX4_judgeRoom_18 : decode cX4_judgeRoom 18 = .ok (.ireturn, 1) := by decide +kernel
theorem dX4_judgeRoom_19 : decode cX4_judgeRoom 19 = .ok (.lload_n 1, 1) := by decide +kernel
theorem dX4_judgeRoom_20 : decode cX4_judgeRoom 20 = .ok (.lconst 0, 1) := by decide +kernel
theorem dX4_judgeRoom_21 : decode cX4_judgeRoom 21 = .ok (.lcmp, 1) := by decide +kernel
theorem dX4_judgeRoom_22 : decode cX4_judgeRoom 22 = .ok (.ifCond .ge 15, 3) := by decide +kernel
theorem dX4_judgeRoom_25 : decode cX4_judgeRoom 25 = .ok (.aload_n 3, 1) := by decide +kernel
theorem dX4_judgeRoom_26 : decode cX4_judgeRoom 26 = .ok (.iconst 3, 1) := by decide +kernel
theorem dX4_judgeRoom_27 : decode cX4_judgeRoom 27 = .ok (.aload_n 0, 1) := by decide +kernel
theorem dX4_judgeRoom_28 : decode cX4_judgeRoom 28 = .ok (.getfield 26, 3) := by decide +kernel
theorem dX4_judgeRoom_31 : decode cX4_judgeRoom 31 = .ok (.invokevirtual 29, 3) := by decide +kernel
theorem dX4_judgeRoom_34 : decode cX4_judgeRoom 34 = .ok (.goto 20, 3) := by decide +kernel
theorem dX4_judgeRoom_37 : decode cX4_judgeRoom 37 = .ok (.lload_n 1, 1) := by decide +kernel
theorem dX4_judgeRoom_38 : decode cX4_judgeRoom 38 = .ok (.aload_n 0, 1) := by decide +kernel
theorem dX4_judgeRoom_39 : decode cX4_judgeRoom 39 = .ok (.getfield 18, 3) := by decide +kernel
theorem dX4_judgeRoom_42 : decode cX4_judgeRoom 42 = .ok (.lcmp, 1) := by decide +kernel
theorem dX4_judgeRoom_43 : decode cX4_judgeRoom 43 = .ok (.ifCond .lt 7, 3) := by decide +kernel
theorem dX4_judgeRoom_46 : decode cX4_judgeRoom 46 = .ok (.iconst 1, 1) := by decide +kernel
theorem dX4_judgeRoom_47 : decode cX4_judgeRoom 47 = .ok (.goto 4, 3) := by decide +kernel
theorem dX4_judgeRoom_50 : decode cX4_judgeRoom 50 = .ok (.iconst 0, 1) := by decide +kernel
theorem dX4_judgeRoom_51 : decode cX4_judgeRoom 51 = .ok (.invokestatic 22, 3) := by decide +kernel
theorem dX4_judgeRoom_54 : decode cX4_judgeRoom 54 = .ok (.ireturn, 1) := by decide +kernel
theorem dX5_init_0 : decode cX5_init 0 = .ok (.aload_n 0, 1) := by decide +kernel
theorem dX5_init_1 : decode cX5_init 1 = .ok (.invokespecial 3, 3) := by decide +kernel
theorem dX5_init_4 : decode cX5_init 4 = .ok (.aload_n 0, 1) := by decide +kernel
theorem dX5_init_5 : decode cX5_init 5 = .ok (.sipush 200, 3) := by decide +kernel
theorem dX5_init_8 : decode cX5_init 8 = .ok (.newarray .long, 2) := by decide +kernel
theorem dX5_init_10 : decode cX5_init 10 = .ok (.putfield 9, 3) := by decide +kernel
theorem dX5_init_13 : decode cX5_init 13 = .ok (.return_, 1) := by decide +kernel
theorem dX5_becomePlain_0 : decode cX5_becomePlain 0 = .ok (.aload_n 0, 1) := by decide +kernel
theorem dX5_becomePlain_1 : decode cX5_becomePlain 1 = .ok (.aload_n 1, 1) := by decide +kernel
theorem dX5_becomePlain_2 : decode cX5_becomePlain 2 = .ok (.putfield 15, 3) := by decide +kernel
theorem dX5_becomePlain_5 : decode cX5_becomePlain 5 = .ok (.aload_n 0, 1) := by decide +kernel
theorem dX5_becomePlain_6 : decode cX5_becomePlain 6 = .ok (.iconst 0, 1) := by decide +kernel
theorem dX5_becomePlain_7 : decode cX5_becomePlain 7 = .ok (.putfield 19, 3) := by decide +kernel
theorem dX5_becomePlain_10 : decode cX5_becomePlain 10 = .ok (.return_, 1) := by decide +kernel
theorem dX5_becomeGathered_0 : decode cX5_becomeGathered 0 = .ok (.aload_n 0, 1) := by decide +kernel
theorem dX5_becomeGathered_1 : decode cX5_becomeGathered 1 = .ok (.aconst_null, 1) := by decide +kernel
theorem dX5_becomeGathered_2 : decode cX5_becomeGathered 2 = .ok (.putfield 15, 3) := by decide +kernel
theorem dX5_becomeGathered_5 : decode cX5_becomeGathered 5 = .ok (.aload_n 0, 1) := by decide +kernel
theorem dX5_becomeGathered_6 : decode cX5_becomeGathered 6 = .ok (.iconst 0, 1) := by decide +kernel
theorem dX5_becomeGathered_7 : decode cX5_becomeGathered 7 = .ok (.putfield 19, 3) := by decide +kernel
theorem dX5_becomeGathered_10 : decode cX5_becomeGathered 10 = .ok (.iconst 0, 1) := by decide +kernel
theorem dX5_becomeGathered_11 : decode cX5_becomeGathered 11 = .ok (.istore_n 3, 1) := by decide +kernel
theorem dX5_becomeGathered_12 : decode cX5_becomeGathered 12 = .ok (.iload_n 3, 1) := by decide +kernel
theorem dX5_becomeGathered_13 : decode cX5_becomeGathered 13 = .ok (.iload_n 2, 1) := by decide +kernel
theorem dX5_becomeGathered_14 : decode cX5_becomeGathered 14 = .ok (.if_icmp .ge 65, 3) := by decide +kernel
theorem dX5_becomeGathered_17 : decode cX5_becomeGathered 17 = .ok (.iload_n 3, 1) := by decide +kernel
theorem dX5_becomeGathered_18 : decode cX5_becomeGathered 18 = .ok (.aload_n 1, 1) := by decide +kernel
theorem dX5_becomeGathered_19 : decode cX5_becomeGathered 19 = .ok (.arraylength, 1) := by decide +kernel
theorem dX5_becomeGathered_20 : decode cX5_becomeGathered 20 = .ok (.if_icmp .ge 59, 3) := by decide +kernel
theorem dX5_becomeGathered_23 : decode cX5_becomeGathered 23 = .ok (.aload_n 0, 1) := by decide +kernel
theorem dX5_becomeGathered_24 : decode cX5_becomeGathered 24 = .ok (.getfield 19, 3) := by decide +kernel
theorem dX5_becomeGathered_27 : decode cX5_becomeGathered 27 = .ok (.sipush 200, 3) := by decide +kernel
theorem dX5_becomeGathered_30 : decode cX5_becomeGathered 30 = .ok (.if_icmp .ge 43, 3) := by decide +kernel
theorem dX5_becomeGathered_33 : decode cX5_becomeGathered 33 = .ok (.aload_n 0, 1) := by decide +kernel
theorem dX5_becomeGathered_34 : decode cX5_becomeGathered 34 = .ok (.getfield 9, 3) := by decide +kernel
theorem dX5_becomeGathered_37 : decode cX5_becomeGathered 37 = .ok (.iconst 0, 1) := by decide +kernel
theorem dX5_becomeGathered_38 : decode cX5_becomeGathered 38 = .ok (.aload_n 0, 1) := by decide +kernel
theorem dX5_becomeGathered_39 : decode cX5_becomeGathered 39 = .ok (.getfield 19, 3) := by decide +kernel
theorem dX5_becomeGathered_42 : decode cX5_becomeGathered 42 = .ok (.aload_n 1, 1) := by decide +kernel
theorem dX5_becomeGathered_43 : decode cX5_becomeGathered 43 = .ok (.iload_n 3, 1) := by decide +kernel
theorem dX5_becomeGathered_44 : decode cX5_becomeGathered 44 = .ok (.laload, 1) := by decide +kernel
theorem dX5_becomeGathered_45 : decode cX5_becomeGathered 45 = .ok (.invokestatic 23, 3) := by decide +kernel
theorem dX5_becomeGathered_48 : decode cX5_becomeGathered 48 = .ok (.ifCond .ge 25, 3) := by decide +kernel
theorem dX5_becomeGathered_51 : decode cX5_becomeGathered 51 = .ok (.aload_n 0, 1) := by decide +kernel
theorem dX5_becomeGathered_52 : decode cX5_becomeGathered 52 = .ok (.getfield 9, 3) := by decide +kernel
theorem dX5_becomeGathered_55 : decode cX5_becomeGathered 55 = .ok (.aload_n 0, 1) := by decide +kernel
theorem dX5_becomeGathered_56 : decode cX5_becomeGathered 56 = .ok (.getfield 19, 3) := by decide +kernel
theorem dX5_becomeGathered_59 : decode cX5_becomeGathered 59 = .ok (.aload_n 1, 1) := by decide +kernel
theorem dX5_becomeGathered_60 : decode cX5_becomeGathered 60 = .ok (.iload_n 3, 1) := by decide +kernel
theorem dX5_becomeGathered_61 : decode cX5_becomeGathered 61 = .ok (.laload, 1) := by decide +kernel
theorem dX5_becomeGathered_62 : decode cX5_becomeGathered 62 = .ok (.lastore, 1) := by decide +kernel
theorem dX5_becomeGathered_63 : decode cX5_becomeGathered 63 = .ok (.aload_n 0, 1) := by decide +kernel
theorem dX5_becomeGathered_64 : decode cX5_becomeGathered 64 = .ok (.dup, 1) := by decide +kernel
theorem dX5_becomeGathered_65 : decode cX5_becomeGathered 65 = .ok (.getfield 19, 3) := by decide +kernel
theorem dX5_becomeGathered_68 : decode cX5_becomeGathered 68 = .ok (.iconst 1, 1) := by decide +kernel
theorem dX5_becomeGathered_69 : decode cX5_becomeGathered 69 = .ok (.iadd, 1) := by decide +kernel
theorem dX5_becomeGathered_70 : decode cX5_becomeGathered 70 = .ok (.putfield 19, 3) := by decide +kernel
theorem dX5_becomeGathered_73 : decode cX5_becomeGathered 73 = .ok (.iinc 3 1, 3) := by decide +kernel
theorem dX5_becomeGathered_76 : decode cX5_becomeGathered 76 = .ok (.goto (-64), 3) := by decide +kernel
theorem dX5_becomeGathered_79 : decode cX5_becomeGathered 79 = .ok (.return_, 1) := by decide +kernel
theorem dX5_many_0 : decode cX5_many 0 = .ok (.aload_n 0, 1) := by decide +kernel
theorem dX5_many_1 : decode cX5_many 1 = .ok (.getfield 15, 3) := by decide +kernel
theorem dX5_many_4 : decode cX5_many 4 = .ok (.ifnonnull 11, 3) := by decide +kernel
theorem dX5_many_7 : decode cX5_many 7 = .ok (.aload_n 0, 1) := by decide +kernel
theorem dX5_many_8 : decode cX5_many 8 = .ok (.getfield 19, 3) := by decide +kernel
theorem dX5_many_11 : decode cX5_many 11 = .ok (.i2l, 1) := by decide +kernel
theorem dX5_many_12 : decode cX5_many 12 = .ok (.goto 10, 3) := by decide +kernel
theorem dX5_many_15 : decode cX5_many 15 = .ok (.aload_n 0, 1) := by decide +kernel
theorem dX5_many_16 : decode cX5_many 16 = .ok (.getfield 15, 3) := by decide +kernel
theorem dX5_many_19 : decode cX5_many 19 = .ok (.getfield 27, 3) := by decide +kernel
theorem dX5_many_22 : decode cX5_many 22 = .ok (.lreturn, 1) := by decide +kernel
theorem dX5_numberAt_0 : decode cX5_numberAt 0 = .ok (.aload_n 0, 1) := by decide +kernel
theorem dX5_numberAt_1 : decode cX5_numberAt 1 = .ok (.getfield 15, 3) := by decide +kernel
theorem dX5_numberAt_4 : decode cX5_numberAt 4 = .ok (.ifnull 12, 3) := by decide +kernel
theorem dX5_numberAt_7 : decode cX5_numberAt 7 = .ok (.aload_n 0, 1) := by decide +kernel
theorem dX5_numberAt_8 : decode cX5_numberAt 8 = .ok (.getfield 15, 3) := by decide +kernel
theorem dX5_numberAt_11 : decode cX5_numberAt 11 = .ok (.lload_n 1, 1) := by decide +kernel
theorem dX5_numberAt_12 : decode cX5_numberAt 12 = .ok (.invokevirtual 32, 3) := by decide +kernel
theorem dX5_numberAt_15 : decode cX5_numberAt 15 = .ok (.lreturn, 1) := by decide +kernel
theorem dX5_numberAt_16 : decode cX5_numberAt 16 = .ok (.lload_n 1, 1) := by decide +kernel
theorem dX5_numberAt_17 : decode cX5_numberAt 17 = .ok (.lconst 0, 1) := by decide +kernel
theorem dX5_numberAt_18 : decode cX5_numberAt 18 = .ok (.lcmp, 1) := by decide +kernel
theorem dX5_numberAt_19 : decode cX5_numberAt 19 = .ok (.ifCond .lt 13, 3) := by decide +kernel
theorem dX5_numberAt_22 : decode cX5_numberAt 22 = .ok (.lload_n 1, 1) := by decide +kernel
theorem dX5_numberAt_23 : decode cX5_numberAt 23 = .ok (.aload_n 0, 1) := by decide +kernel
theorem dX5_numberAt_24 : decode cX5_numberAt 24 = .ok (.getfield 19, 3) := by decide +kernel
theorem dX5_numberAt_27 : decode cX5_numberAt 27 = .ok (.i2l, 1) := by decide +kernel
theorem dX5_numberAt_28 : decode cX5_numberAt 28 = .ok (.lcmp, 1) := by decide +kernel
theorem dX5_numberAt_29 : decode cX5_numberAt 29 = .ok (.ifCond .lt 7, 3) := by decide +kernel
theorem dX5_numberAt_32 : decode cX5_numberAt 32 = .ok (.lconst 0, 1) := by decide +kernel
theorem dX5_numberAt_33 : decode cX5_numberAt 33 = .ok (.goto 10, 3) := by decide +kernel
theorem dX5_numberAt_36 : decode cX5_numberAt 36 = .ok (.aload_n 0, 1) := by decide +kernel
theorem dX5_numberAt_37 : decode cX5_numberAt 37 = .ok (.getfield 9, 3) := by decide +kernel
theorem dX5_numberAt_40 : decode cX5_numberAt 40 = .ok (.lload_n 1, 1) := by decide +kernel
theorem dX5_numberAt_41 : decode cX5_numberAt 41 = .ok (.l2i, 1) := by decide +kernel
theorem dX5_numberAt_42 : decode cX5_numberAt 42 = .ok (.laload, 1) := by decide +kernel
theorem dX5_numberAt_43 : decode cX5_numberAt 43 = .ok (.lreturn, 1) := by decide +kernel
theorem dX5_indexOf_0 : decode cX5_indexOf 0 = .ok (.aload_n 0, 1) := by decide +kernel
theorem dX5_indexOf_1 : decode cX5_indexOf 1 = .ok (.getfield 15, 3) := by decide +kernel
theorem dX5_indexOf_4 : decode cX5_indexOf 4 = .ok (.ifnonnull 20, 3) := by decide +kernel
theorem dX5_indexOf_7 : decode cX5_indexOf 7 = .ok (.aload_n 0, 1) := by decide +kernel
theorem dX5_indexOf_8 : decode cX5_indexOf 8 = .ok (.getfield 9, 3) := by decide +kernel
theorem dX5_indexOf_11 : decode cX5_indexOf 11 = .ok (.iconst 0, 1) := by decide +kernel
theorem dX5_indexOf_12 : decode cX5_indexOf 12 = .ok (.aload_n 0, 1) := by decide +kernel
theorem dX5_indexOf_13 : decode cX5_indexOf 13 = .ok (.getfield 19, 3) := by decide +kernel
theorem dX5_indexOf_16 : decode cX5_indexOf 16 = .ok (.lload_n 1, 1) := by decide +kernel
theorem dX5_indexOf_17 : decode cX5_indexOf 17 = .ok (.invokestatic 23, 3) := by decide +kernel
theorem dX5_indexOf_20 : decode cX5_indexOf 20 = .ok (.i2l, 1) := by decide +kernel
theorem dX5_indexOf_21 : decode cX5_indexOf 21 = .ok (.goto 11, 3) := by decide +kernel
theorem dX5_indexOf_24 : decode cX5_indexOf 24 = .ok (.aload_n 0, 1) := by decide +kernel
theorem dX5_indexOf_25 : decode cX5_indexOf 25 = .ok (.getfield 15, 3) := by decide +kernel
theorem dX5_indexOf_28 : decode cX5_indexOf 28 = .ok (.lload_n 1, 1) := by decide +kernel
theorem dX5_indexOf_29 : decode cX5_indexOf 29 = .ok (.invokevirtual 36, 3) := by decide +kernel
theorem dX5_indexOf_32 : decode cX5_indexOf 32 = .ok (.lreturn, 1) := by decide +kernel
theorem dX6_init_0 : decode cX6_init 0 = .ok (.aload_n 0, 1) := by decide +kernel
theorem dX6_init_1 : decode cX6_init 1 = .ok (.invokespecial 3, 3) := by decide +kernel
theorem dX6_init_4 : decode cX6_init 4 = .ok (.aload_n 0, 1) := by decide +kernel
theorem dX6_init_5 : decode cX6_init 5 = .ok (.bipush 12, 2) := by decide +kernel
theorem dX6_init_7 : decode cX6_init 7 = .ok (.newarray .long, 2) := by decide +kernel
theorem dX6_init_9 : decode cX6_init 9 = .ok (.putfield 9, 3) := by decide +kernel
theorem dX6_init_12 : decode cX6_init 12 = .ok (.aload_n 0, 1) := by decide +kernel
theorem dX6_init_13 : decode cX6_init 13 = .ok (.iconst 0, 1) := by decide +kernel
theorem dX6_init_14 : decode cX6_init 14 = .ok (.putfield 15, 3) := by decide +kernel
theorem dX6_init_17 : decode cX6_init 17 = .ok (.return_, 1) := by decide +kernel
theorem dX6_hold_0 : decode cX6_hold 0 = .ok (.aload_n 0, 1) := by decide +kernel
theorem dX6_hold_1 : decode cX6_hold 1 = .ok (.iload_n 1, 1) := by decide +kernel
theorem dX6_hold_2 : decode cX6_hold 2 = .ok (.putfield 15, 3) := by decide +kernel
theorem dX6_hold_5 : decode cX6_hold 5 = .ok (.aload_n 0, 1) := by decide +kernel
theorem dX6_hold_6 : decode cX6_hold 6 = .ok (.iload_n 1, 1) := by decide +kernel
theorem dX6_hold_7 : decode cX6_hold 7 = .ok (.iconst 1, 1) := by decide +kernel
theorem dX6_hold_8 : decode cX6_hold 8 = .ok (.if_icmp .eq 8, 3) := by decide +kernel
theorem dX6_hold_11 : decode cX6_hold 11 = .ok (.iload_n 1, 1) := by decide +kernel
theorem dX6_hold_12 : decode cX6_hold 12 = .ok (.iconst 2, 1) := by decide +kernel
theorem dX6_hold_13 : decode cX6_hold 13 = .ok (.if_icmp .ne 7, 3) := by decide +kernel
theorem dX6_hold_16 : decode cX6_hold 16 = .ok (.iload_n 2, 1) := by decide +kernel
theorem dX6_hold_17 : decode cX6_hold 17 = .ok (.goto 4, 3) := by decide +kernel
theorem dX6_hold_20 : decode cX6_hold 20 = .ok (.iconst 0, 1) := by decide +kernel
theorem dX6_hold_21 : decode cX6_hold 21 = .ok (.putfield 19, 3) := by decide +kernel
theorem dX6_hold_24 : decode cX6_hold 24 = .ok (.aload_n 0, 1) := by decide +kernel
theorem dX6_hold_25 : decode cX6_hold 25 = .ok (.iload_n 1, 1) := by decide +kernel
theorem dX6_hold_26 : decode cX6_hold 26 = .ok (.iconst 3, 1) := by decide +kernel
theorem dX6_hold_27 : decode cX6_hold 27 = .ok (.if_icmp .ne 7, 3) := by decide +kernel
theorem dX6_hold_30 : decode cX6_hold 30 = .ok (.iload_n 2, 1) := by decide +kernel
theorem dX6_hold_31 : decode cX6_hold 31 = .ok (.goto 4, 3) := by decide +kernel
theorem dX6_hold_34 : decode cX6_hold 34 = .ok (.iconst 0, 1) := by decide +kernel
theorem dX6_hold_35 : decode cX6_hold 35 = .ok (.putfield 22, 3) := by decide +kernel
theorem dX6_hold_38 : decode cX6_hold 38 = .ok (.aload_n 0, 1) := by decide +kernel
theorem dX6_hold_39 : decode cX6_hold 39 = .ok (.getfield 9, 3) := by decide +kernel
theorem dX6_hold_42 : decode cX6_hold 42 = .ok (.lconst 0, 1) := by decide +kernel
theorem dX6_hold_43 : decode cX6_hold 43 = .ok (.invokestatic 25, 3) := by decide +kernel
theorem dX6_hold_46 : decode cX6_hold 46 = .ok (.return_, 1) := by decide +kernel
theorem dX6_rowFailure_0 : decode cX6_rowFailure 0 = .ok (.aload_n 0, 1) := by decide +kernel
theorem dX6_rowFailure_1 : decode cX6_rowFailure 1 = .ok (.getfield 15, 3) := by decide +kernel
theorem dX6_rowFailure_4 : decode cX6_rowFailure 4 = .ok (.ifCond .ne 5, 3) := by decide +kernel
theorem dX6_rowFailure_7 : decode cX6_rowFailure 7 = .ok (.iconst 1, 1) := by decide +kernel
theorem dX6_rowFailure_8 : decode cX6_rowFailure 8 = .ok (.ireturn, 1) := by decide +kernel
theorem dX6_rowFailure_9 : decode cX6_rowFailure 9 = .ok (.aload_n 0, 1) := by decide +kernel
theorem dX6_rowFailure_10 : decode cX6_rowFailure 10 = .ok (.getfield 15, 3) := by decide +kernel
theorem dX6_rowFailure_13 : decode cX6_rowFailure 13 = .ok (.iconst 3, 1) := by decide +kernel
theorem dX6_rowFailure_14 : decode cX6_rowFailure 14 = .ok (.if_icmp .ne 7, 3) := by decide +kernel
theorem dX6_rowFailure_17 : decode cX6_rowFailure 17 = .ok (.iconst 5, 1) := by decide +kernel
theorem dX6_rowFailure_18 : decode cX6_rowFailure 18 = .ok (.goto 4, 3) := by decide +kernel
theorem dX6_rowFailure_21 : decode cX6_rowFailure 21 = .ok (.iconst 0, 1) := by decide +kernel
theorem dX6_rowFailure_22 : decode cX6_rowFailure 22 = .ok (.ireturn, 1) := by decide +kernel
theorem dX6_hasItem_0 : decode cX6_hasItem 0 = .ok (.lload_n 1, 1) := by decide +kernel
theorem dX6_hasItem_1 : decode cX6_hasItem 1 = .ok (.lconst 0, 1) := by decide +kernel
theorem dX6_hasItem_2 : decode cX6_hasItem 2 = .ok (.lcmp, 1) := by decide +kernel
theorem dX6_hasItem_3 : decode cX6_hasItem 3 = .ok (.ifCond .lt 25, 3) := by decide +kernel
theorem dX6_hasItem_6 : decode cX6_hasItem 6 = .ok (.lload_n 1, 1) := by decide +kernel
theorem dX6_hasItem_7 : decode cX6_hasItem 7 = .ok (.aload_n 0, 1) := by decide +kernel
theorem dX6_hasItem_8 : decode cX6_hasItem 8 = .ok (.getfield 19, 3) := by decide +kernel
theorem dX6_hasItem_11 : decode cX6_hasItem 11 = .ok (.i2l, 1) := by decide +kernel
theorem dX6_hasItem_12 : decode cX6_hasItem 12 = .ok (.lcmp, 1) := by decide +kernel
theorem dX6_hasItem_13 : decode cX6_hasItem 13 = .ok (.ifCond .ge 15, 3) := by decide +kernel
theorem dX6_hasItem_16 : decode cX6_hasItem 16 = .ok (.lload_n 1, 1) := by decide +kernel
theorem dX6_hasItem_17 : decode cX6_hasItem 17 = .ok (.ldc2_w 31, 3) := by decide +kernel
theorem dX6_hasItem_20 : decode cX6_hasItem 20 = .ok (.lcmp, 1) := by decide +kernel
theorem dX6_hasItem_21 : decode cX6_hasItem 21 = .ok (.ifCond .ge 7, 3) := by decide +kernel
theorem dX6_hasItem_24 : decode cX6_hasItem 24 = .ok (.iconst 1, 1) := by decide +kernel
theorem dX6_hasItem_25 : decode cX6_hasItem 25 = .ok (.goto 4, 3) := by decide +kernel
theorem dX6_hasItem_28 : decode cX6_hasItem 28 = .ok (.iconst 0, 1) := by decide +kernel
theorem dX6_hasItem_29 : decode cX6_hasItem 29 = .ok (.ireturn, 1) := by decide +kernel
theorem dX6_setItem_0 : decode cX6_setItem 0 = .ok (.aload_n 0, 1) := by decide +kernel
theorem dX6_setItem_1 : decode cX6_setItem 1 = .ok (.iload_n 1, 1) := by decide +kernel
theorem dX6_setItem_2 : decode cX6_setItem 2 = .ok (.i2l, 1) := by decide +kernel
theorem dX6_setItem_3 : decode cX6_setItem 3 = .ok (.invokevirtual 33, 3) := by decide +kernel
theorem dX6_setItem_6 : decode cX6_setItem 6 = .ok (.ifCond .eq 24, 3) := by decide +kernel
theorem dX6_setItem_9 : decode cX6_setItem 9 = .ok (.aload_n 0, 1) := by decide +kernel
theorem dX6_setItem_10 : decode cX6_setItem 10 = .ok (.getfield 9, 3) := by decide +kernel
theorem dX6_setItem_13 : decode cX6_setItem 13 = .ok (.iload_n 1, 1) := by decide +kernel
theorem dX6_setItem_14 : decode cX6_setItem 14 = .ok (.aload_n 0, 1) := by decide +kernel
theorem dX6_setItem_15 : decode cX6_setItem 15 = .ok (.getfield 15, 3) := by decide +kernel
theorem dX6_setItem_18 : decode cX6_setItem 18 = .ok (.iconst 2, 1) := by decide +kernel
theorem dX6_setItem_19 : decode cX6_setItem 19 = .ok (.if_icmp .ne 9, 3) := by decide +kernel
theorem dX6_setItem_22 : decode cX6_setItem 22 = .ok (.lload_n 2, 1) := by decide +kernel
theorem dX6_setItem_23 : decode cX6_setItem 23 = .ok (.l2i, 1) := by decide +kernel
theorem dX6_setItem_24 : decode cX6_setItem 24 = .ok (.i2l, 1) := by decide +kernel
theorem dX6_setItem_25 : decode cX6_setItem 25 = .ok (.goto 4, 3) := by decide +kernel
theorem dX6_setItem_28 : decode cX6_setItem 28 = .ok (.lload_n 2, 1) := by decide +kernel
theorem dX6_setItem_29 : decode cX6_setItem 29 = .ok (.lastore, 1) := by decide +kernel
theorem dX6_setItem_30 : decode cX6_setItem 30 = .ok (.return_, 1) := by decide +kernel
theorem dX6_append_0 : decode cX6_append 0 = .ok (.aload_n 0, 1) := by decide +kernel
theorem dX6_append_1 : decode cX6_append 1 = .ok (.getfield 19, 3) := by decide +kernel
theorem dX6_append_4 : decode cX6_append 4 = .ok (.ifCond .lt 12, 3) := by decide +kernel
theorem dX6_append_7 : decode cX6_append 7 = .ok (.aload_n 0, 1) := by decide +kernel
theorem dX6_append_8 : decode cX6_append 8 = .ok (.getfield 19, 3) := by decide +kernel
theorem dX6_append_11 : decode cX6_append 11 = .ok (.bipush 12, 2) := by decide +kernel
theorem dX6_append_13 : decode cX6_append 13 = .ok (.if_icmp .lt 5, 3) := by decide +kernel
theorem dX6_append_16 : decode cX6_append 16 = .ok (.iconst 0, 1) := by decide +kernel
theorem dX6_append_17 : decode cX6_append 17 = .ok (.ireturn, 1) := by decide +kernel
theorem dX6_append_18 : decode cX6_append 18 = .ok (.aload_n 0, 1) := by decide +kernel
theorem dX6_append_19 : decode cX6_append 19 = .ok (.getfield 9, 3) := by decide +kernel
theorem dX6_append_22 : decode cX6_append 22 = .ok (.aload_n 0, 1) := by decide +kernel
theorem dX6_append_23 : decode cX6_append 23 = .ok (.dup, 1) := by decide +kernel
theorem dX6_append_24 : decode cX6_append 24 = .ok (.getfield 19, 3) := by decide +kernel
theorem dX6_append_27 : decode cX6_append 27 = .ok (.dup_x1, 1) := by decide +kernel
theorem dX6_append_28 : decode cX6_append 28 = .ok (.iconst 1, 1) := by decide +kernel
theorem dX6_append_29 : decode cX6_append 29 = .ok (.iadd, 1) := by decide +kernel
theorem dX6_append_30 : decode cX6_append 30 = .ok (.putfield 19, 3) := by decide +kernel
theorem dX6_append_33 : decode cX6_append 33 = .ok (.lload_n 1, 1) := by decide +kernel
theorem dX6_append_34 : decode cX6_append 34 = .ok (.lastore, 1) := by decide +kernel
theorem dX6_append_35 : decode cX6_append 35 = .ok (.iconst 1, 1) := by decide +kernel
theorem dX6_append_36 : decode cX6_append 36 = .ok (.ireturn, 1) := by decide +kernel
theorem dX7_init_0 : decode cX7_init 0 = .ok (.aload_n 0, 1) := by decide +kernel
theorem dX7_init_1 : decode cX7_init 1 = .ok (.iload_n 1, 1) := by decide +kernel
theorem dX7_init_2 : decode cX7_init 2 = .ok (.iconst 1, 1) := by decide +kernel
theorem dX7_init_3 : decode cX7_init 3 = .ok (.invokespecial 3, 3) := by decide +kernel
theorem dX7_init_6 : decode cX7_init 6 = .ok (.aload_n 0, 1) := by decide +kernel
theorem dX7_init_7 : decode cX7_init 7 = .ok (.aload_n 2, 1) := by decide +kernel
theorem dX7_init_8 : decode cX7_init 8 = .ok (.putfield 9, 3) := by decide +kernel
theorem dX7_init_11 : decode cX7_init 11 = .ok (.aload_n 0, 1) := by decide +kernel
theorem dX7_init_12 : decode cX7_init 12 = .ok (.iload_n 3, 1) := by decide +kernel
theorem dX7_init_13 : decode cX7_init 13 = .ok (.putfield 15, 3) := by decide +kernel
theorem dX7_init_16 : decode cX7_init 16 = .ok (.aload_n 0, 1) := by decide +kernel
theorem dX7_init_17 : decode cX7_init 17 = .ok (.lload 4, 2) := by decide +kernel
theorem dX7_init_19 : decode cX7_init 19 = .ok (.putfield 19, 3) := by decide +kernel
theorem dX7_init_22 : decode cX7_init 22 = .ok (.return_, 1) := by decide +kernel
theorem dX7_judge_0 : decode cX7_judge 0 = .ok (.aload_n 0, 1) := by decide +kernel
theorem dX7_judge_1 : decode cX7_judge 1 = .ok (.getfield 9, 3) := by decide +kernel
theorem dX7_judge_4 : decode cX7_judge 4 = .ok (.getfield 23, 3) := by decide +kernel
theorem dX7_judge_7 : decode cX7_judge 7 = .ok (.ifCond .ne 13, 3) := by decide +kernel
theorem dX7_judge_10 : decode cX7_judge 10 = .ok (.aload_n 3, 1) := by decide +kernel
theorem dX7_judge_11 : decode cX7_judge 11 = .ok (.iconst 1, 1) := by decide +kernel
theorem dX7_judge_12 : decode cX7_judge 12 = .ok (.aload_n 0, 1) := by decide +kernel
theorem dX7_judge_13 : decode cX7_judge 13 = .ok (.getfield 28, 3) := by decide +kernel
theorem dX7_judge_16 : decode cX7_judge 16 = .ok (.invokevirtual 31, 3) := by decide +kernel
theorem dX7_judge_19 : decode cX7_judge 19 = .ok (.ireturn, 1) := by decide +kernel
theorem dX7_judge_20 : decode cX7_judge 20 = .ok (.aload_n 0, 1) := by decide +kernel
theorem dX7_judge_21 : decode cX7_judge 21 = .ok (.getfield 9, 3) := by decide +kernel
theorem dX7_judge_24 : decode cX7_judge 24 = .ok (.getfield 23, 3) := by decide +kernel
theorem dX7_judge_27 : decode cX7_judge 27 = .ok (.aload_n 0, 1) := by decide +kernel
theorem dX7_judge_28 : decode cX7_judge 28 = .ok (.getfield 15, 3) := by decide +kernel
theorem dX7_judge_31 : decode cX7_judge 31 = .ok (.if_icmp .eq 13, 3) := by decide +kernel
theorem dX7_judge_34 : decode cX7_judge 34 = .ok (.aload_n 3, 1) := by decide +kernel
theorem dX7_judge_35 : decode cX7_judge 35 = .ok (.iconst 5, 1) := by decide +kernel
theorem dX7_judge_36 : decode cX7_judge 36 = .ok (.aload_n 0, 1) := by decide +kernel
theorem dX7_judge_37 : decode cX7_judge 37 = .ok (.getfield 28, 3) := by decide +kernel
theorem dX7_judge_40 : decode cX7_judge 40 = .ok (.invokevirtual 31, 3) := by decide +kernel
theorem dX7_judge_43 : decode cX7_judge 43 = .ok (.ireturn, 1) := by decide +kernel
theorem dX7_judge_44 : decode cX7_judge 44 = .ok (.aload_n 0, 1) := by decide +kernel
theorem dX7_judge_45 : decode cX7_judge 45 = .ok (.getfield 15, 3) := by decide +kernel
theorem dX7_judge_48 : decode cX7_judge 48 = .ok (.iconst 3, 1) := by decide +kernel
theorem dX7_judge_49 : decode cX7_judge 49 = .ok (.if_icmp .ne 25, 3) := by decide +kernel
theorem dX7_judge_52 : decode cX7_judge 52 = .ok (.lload_n 1, 1) := by decide +kernel
theorem dX7_judge_53 : decode cX7_judge 53 = .ok (.aload_n 0, 1) := by decide +kernel
theorem dX7_judge_54 : decode cX7_judge 54 = .ok (.getfield 9, 3) := by decide +kernel
theorem dX7_judge_57 : decode cX7_judge 57 = .ok (.getfield 37, 3) := by decide +kernel
theorem dX7_judge_60 : decode cX7_judge 60 = .ok (.i2l, 1) := by decide +kernel
theorem dX7_judge_61 : decode cX7_judge 61 = .ok (.lcmp, 1) := by decide +kernel
theorem dX7_judge_62 : decode cX7_judge 62 = .ok (.ifCond .le 7, 3) := by decide +kernel
theorem dX7_judge_65 : decode cX7_judge 65 = .ok (.iconst 1, 1) := by decide +kernel
theorem dX7_judge_66 : decode cX7_judge 66 = .ok (.goto 4, 3) := by decide +kernel
theorem dX7_judge_69 : decode cX7_judge 69 = .ok (.iconst 0, 1) := by decide +kernel
theorem dX7_judge_70 : decode cX7_judge 70 = .ok (.invokestatic 40, 3) := by decide +kernel
theorem dX7_judge_73 : decode cX7_judge 73 = .ok (.ireturn, 1) := by decide +kernel
theorem dX7_judge_74 : decode cX7_judge 74 = .ok (.aload_n 0, 1) := by decide +kernel
theorem dX7_judge_75 : decode cX7_judge 75 = .ok (.getfield 9, 3) := by decide +kernel
theorem dX7_judge_78 : decode cX7_judge 78 = .ok (.lload_n 1, 1) := by decide +kernel
theorem dX7_judge_79 : decode cX7_judge 79 = .ok (.invokevirtual 44, 3) := by decide +kernel
theorem dX7_judge_82 : decode cX7_judge 82 = .ok (.ifCond .ne 13, 3) := by decide +kernel
theorem dX7_judge_85 : decode cX7_judge 85 = .ok (.aload_n 3, 1) := by decide +kernel
theorem dX7_judge_86 : decode cX7_judge 86 = .ok (.iconst 2, 1) := by decide +kernel
theorem dX7_judge_87 : decode cX7_judge 87 = .ok (.aload_n 0, 1) := by decide +kernel
theorem dX7_judge_88 : decode cX7_judge 88 = .ok (.getfield 28, 3) := by decide +kernel
theorem dX7_judge_91 : decode cX7_judge 91 = .ok (.invokevirtual 31, 3) := by decide +kernel
theorem dX7_judge_94 : decode cX7_judge 94 = .ok (.ireturn, 1) := by decide +kernel
theorem dX7_judge_95 : decode cX7_judge 95 = .ok (.aload_n 0, 1) := by decide +kernel
theorem dX7_judge_96 : decode cX7_judge 96 = .ok (.getfield 9, 3) := by decide +kernel
theorem dX7_judge_99 : decode cX7_judge 99 = .ok (.getfield 48, 3) := by decide +kernel
theorem dX7_judge_102 : decode cX7_judge 102 = .ok (.lload_n 1, 1) := by decide +kernel
theorem dX7_judge_103 : decode cX7_judge 103 = .ok (.l2i, 1) := by decide +kernel
theorem dX7_judge_104 : decode cX7_judge 104 = .ok (.laload, 1) := by decide +kernel
theorem dX7_judge_105 : decode cX7_judge 105 = .ok (.aload_n 0, 1) := by decide +kernel
theorem dX7_judge_106 : decode cX7_judge 106 = .ok (.getfield 19, 3) := by decide +kernel
theorem dX7_judge_109 : decode cX7_judge 109 = .ok (.lcmp, 1) := by decide +kernel
theorem dX7_judge_110 : decode cX7_judge 110 = .ok (.ifCond .le 7, 3) := by decide +kernel
theorem dX7_judge_113 : decode cX7_judge 113 = .ok (.iconst 1, 1) := by decide +kernel
theorem dX7_judge_114 : decode cX7_judge 114 = .ok (.goto 4, 3) := by decide +kernel
theorem dX7_judge_117 : decode cX7_judge 117 = .ok (.iconst 0, 1) := by decide +kernel
theorem dX7_judge_118 : decode cX7_judge 118 = .ok (.invokestatic 40, 3) := by decide +kernel
theorem dX7_judge_121 : decode cX7_judge 121 = .ok (.ireturn, 1) := by decide +kernel
theorem dX8_init_0 : decode cX8_init 0 = .ok (.aload_n 0, 1) := by decide +kernel
theorem dX8_init_1 : decode cX8_init 1 = .ok (.invokespecial 3, 3) := by decide +kernel
theorem dX8_init_4 : decode cX8_init 4 = .ok (.aload_n 0, 1) := by decide +kernel
theorem dX8_init_5 : decode cX8_init 5 = .ok (.iconst 0, 1) := by decide +kernel
theorem dX8_init_6 : decode cX8_init 6 = .ok (.putfield 11, 3) := by decide +kernel
theorem dX8_init_9 : decode cX8_init 9 = .ok (.aload_n 0, 1) := by decide +kernel
theorem dX8_init_10 : decode cX8_init 10 = .ok (.iconst 1, 1) := by decide +kernel
theorem dX8_init_11 : decode cX8_init 11 = .ok (.putfield 15, 3) := by decide +kernel
theorem dX8_init_14 : decode cX8_init 14 = .ok (.aload_n 0, 1) := by decide +kernel
theorem dX8_init_15 : decode cX8_init 15 = .ok (.aload_n 1, 1) := by decide +kernel
theorem dX8_init_16 : decode cX8_init 16 = .ok (.putfield 18, 3) := by decide +kernel
theorem dX8_init_19 : decode cX8_init 19 = .ok (.aload_n 0, 1) := by decide +kernel
theorem dX8_init_20 : decode cX8_init 20 = .ok (.aconst_null, 1) := by decide +kernel
theorem dX8_init_21 : decode cX8_init 21 = .ok (.putfield 22, 3) := by decide +kernel
theorem dX8_init_24 : decode cX8_init 24 = .ok (.aload_n 0, 1) := by decide +kernel
theorem dX8_init_25 : decode cX8_init 25 = .ok (.aconst_null, 1) := by decide +kernel
theorem dX8_init_26 : decode cX8_init 26 = .ok (.putfield 26, 3) := by decide +kernel
theorem dX8_init_29 : decode cX8_init 29 = .ok (.aload_n 0, 1) := by decide +kernel
theorem dX8_init_30 : decode cX8_init 30 = .ok (.aconst_null, 1) := by decide +kernel
theorem dX8_init_31 : decode cX8_init 31 = .ok (.putfield 30, 3) := by decide +kernel
theorem dX8_init_34 : decode cX8_init 34 = .ok (.aload_n 0, 1) := by decide +kernel
theorem dX8_init_35 : decode cX8_init 35 = .ok (.aconst_null, 1) := by decide +kernel
theorem dX8_init_36 : decode cX8_init 36 = .ok (.putfield 33, 3) := by decide +kernel
theorem dX8_init_39 : decode cX8_init 39 = .ok (.aload_n 0, 1) := by decide +kernel
theorem dX8_init_40 : decode cX8_init 40 = .ok (.iconst 0, 1) := by decide +kernel
theorem dX8_init_41 : decode cX8_init 41 = .ok (.putfield 37, 3) := by decide +kernel
theorem dX8_init_44 : decode cX8_init 44 = .ok (.aload_n 0, 1) := by decide +kernel
theorem dX8_init_45 : decode cX8_init 45 = .ok (.lconst 0, 1) := by decide +kernel
theorem dX8_init_46 : decode cX8_init 46 = .ok (.putfield 40, 3) := by decide +kernel
theorem dX8_init_49 : decode cX8_init 49 = .ok (.return_, 1) := by decide +kernel
theorem dX8_init__0 : decode cX8_init_ 0 = .ok (.aload_n 0, 1) := by decide +kernel
theorem dX8_init__1 : decode cX8_init_ 1 = .ok (.invokespecial 3, 3) := by decide +kernel
theorem dX8_init__4 : decode cX8_init_ 4 = .ok (.aload_n 0, 1) := by decide +kernel
theorem dX8_init__5 : decode cX8_init_ 5 = .ok (.iload_n 1, 1) := by decide +kernel
theorem dX8_init__6 : decode cX8_init_ 6 = .ok (.putfield 11, 3) := by decide +kernel
theorem dX8_init__9 : decode cX8_init_ 9 = .ok (.aload_n 0, 1) := by decide +kernel
theorem dX8_init__10 : decode cX8_init_ 10 = .ok (.aload_n 2, 1) := by decide +kernel
theorem dX8_init__11 : decode cX8_init_ 11 = .ok (.aload_n 3, 1) := by decide +kernel
theorem dX8_init__12 : decode cX8_init_ 12 = .ok (.invokestatic 44, 3) := by decide +kernel
theorem dX8_init__15 : decode cX8_init_ 15 = .ok (.putfield 15, 3) := by decide +kernel
theorem dX8_init__18 : decode cX8_init_ 18 = .ok (.aload_n 0, 1) := by decide +kernel
theorem dX8_init__19 : decode cX8_init_ 19 = .ok (.iload_n 1, 1) := by decide +kernel
theorem dX8_init__20 : decode cX8_init_ 20 = .ok (.aload_n 2, 1) := by decide +kernel
theorem dX8_init__21 : decode cX8_init_ 21 = .ok (.iload 6, 2) := by decide +kernel
theorem dX8_init__23 : decode cX8_init_ 23 = .ok (.invokestatic 48, 3) := by decide +kernel
theorem dX8_init__26 : decode cX8_init_ 26 = .ok (.putfield 18, 3) := by decide +kernel
theorem dX8_init__29 : decode cX8_init_ 29 = .ok (.aload_n 0, 1) := by decide +kernel
theorem dX8_init__30 : decode cX8_init_ 30 = .ok (.aload 5, 2) := by decide +kernel
theorem dX8_init__32 : decode cX8_init_ 32 = .ok (.putfield 22, 3) := by decide +kernel
theorem dX8_init__35 : decode cX8_init_ 35 = .ok (.aload_n 0, 1) := by decide +kernel
theorem dX8_init__36 : decode cX8_init_ 36 = .ok (.aload_n 2, 1) := by decide +kernel
theorem dX8_init__37 : decode cX8_init_ 37 = .ok (.putfield 26, 3) := by decide +kernel
theorem dX8_init__40 : decode cX8_init_ 40 = .ok (.aload_n 0, 1) := by decide +kernel
theorem dX8_init__41 : decode cX8_init_ 41 = .ok (.aload_n 3, 1) := by decide +kernel
theorem dX8_init__42 : decode cX8_init_ 42 = .ok (.putfield 30, 3) := by decide +kernel
theorem dX8_init__45 : decode cX8_init_ 45 = .ok (.aload_n 0, 1) := by decide +kernel
theorem dX8_init__46 : decode cX8_init_ 46 = .ok (.aload 4, 2) := by decide +kernel
theorem dX8_init__48 : decode cX8_init_ 48 = .ok (.putfield 33, 3) := by decide +kernel
theorem dX8_init__51 : decode cX8_init_ 51 = .ok (.aload_n 0, 1) := by decide +kernel
theorem dX8_init__52 : decode cX8_init_ 52 = .ok (.iload 6, 2) := by decide +kernel
theorem dX8_init__54 : decode cX8_init_ 54 = .ok (.putfield 37, 3) := by decide +kernel
theorem dX8_init__57 : decode cX8_init_ 57 = .ok (.aload_n 0, 1) := by decide +kernel
theorem dX8_init__58 : decode cX8_init_ 58 = .ok (.lload 7, 2) := by decide +kernel
theorem dX8_init__60 : decode cX8_init_ 60 = .ok (.putfield 40, 3) := by decide +kernel
theorem dX8_init__63 : decode cX8_init_ 63 = .ok (.return_, 1) := by decide +kernel
theorem dX8_depthOver_0 : decode cX8_depthOver 0 = .ok (.iconst 1, 1) := by decide +kernel
theorem dX8_depthOver_1 : decode cX8_depthOver 1 = .ok (.aload_n 0, 1) := by decide +kernel
theorem dX8_depthOver_2 : decode cX8_depthOver 2 = .ok (.ifnonnull 7, 3) := by decide +kernel
theorem dX8_depthOver_5 : decode cX8_depthOver 5 = .ok (.iconst 0, 1) := by decide +kernel
theorem dX8_depthOver_6 : decode cX8_depthOver 6 = .ok (.goto 7, 3) := by decide +kernel
theorem dX8_depthOver_9 : decode cX8_depthOver 9 = .ok (.aload_n 0, 1) := by decide +kernel
theorem dX8_depthOver_10 : decode cX8_depthOver 10 = .ok (.getfield 15, 3) := by decide +kernel
theorem dX8_depthOver_13 : decode cX8_depthOver 13 = .ok (.aload_n 1, 1) := by decide +kernel
theorem dX8_depthOver_14 : decode cX8_depthOver 14 = .ok (.ifnonnull 7, 3) := by decide +kernel
theorem dX8_depthOver_17 : decode cX8_depthOver 17 = .ok (.iconst 0, 1) := by decide +kernel
theorem dX8_depthOver_18 : decode cX8_depthOver 18 = .ok (.goto 7, 3) := by decide +kernel
theorem dX8_depthOver_21 : decode cX8_depthOver 21 = .ok (.aload_n 1, 1) := by decide +kernel
theorem dX8_depthOver_22 : decode cX8_depthOver 22 = .ok (.getfield 15, 3) := by decide +kernel
theorem dX8_depthOver_25 : decode cX8_depthOver 25 = .ok (.invokestatic 52, 3) := by decide +kernel
theorem dX8_depthOver_28 : decode cX8_depthOver 28 = .ok (.iadd, 1) := by decide +kernel
theorem dX8_depthOver_29 : decode cX8_depthOver 29 = .ok (.ireturn, 1) := by decide +kernel
theorem dX8_plainOver_0 : decode cX8_plainOver 0 = .ok (.aload_n 1, 1) := by decide +kernel
theorem dX8_plainOver_1 : decode cX8_plainOver 1 = .ok (.ifnull 10, 3) := by decide +kernel
theorem dX8_plainOver_4 : decode cX8_plainOver 4 = .ok (.aload_n 1, 1) := by decide +kernel
theorem dX8_plainOver_5 : decode cX8_plainOver 5 = .ok (.getfield 18, 3) := by decide +kernel
theorem dX8_plainOver_8 : decode cX8_plainOver 8 = .ok (.ifnonnull 5, 3) := by decide +kernel
theorem dX8_plainOver_11 : decode cX8_plainOver 11 = .ok (.aconst_null, 1) := by decide +kernel
theorem dX8_plainOver_12 : decode cX8_plainOver 12 = .ok (.areturn, 1) := by decide +kernel
theorem dX8_plainOver_13 : decode cX8_plainOver 13 = .ok (.iload_n 0, 1) := by decide +kernel
theorem dX8_plainOver_14 : decode cX8_plainOver 14 = .ok (.lookupswitch 43 #[(5, 26), (8, 34)], 26) := by decide +kernel
theorem dX8_plainOver_40 : decode cX8_plainOver 40 = .ok (.aload_n 1, 1) := by decide +kernel
theorem dX8_plainOver_41 : decode cX8_plainOver 41 = .ok (.getfield 18, 3) := by decide +kernel
theorem dX8_plainOver_44 : decode cX8_plainOver 44 = .ok (.invokevirtual 58, 3) := by decide +kernel
theorem dX8_plainOver_47 : decode cX8_plainOver 47 = .ok (.areturn, 1) := by decide +kernel
theorem dX8_plainOver_48 : decode cX8_plainOver 48 = .ok (.aload_n 1, 1) := by decide +kernel
theorem dX8_plainOver_49 : decode cX8_plainOver 49 = .ok (.getfield 18, 3) := by decide +kernel
theorem dX8_plainOver_52 : decode cX8_plainOver 52 = .ok (.iload_n 2, 1) := by decide +kernel
theorem dX8_plainOver_53 : decode cX8_plainOver 53 = .ok (.invokevirtual 64, 3) := by decide +kernel
theorem dX8_plainOver_56 : decode cX8_plainOver 56 = .ok (.areturn, 1) := by decide +kernel
theorem dX8_plainOver_57 : decode cX8_plainOver 57 = .ok (.aconst_null, 1) := by decide +kernel
theorem dX8_plainOver_58 : decode cX8_plainOver 58 = .ok (.areturn, 1) := by decide +kernel
theorem dX8_gather_0 : decode cX8_gather 0 = .ok (.iload_n 2, 1) := by decide +kernel
theorem dX8_gather_1 : decode cX8_gather 1 = .ok (.ifCond .lt 13, 3) := by decide +kernel
theorem dX8_gather_4 : decode cX8_gather 4 = .ok (.iload_n 2, 1) := by decide +kernel
theorem dX8_gather_5 : decode cX8_gather 5 = .ok (.aload_n 1, 1) := by decide +kernel
theorem dX8_gather_6 : decode cX8_gather 6 = .ok (.arraylength, 1) := by decide +kernel
theorem dX8_gather_7 : decode cX8_gather 7 = .ok (.sipush 200, 3) := by decide +kernel
theorem dX8_gather_10 : decode cX8_gather 10 = .ok (.isub, 1) := by decide +kernel
theorem dX8_gather_11 : decode cX8_gather 11 = .ok (.if_icmp .le 6, 3) := by decide +kernel
theorem dX8_gather_14 : decode cX8_gather 14 = .ok (.bipush (-4), 2) := by decide +kernel
theorem dX8_gather_16 : decode cX8_gather 16 = .ok (.ireturn, 1) := by decide +kernel
theorem dX8_gather_17 : decode cX8_gather 17 = .ok (.aload_n 0, 1) := by decide +kernel
theorem dX8_gather_18 : decode cX8_gather 18 = .ok (.getfield 18, 3) := by decide +kernel
theorem dX8_gather_21 : decode cX8_gather 21 = .ok (.ifnull 10, 3) := by decide +kernel
theorem dX8_gather_24 : decode cX8_gather 24 = .ok (.aload_n 0, 1) := by decide +kernel
theorem dX8_gather_25 : decode cX8_gather 25 = .ok (.aload_n 1, 1) := by decide +kernel
theorem dX8_gather_26 : decode cX8_gather 26 = .ok (.iload_n 2, 1) := by decide +kernel
theorem dX8_gather_27 : decode cX8_gather 27 = .ok (.invokevirtual 68, 3) := by decide +kernel
theorem dX8_gather_30 : decode cX8_gather 30 = .ok (.ireturn, 1) := by decide +kernel
theorem dX8_gather_31 : decode cX8_gather 31 = .ok (.aload_n 0, 1) := by decide +kernel
theorem dX8_gather_32 : decode cX8_gather 32 = .ok (.getfield 26, 3) := by decide +kernel
theorem dX8_gather_35 : decode cX8_gather 35 = .ok (.ifnonnull 11, 3) := by decide +kernel
theorem dX8_gather_38 : decode cX8_gather 38 = .ok (.aload_n 0, 1) := by decide +kernel
theorem dX8_gather_39 : decode cX8_gather 39 = .ok (.aload_n 1, 1) := by decide +kernel
theorem dX8_gather_40 : decode cX8_gather 40 = .ok (.iload_n 2, 1) := by decide +kernel
theorem dX8_gather_41 : decode cX8_gather 41 = .ok (.aload_n 3, 1) := by decide +kernel
theorem dX8_gather_42 : decode cX8_gather 42 = .ok (.invokevirtual 72, 3) := by decide +kernel
theorem dX8_gather_45 : decode cX8_gather 45 = .ok (.ireturn, 1) := by decide +kernel
theorem dX8_gather_46 : decode cX8_gather 46 = .ok (.aload_n 0, 1) := by decide +kernel
theorem dX8_gather_47 : decode cX8_gather 47 = .ok (.getfield 26, 3) := by decide +kernel
theorem dX8_gather_50 : decode cX8_gather 50 = .ok (.aload_n 1, 1) := by decide +kernel
theorem dX8_gather_51 : decode cX8_gather 51 = .ok (.iload_n 2, 1) := by decide +kernel
theorem dX8_gather_52 : decode cX8_gather 52 = .ok (.aload_n 3, 1) := by decide +kernel
theorem dX8_gather_53 : decode cX8_gather 53 = .ok (.invokevirtual 76, 3) := by decide +kernel
theorem dX8_gather_56 : decode cX8_gather 56 = .ok (.istore 4, 2) := by decide +kernel
theorem dX8_gather_58 : decode cX8_gather 58 = .ok (.iload 4, 2) := by decide +kernel
theorem dX8_gather_60 : decode cX8_gather 60 = .ok (.ifCond .ge 6, 3) := by decide +kernel
theorem dX8_gather_63 : decode cX8_gather 63 = .ok (.iload 4, 2) := by decide +kernel
theorem dX8_gather_65 : decode cX8_gather 65 = .ok (.ireturn, 1) := by decide +kernel
theorem dX8_gather_66 : decode cX8_gather 66 = .ok (.aload_n 0, 1) := by decide +kernel
theorem dX8_gather_67 : decode cX8_gather 67 = .ok (.getfield 30, 3) := by decide +kernel
theorem dX8_gather_70 : decode cX8_gather 70 = .ok (.ifnonnull 15, 3) := by decide +kernel
theorem dX8_gather_73 : decode cX8_gather 73 = .ok (.aload_n 0, 1) := by decide +kernel
theorem dX8_gather_74 : decode cX8_gather 74 = .ok (.aload_n 1, 1) := by decide +kernel
theorem dX8_gather_75 : decode cX8_gather 75 = .ok (.iload_n 2, 1) := by decide +kernel
theorem dX8_gather_76 : decode cX8_gather 76 = .ok (.iload_n 2, 1) := by decide +kernel
theorem dX8_gather_77 : decode cX8_gather 77 = .ok (.iload 4, 2) := by decide +kernel
theorem dX8_gather_79 : decode cX8_gather 79 = .ok (.iadd, 1) := by decide +kernel
theorem dX8_gather_80 : decode cX8_gather 80 = .ok (.aload_n 3, 1) := by decide +kernel
theorem dX8_gather_81 : decode cX8_gather 81 = .ok (.invokevirtual 79, 3) := by decide +kernel
theorem dX8_gather_84 : decode cX8_gather 84 = .ok (.ireturn, 1) := by decide +kernel
theorem dX8_gather_85 : decode cX8_gather 85 = .ok (.aload_n 0, 1) := by decide +kernel
theorem dX8_gather_86 : decode cX8_gather 86 = .ok (.getfield 30, 3) := by decide +kernel
theorem dX8_gather_89 : decode cX8_gather 89 = .ok (.aload_n 1, 1) := by decide +kernel
theorem dX8_gather_90 : decode cX8_gather 90 = .ok (.iload_n 2, 1) := by decide +kernel
theorem dX8_gather_91 : decode cX8_gather 91 = .ok (.iload 4, 2) := by decide +kernel
theorem dX8_gather_93 : decode cX8_gather 93 = .ok (.iadd, 1) := by decide +kernel
theorem dX8_gather_94 : decode cX8_gather 94 = .ok (.aload_n 3, 1) := by decide +kernel
theorem dX8_gather_95 : decode cX8_gather 95 = .ok (.invokevirtual 76, 3) := by decide +kernel
theorem dX8_gather_98 : decode cX8_gather 98 = .ok (.istore 5, 2) := by decide +kernel
theorem dX8_gather_100 : decode cX8_gather 100 = .ok (.iload 5, 2) := by decide +kernel
theorem dX8_gather_102 : decode cX8_gather 102 = .ok (.ifCond .ge 8, 3) := by decide +kernel
theorem dX8_gather_105 : decode cX8_gather 105 = .ok (.iload 5, 2) := by decide +kernel
theorem dX8_gather_107 : decode cX8_gather 107 = .ok (.goto 20, 3) := by decide +kernel
theorem dX8_gather_110 : decode cX8_gather 110 = .ok (.aload_n 0, 1) := by decide +kernel
theorem dX8_gather_111 : decode cX8_gather 111 = .ok (.aload_n 1, 1) := by decide +kernel
theorem dX8_gather_112 : decode cX8_gather 112 = .ok (.iload_n 2, 1) := by decide +kernel
theorem dX8_gather_113 : decode cX8_gather 113 = .ok (.iload_n 2, 1) := by decide +kernel
theorem dX8_gather_114 : decode cX8_gather 114 = .ok (.iload 4, 2) := by decide +kernel
theorem dX8_gather_116 : decode cX8_gather 116 = .ok (.iadd, 1) := by decide +kernel
theorem dX8_gather_117 : decode cX8_gather 117 = .ok (.iload_n 2, 1) := by decide +kernel
theorem dX8_gather_118 : decode cX8_gather 118 = .ok (.iload 4, 2) := by decide +kernel
theorem dX8_gather_120 : decode cX8_gather 120 = .ok (.iadd, 1) := by decide +kernel
theorem dX8_gather_121 : decode cX8_gather 121 = .ok (.iload 5, 2) := by decide +kernel
theorem dX8_gather_123 : decode cX8_gather 123 = .ok (.iadd, 1) := by decide +kernel
theorem dX8_gather_124 : decode cX8_gather 124 = .ok (.invokevirtual 83, 3) := by decide +kernel
theorem dX8_gather_127 : decode cX8_gather 127 = .ok (.ireturn, 1) := by decide +kernel
theorem dX8_gatherPlain_0 : decode cX8_gatherPlain 0 = .ok (.aload_n 0, 1) := by decide +kernel
theorem dX8_gatherPlain_1 : decode cX8_gatherPlain 1 = .ok (.getfield 18, 3) := by decide +kernel
theorem dX8_gatherPlain_4 : decode cX8_gatherPlain 4 = .ok (.getfield 87, 3) := by decide +kernel
theorem dX8_gatherPlain_7 : decode cX8_gatherPlain 7 = .ok (.ldc2_w 90, 3) := by decide +kernel
theorem dX8_gatherPlain_10 : decode cX8_gatherPlain 10 = .ok (.lcmp, 1) := by decide +kernel
theorem dX8_gatherPlain_11 : decode cX8_gatherPlain 11 = .ok (.ifCond .le 6, 3) := by decide +kernel
theorem dX8_gatherPlain_14 : decode cX8_gatherPlain 14 = .ok (.bipush (-4), 2) := by decide +kernel
theorem dX8_gatherPlain_16 : decode cX8_gatherPlain 16 = .ok (.ireturn, 1) := by decide +kernel
theorem dX8_gatherPlain_17 : decode cX8_gatherPlain 17 = .ok (.aload_n 0, 1) := by decide +kernel
theorem dX8_gatherPlain_18 : decode cX8_gatherPlain 18 = .ok (.getfield 18, 3) := by decide +kernel
theorem dX8_gatherPlain_21 : decode cX8_gatherPlain 21 = .ok (.getfield 87, 3) := by decide +kernel
theorem dX8_gatherPlain_24 : decode cX8_gatherPlain 24 = .ok (.l2i, 1) := by decide +kernel
theorem dX8_gatherPlain_25 : decode cX8_gatherPlain 25 = .ok (.istore_n 3, 1) := by decide +kernel
theorem dX8_gatherPlain_26 : decode cX8_gatherPlain 26 = .ok (.iconst 0, 1) := by decide +kernel
theorem dX8_gatherPlain_27 : decode cX8_gatherPlain 27 = .ok (.istore 4, 2) := by decide +kernel
theorem dX8_gatherPlain_29 : decode cX8_gatherPlain 29 = .ok (.iload 4, 2) := by decide +kernel
theorem dX8_gatherPlain_31 : decode cX8_gatherPlain 31 = .ok (.iload_n 3, 1) := by decide +kernel
theorem dX8_gatherPlain_32 : decode cX8_gatherPlain 32 = .ok (.if_icmp .ge 25, 3) := by decide +kernel
theorem dX8_gatherPlain_35 : decode cX8_gatherPlain 35 = .ok (.aload_n 1, 1) := by decide +kernel
theorem dX8_gatherPlain_36 : decode cX8_gatherPlain 36 = .ok (.iload_n 2, 1) := by decide +kernel
theorem dX8_gatherPlain_37 : decode cX8_gatherPlain 37 = .ok (.iload 4, 2) := by decide +kernel
theorem dX8_gatherPlain_39 : decode cX8_gatherPlain 39 = .ok (.iadd, 1) := by decide +kernel
theorem dX8_gatherPlain_40 : decode cX8_gatherPlain 40 = .ok (.aload_n 0, 1) := by decide +kernel
theorem dX8_gatherPlain_41 : decode cX8_gatherPlain 41 = .ok (.getfield 18, 3) := by decide +kernel
theorem dX8_gatherPlain_44 : decode cX8_gatherPlain 44 = .ok (.iload 4, 2) := by decide +kernel
theorem dX8_gatherPlain_46 : decode cX8_gatherPlain 46 = .ok (.i2l, 1) := by decide +kernel
theorem dX8_gatherPlain_47 : decode cX8_gatherPlain 47 = .ok (.invokevirtual 92, 3) := by decide +kernel
theorem dX8_gatherPlain_50 : decode cX8_gatherPlain 50 = .ok (.lastore, 1) := by decide +kernel
theorem dX8_gatherPlain_51 : decode cX8_gatherPlain 51 = .ok (.iinc 4 1, 3) := by decide +kernel
theorem dX8_gatherPlain_54 : decode cX8_gatherPlain 54 = .ok (.goto (-25), 3) := by decide +kernel
theorem dX8_gatherPlain_57 : decode cX8_gatherPlain 57 = .ok (.iload_n 3, 1) := by decide +kernel
theorem dX8_gatherPlain_58 : decode cX8_gatherPlain 58 = .ok (.ireturn, 1) := by decide +kernel
theorem dX8_gatherRow_0 : decode cX8_gatherRow 0 = .ok (.aload_n 0, 1) := by decide +kernel
theorem dX8_gatherRow_1 : decode cX8_gatherRow 1 = .ok (.getfield 22, 3) := by decide +kernel
theorem dX8_gatherRow_4 : decode cX8_gatherRow 4 = .ok (.ifnonnull 5, 3) := by decide +kernel
theorem dX8_gatherRow_7 : decode cX8_gatherRow 7 = .ok (.iconst 0, 1) := by decide +kernel
theorem dX8_gatherRow_8 : decode cX8_gatherRow 8 = .ok (.ireturn, 1) := by decide +kernel
theorem dX8_gatherRow_9 : decode cX8_gatherRow 9 = .ok (.aload_n 0, 1) := by decide +kernel
theorem dX8_gatherRow_10 : decode cX8_gatherRow 10 = .ok (.getfield 22, 3) := by decide +kernel
theorem dX8_gatherRow_13 : decode cX8_gatherRow 13 = .ok (.invokevirtual 96, 3) := by decide +kernel
theorem dX8_gatherRow_16 : decode cX8_gatherRow 16 = .ok (.istore 4, 2) := by decide +kernel
theorem dX8_gatherRow_18 : decode cX8_gatherRow 18 = .ok (.iload 4, 2) := by decide +kernel
theorem dX8_gatherRow_20 : decode cX8_gatherRow 20 = .ok (.ifCond .eq 11, 3) := by decide +kernel
theorem dX8_gatherRow_23 : decode cX8_gatherRow 23 = .ok (.aload_n 3, 1) := by decide +kernel
theorem dX8_gatherRow_24 : decode cX8_gatherRow 24 = .ok (.iload 4, 2) := by decide +kernel
theorem dX8_gatherRow_26 : decode cX8_gatherRow 26 = .ok (.iconst (-1), 1) := by decide +kernel
theorem dX8_gatherRow_27 : decode cX8_gatherRow 27 = .ok (.invokevirtual 102, 3) := by decide +kernel
theorem dX8_gatherRow_30 : decode cX8_gatherRow 30 = .ok (.ireturn, 1) := by decide +kernel
theorem dX8_gatherRow_31 : decode cX8_gatherRow 31 = .ok (.iconst 0, 1) := by decide +kernel
theorem dX8_gatherRow_32 : decode cX8_gatherRow 32 = .ok (.istore 5, 2) := by decide +kernel
theorem dX8_gatherRow_34 : decode cX8_gatherRow 34 = .ok (.iload 5, 2) := by decide +kernel
theorem dX8_gatherRow_36 : decode cX8_gatherRow 36 = .ok (.aload_n 0, 1) := by decide +kernel
theorem dX8_gatherRow_37 : decode cX8_gatherRow 37 = .ok (.getfield 22, 3) := by decide +kernel
theorem dX8_gatherRow_40 : decode cX8_gatherRow 40 = .ok (.getfield 107, 3) := by decide +kernel
theorem dX8_gatherRow_43 : decode cX8_gatherRow 43 = .ok (.if_icmp .ge 25, 3) := by decide +kernel
theorem dX8_gatherRow_46 : decode cX8_gatherRow 46 = .ok (.aload_n 1, 1) := by decide +kernel
theorem dX8_gatherRow_47 : decode cX8_gatherRow 47 = .ok (.iload_n 2, 1) := by decide +kernel
theorem dX8_gatherRow_48 : decode cX8_gatherRow 48 = .ok (.iload 5, 2) := by decide +kernel
theorem dX8_gatherRow_50 : decode cX8_gatherRow 50 = .ok (.iadd, 1) := by decide +kernel
theorem dX8_gatherRow_51 : decode cX8_gatherRow 51 = .ok (.aload_n 0, 1) := by decide +kernel
theorem dX8_gatherRow_52 : decode cX8_gatherRow 52 = .ok (.getfield 22, 3) := by decide +kernel
theorem dX8_gatherRow_55 : decode cX8_gatherRow 55 = .ok (.getfield 109, 3) := by decide +kernel
theorem dX8_gatherRow_58 : decode cX8_gatherRow 58 = .ok (.iload 5, 2) := by decide +kernel
theorem dX8_gatherRow_60 : decode cX8_gatherRow 60 = .ok (.laload, 1) := by decide +kernel
theorem dX8_gatherRow_61 : decode cX8_gatherRow 61 = .ok (.lastore, 1) := by decide +kernel
theorem dX8_gatherRow_62 : decode cX8_gatherRow 62 = .ok (.iinc 5 1, 3) := by decide +kernel
theorem dX8_gatherRow_65 : decode cX8_gatherRow 65 = .ok (.goto (-31), 3) := by decide +kernel
theorem dX8_gatherRow_68 : decode cX8_gatherRow 68 = .ok (.aload_n 0, 1) := by decide +kernel
theorem dX8_gatherRow_69 : decode cX8_gatherRow 69 = .ok (.getfield 22, 3) := by decide +kernel
theorem dX8_gatherRow_72 : decode cX8_gatherRow 72 = .ok (.getfield 107, 3) := by decide +kernel
theorem dX8_gatherRow_75 : decode cX8_gatherRow 75 = .ok (.ireturn, 1) := by decide +kernel
theorem dX8_keepOfOne_0 : decode cX8_keepOfOne 0 = .ok (.aload_n 0, 1) := by decide +kernel
theorem dX8_keepOfOne_1 : decode cX8_keepOfOne 1 = .ok (.getfield 11, 3) := by decide +kernel
theorem dX8_keepOfOne_4 : decode cX8_keepOfOne 4 = .ok (.tableswitch 68 5 8 #[32, 42, 68, 60], 32) := by decide +kernel
theorem dX8_keepOfOne_36 : decode cX8_keepOfOne 36 = .ok (.aload_n 1, 1) := by decide +kernel
theorem dX8_keepOfOne_37 : decode cX8_keepOfOne 37 = .ok (.iload_n 2, 1) := by decide +kernel
theorem dX8_keepOfOne_38 : decode cX8_keepOfOne 38 = .ok (.iload_n 3, 1) := by decide +kernel
theorem dX8_keepOfOne_39 : decode cX8_keepOfOne 39 = .ok (.invokestatic 113, 3) := by decide +kernel
theorem dX8_keepOfOne_42 : decode cX8_keepOfOne 42 = .ok (.iload_n 3, 1) := by decide +kernel
theorem dX8_keepOfOne_43 : decode cX8_keepOfOne 43 = .ok (.iload_n 2, 1) := by decide +kernel
theorem dX8_keepOfOne_44 : decode cX8_keepOfOne 44 = .ok (.isub, 1) := by decide +kernel
theorem dX8_keepOfOne_45 : decode cX8_keepOfOne 45 = .ok (.ireturn, 1) := by decide +kernel
theorem dX8_keepOfOne_46 : decode cX8_keepOfOne 46 = .ok (.aload_n 0, 1) := by decide +kernel
theorem dX8_keepOfOne_47 : decode cX8_keepOfOne 47 = .ok (.aload_n 1, 1) := by decide +kernel
theorem dX8_keepOfOne_48 : decode cX8_keepOfOne 48 = .ok (.iload_n 2, 1) := by decide +kernel
theorem dX8_keepOfOne_49 : decode cX8_keepOfOne 49 = .ok (.iload_n 3, 1) := by decide +kernel
theorem dX8_keepOfOne_50 : decode cX8_keepOfOne 50 = .ok (.invokevirtual 117, 3) := by decide +kernel
theorem dX8_keepOfOne_53 : decode cX8_keepOfOne 53 = .ok (.aload_n 0, 1) := by decide +kernel
theorem dX8_keepOfOne_54 : decode cX8_keepOfOne 54 = .ok (.getfield 37, 3) := by decide +kernel
theorem dX8_keepOfOne_57 : decode cX8_keepOfOne 57 = .ok (.iload_n 3, 1) := by decide +kernel
theorem dX8_keepOfOne_58 : decode cX8_keepOfOne 58 = .ok (.iload_n 2, 1) := by decide +kernel
theorem dX8_keepOfOne_59 : decode cX8_keepOfOne 59 = .ok (.isub, 1) := by decide +kernel
theorem dX8_keepOfOne_60 : decode cX8_keepOfOne 60 = .ok (.invokestatic 120, 3) := by decide +kernel
theorem dX8_keepOfOne_63 : decode cX8_keepOfOne 63 = .ok (.ireturn, 1) := by decide +kernel
theorem dX8_keepOfOne_64 : decode cX8_keepOfOne 64 = .ok (.aload_n 0, 1) := by decide +kernel
theorem dX8_keepOfOne_65 : decode cX8_keepOfOne 65 = .ok (.aload_n 1, 1) := by decide +kernel
theorem dX8_keepOfOne_66 : decode cX8_keepOfOne 66 = .ok (.iload_n 2, 1) := by decide +kernel
theorem dX8_keepOfOne_67 : decode cX8_keepOfOne 67 = .ok (.iload_n 3, 1) := by decide +kernel
theorem dX8_keepOfOne_68 : decode cX8_keepOfOne 68 = .ok (.invokevirtual 123, 3) := by decide +kernel
theorem dX8_keepOfOne_71 : decode cX8_keepOfOne 71 = .ok (.ireturn, 1) := by decide +kernel
theorem dX8_keepOfOne_72 : decode cX8_keepOfOne 72 = .ok (.aload_n 0, 1) := by decide +kernel
theorem dX8_keepOfOne_73 : decode cX8_keepOfOne 73 = .ok (.aload_n 1, 1) := by decide +kernel
theorem dX8_keepOfOne_74 : decode cX8_keepOfOne 74 = .ok (.iload_n 2, 1) := by decide +kernel
theorem dX8_keepOfOne_75 : decode cX8_keepOfOne 75 = .ok (.iload_n 3, 1) := by decide +kernel
theorem dX8_keepOfOne_76 : decode cX8_keepOfOne 76 = .ok (.aload 4, 2) := by decide +kernel
theorem dX8_keepOfOne_78 : decode cX8_keepOfOne 78 = .ok (.invokevirtual 127, 3) := by decide +kernel
theorem dX8_keepOfOne_81 : decode cX8_keepOfOne 81 = .ok (.ireturn, 1) := by decide +kernel
theorem dX8_turn_0 : decode cX8_turn 0 = .ok (.iload_n 1, 1) := by decide +kernel
theorem dX8_turn_1 : decode cX8_turn 1 = .ok (.istore_n 3, 1) := by decide +kernel
theorem dX8_turn_2 : decode cX8_turn 2 = .ok (.iload_n 2, 1) := by decide +kernel
theorem dX8_turn_3 : decode cX8_turn 3 = .ok (.iconst 1, 1) := by decide +kernel
theorem dX8_turn_4 : decode cX8_turn 4 = .ok (.isub, 1) := by decide +kernel
theorem dX8_turn_5 : decode cX8_turn 5 = .ok (.istore 4, 2) := by decide +kernel
theorem dX8_turn_7 : decode cX8_turn 7 = .ok (.iload_n 3, 1) := by decide +kernel
theorem dX8_turn_8 : decode cX8_turn 8 = .ok (.iload 4, 2) := by decide +kernel
theorem dX8_turn_10 : decode cX8_turn 10 = .ok (.if_icmp .ge 30, 3) := by decide +kernel
theorem dX8_turn_13 : decode cX8_turn 13 = .ok (.aload_n 0, 1) := by decide +kernel
theorem dX8_turn_14 : decode cX8_turn 14 = .ok (.iload_n 3, 1) := by decide +kernel
theorem dX8_turn_15 : decode cX8_turn 15 = .ok (.laload, 1) := by decide +kernel
theorem dX8_turn_16 : decode cX8_turn 16 = .ok (.lstore 5, 2) := by decide +kernel
theorem dX8_turn_18 : decode cX8_turn 18 = .ok (.aload_n 0, 1) := by decide +kernel
theorem dX8_turn_19 : decode cX8_turn 19 = .ok (.iload_n 3, 1) := by decide +kernel
theorem dX8_turn_20 : decode cX8_turn 20 = .ok (.aload_n 0, 1) := by decide +kernel
theorem dX8_turn_21 : decode cX8_turn 21 = .ok (.iload 4, 2) := by decide +kernel
theorem dX8_turn_23 : decode cX8_turn 23 = .ok (.laload, 1) := by decide +kernel
theorem dX8_turn_24 : decode cX8_turn 24 = .ok (.lastore, 1) := by decide +kernel
theorem dX8_turn_25 : decode cX8_turn 25 = .ok (.aload_n 0, 1) := by decide +kernel
theorem dX8_turn_26 : decode cX8_turn 26 = .ok (.iload 4, 2) := by decide +kernel
theorem dX8_turn_28 : decode cX8_turn 28 = .ok (.lload 5, 2) := by decide +kernel
theorem dX8_turn_30 : decode cX8_turn 30 = .ok (.lastore, 1) := by decide +kernel
theorem dX8_turn_31 : decode cX8_turn 31 = .ok (.iinc 3 1, 3) := by decide +kernel
theorem dX8_turn_34 : decode cX8_turn 34 = .ok (.iinc 4 (-1), 3) := by decide +kernel
theorem dX8_turn_37 : decode cX8_turn 37 = .ok (.goto (-30), 3) := by decide +kernel
theorem dX8_turn_40 : decode cX8_turn 40 = .ok (.return_, 1) := by decide +kernel
theorem dX8_sortByNearness_0 : decode cX8_sortByNearness 0 = .ok (.iload_n 2, 1) := by decide +kernel
theorem dX8_sortByNearness_1 : decode cX8_sortByNearness 1 = .ok (.iconst 1, 1) := by decide +kernel
theorem dX8_sortByNearness_2 : decode cX8_sortByNearness 2 = .ok (.iadd, 1) := by decide +kernel
theorem dX8_sortByNearness_3 : decode cX8_sortByNearness 3 = .ok (.istore 4, 2) := by decide +kernel
theorem dX8_sortByNearness_5 : decode cX8_sortByNearness 5 = .ok (.iload 4, 2) := by decide +kernel
theorem dX8_sortByNearness_7 : decode cX8_sortByNearness 7 = .ok (.iload_n 3, 1) := by decide +kernel
theorem dX8_sortByNearness_8 : decode cX8_sortByNearness 8 = .ok (.if_icmp .ge 62, 3) := by decide +kernel
theorem dX8_sortByNearness_11 : decode cX8_sortByNearness 11 = .ok (.aload_n 1, 1) := by decide +kernel
theorem dX8_sortByNearness_12 : decode cX8_sortByNearness 12 = .ok (.iload 4, 2) := by decide +kernel
theorem dX8_sortByNearness_14 : decode cX8_sortByNearness 14 = .ok (.laload, 1) := by decide +kernel
theorem dX8_sortByNearness_15 : decode cX8_sortByNearness 15 = .ok (.lstore 5, 2) := by decide +kernel
theorem dX8_sortByNearness_17 : decode cX8_sortByNearness 17 = .ok (.iload 4, 2) := by decide +kernel
theorem dX8_sortByNearness_19 : decode cX8_sortByNearness 19 = .ok (.istore 7, 2) := by decide +kernel
theorem dX8_sortByNearness_21 : decode cX8_sortByNearness 21 = .ok (.iload 7, 2) := by decide +kernel
theorem dX8_sortByNearness_23 : decode cX8_sortByNearness 23 = .ok (.iload_n 2, 1) := by decide +kernel
theorem dX8_sortByNearness_24 : decode cX8_sortByNearness 24 = .ok (.if_icmp .le 34, 3) := by decide +kernel
theorem dX8_sortByNearness_27 : decode cX8_sortByNearness 27 = .ok (.aload_n 0, 1) := by decide +kernel
theorem dX8_sortByNearness_28 : decode cX8_sortByNearness 28 = .ok (.lload 5, 2) := by decide +kernel
theorem dX8_sortByNearness_30 : decode cX8_sortByNearness 30 = .ok (.aload_n 1, 1) := by decide +kernel
theorem dX8_sortByNearness_31 : decode cX8_sortByNearness 31 = .ok (.iload 7, 2) := by decide +kernel
theorem dX8_sortByNearness_33 : decode cX8_sortByNearness 33 = .ok (.iconst 1, 1) := by decide +kernel
theorem dX8_sortByNearness_34 : decode cX8_sortByNearness 34 = .ok (.isub, 1) := by decide +kernel
theorem dX8_sortByNearness_35 : decode cX8_sortByNearness 35 = .ok (.laload, 1) := by decide +kernel
theorem dX8_sortByNearness_36 : decode cX8_sortByNearness 36 = .ok (.invokevirtual 130, 3) := by decide +kernel
theorem dX8_sortByNearness_39 : decode cX8_sortByNearness 39 = .ok (.ifCond .eq 19, 3) := by decide +kernel
theorem dX8_sortByNearness_42 : decode cX8_sortByNearness 42 = .ok (.aload_n 1, 1) := by decide +kernel
theorem dX8_sortByNearness_43 : decode cX8_sortByNearness 43 = .ok (.iload 7, 2) := by decide +kernel
theorem dX8_sortByNearness_45 : decode cX8_sortByNearness 45 = .ok (.aload_n 1, 1) := by decide +kernel
theorem dX8_sortByNearness_46 : decode cX8_sortByNearness 46 = .ok (.iload 7, 2) := by decide +kernel
theorem dX8_sortByNearness_48 : decode cX8_sortByNearness 48 = .ok (.iconst 1, 1) := by decide +kernel
theorem dX8_sortByNearness_49 : decode cX8_sortByNearness 49 = .ok (.isub, 1) := by decide +kernel
theorem dX8_sortByNearness_50 : decode cX8_sortByNearness 50 = .ok (.laload, 1) := by decide +kernel
theorem dX8_sortByNearness_51 : decode cX8_sortByNearness 51 = .ok (.lastore, 1) := by decide +kernel
theorem dX8_sortByNearness_52 : decode cX8_sortByNearness 52 = .ok (.iinc 7 (-1), 3) := by decide +kernel
theorem dX8_sortByNearness_55 : decode cX8_sortByNearness 55 = .ok (.goto (-34), 3) := by decide +kernel
theorem dX8_sortByNearness_58 : decode cX8_sortByNearness 58 = .ok (.aload_n 1, 1) := by decide +kernel
theorem dX8_sortByNearness_59 : decode cX8_sortByNearness 59 = .ok (.iload 7, 2) := by decide +kernel
theorem dX8_sortByNearness_61 : decode cX8_sortByNearness 61 = .ok (.lload 5, 2) := by decide +kernel
theorem dX8_sortByNearness_63 : decode cX8_sortByNearness 63 = .ok (.lastore, 1) := by decide +kernel
theorem dX8_sortByNearness_64 : decode cX8_sortByNearness 64 = .ok (.iinc 4 1, 3) := by decide +kernel
theorem dX8_sortByNearness_67 : decode cX8_sortByNearness 67 = .ok (.goto (-62), 3) := by decide +kernel
theorem dX8_sortByNearness_70 : decode cX8_sortByNearness 70 = .ok (.return_, 1) := by decide +kernel
theorem dX8_isNearer_0 : decode cX8_isNearer 0 = .ok (.lload_n 1, 1) := by decide +kernel
theorem dX8_isNearer_1 : decode cX8_isNearer 1 = .ok (.aload_n 0, 1) := by decide +kernel
theorem dX8_isNearer_2 : decode cX8_isNearer 2 = .ok (.getfield 40, 3) := by decide +kernel
theorem dX8_isNearer_5 : decode cX8_isNearer 5 = .ok (.invokestatic 134, 3) := by decide +kernel
theorem dX8_isNearer_8 : decode cX8_isNearer 8 = .ok (.lstore 5, 2) := by decide +kernel
theorem dX8_isNearer_10 : decode cX8_isNearer 10 = .ok (.lload_n 3, 1) := by decide +kernel
theorem dX8_isNearer_11 : decode cX8_isNearer 11 = .ok (.aload_n 0, 1) := by decide +kernel
theorem dX8_isNearer_12 : decode cX8_isNearer 12 = .ok (.getfield 40, 3) := by decide +kernel
theorem dX8_isNearer_15 : decode cX8_isNearer 15 = .ok (.invokestatic 134, 3) := by decide +kernel
theorem dX8_isNearer_18 : decode cX8_isNearer 18 = .ok (.lstore 7, 2) := by decide +kernel
theorem dX8_isNearer_20 : decode cX8_isNearer 20 = .ok (.lload 5, 2) := by decide +kernel
theorem dX8_isNearer_22 : decode cX8_isNearer 22 = .ok (.lload 7, 2) := by decide +kernel
theorem dX8_isNearer_24 : decode cX8_isNearer 24 = .ok (.invokestatic 138, 3) := by decide +kernel
theorem dX8_isNearer_27 : decode cX8_isNearer 27 = .ok (.ifCond .ne 17, 3) := by decide +kernel
theorem dX8_isNearer_30 : decode cX8_isNearer 30 = .ok (.lload 5, 2) := by decide +kernel
theorem dX8_isNearer_32 : decode cX8_isNearer 32 = .ok (.lload 7, 2) := by decide +kernel
theorem dX8_isNearer_34 : decode cX8_isNearer 34 = .ok (.lcmp, 1) := by decide +kernel
theorem dX8_isNearer_35 : decode cX8_isNearer 35 = .ok (.ifCond .ne 13, 3) := by decide +kernel
theorem dX8_isNearer_38 : decode cX8_isNearer 38 = .ok (.lload_n 1, 1) := by decide +kernel
theorem dX8_isNearer_39 : decode cX8_isNearer 39 = .ok (.lload_n 3, 1) := by decide +kernel
theorem dX8_isNearer_40 : decode cX8_isNearer 40 = .ok (.lcmp, 1) := by decide +kernel
theorem dX8_isNearer_41 : decode cX8_isNearer 41 = .ok (.ifCond .ge 7, 3) := by decide +kernel
theorem dX8_isNearer_44 : decode cX8_isNearer 44 = .ok (.iconst 1, 1) := by decide +kernel
theorem dX8_isNearer_45 : decode cX8_isNearer 45 = .ok (.goto 4, 3) := by decide +kernel
theorem dX8_isNearer_48 : decode cX8_isNearer 48 = .ok (.iconst 0, 1) := by decide +kernel
theorem dX8_isNearer_49 : decode cX8_isNearer 49 = .ok (.ireturn, 1) := by decide +kernel
theorem dX8_keepEvery_0 : decode cX8_keepEvery 0 = .ok (.iconst 0, 1) := by decide +kernel
theorem dX8_keepEvery_1 : decode cX8_keepEvery 1 = .ok (.istore 4, 2) := by decide +kernel
theorem dX8_keepEvery_3 : decode cX8_keepEvery 3 = .ok (.iload_n 2, 1) := by decide +kernel
theorem dX8_keepEvery_4 : decode cX8_keepEvery 4 = .ok (.istore 5, 2) := by decide +kernel
theorem dX8_keepEvery_6 : decode cX8_keepEvery 6 = .ok (.iload 5, 2) := by decide +kernel
theorem dX8_keepEvery_8 : decode cX8_keepEvery 8 = .ok (.iload_n 3, 1) := by decide +kernel
theorem dX8_keepEvery_9 : decode cX8_keepEvery 9 = .ok (.if_icmp .ge 35, 3) := by decide +kernel
theorem dX8_keepEvery_12 : decode cX8_keepEvery 12 = .ok (.aload_n 0, 1) := by decide +kernel
theorem dX8_keepEvery_13 : decode cX8_keepEvery 13 = .ok (.getfield 37, 3) := by decide +kernel
theorem dX8_keepEvery_16 : decode cX8_keepEvery 16 = .ok (.ifCond .le 28, 3) := by decide +kernel
theorem dX8_keepEvery_19 : decode cX8_keepEvery 19 = .ok (.aload_n 1, 1) := by decide +kernel
theorem dX8_keepEvery_20 : decode cX8_keepEvery 20 = .ok (.iload_n 2, 1) := by decide +kernel
theorem dX8_keepEvery_21 : decode cX8_keepEvery 21 = .ok (.iload 4, 2) := by decide +kernel
theorem dX8_keepEvery_23 : decode cX8_keepEvery 23 = .ok (.iadd, 1) := by decide +kernel
theorem dX8_keepEvery_24 : decode cX8_keepEvery 24 = .ok (.aload_n 1, 1) := by decide +kernel
theorem dX8_keepEvery_25 : decode cX8_keepEvery 25 = .ok (.iload 5, 2) := by decide +kernel
theorem dX8_keepEvery_27 : decode cX8_keepEvery 27 = .ok (.laload, 1) := by decide +kernel
theorem dX8_keepEvery_28 : decode cX8_keepEvery 28 = .ok (.lastore, 1) := by decide +kernel
theorem dX8_keepEvery_29 : decode cX8_keepEvery 29 = .ok (.iinc 4 1, 3) := by decide +kernel
theorem dX8_keepEvery_32 : decode cX8_keepEvery 32 = .ok (.iload 5, 2) := by decide +kernel
theorem dX8_keepEvery_34 : decode cX8_keepEvery 34 = .ok (.aload_n 0, 1) := by decide +kernel
theorem dX8_keepEvery_35 : decode cX8_keepEvery 35 = .ok (.getfield 37, 3) := by decide +kernel
theorem dX8_keepEvery_38 : decode cX8_keepEvery 38 = .ok (.iadd, 1) := by decide +kernel
theorem dX8_keepEvery_39 : decode cX8_keepEvery 39 = .ok (.istore 5, 2) := by decide +kernel
theorem dX8_keepEvery_41 : decode cX8_keepEvery 41 = .ok (.goto (-35), 3) := by decide +kernel
theorem dX8_keepEvery_44 : decode cX8_keepEvery 44 = .ok (.iload 4, 2) := by decide +kernel
theorem dX8_keepEvery_46 : decode cX8_keepEvery 46 = .ok (.ireturn, 1) := by decide +kernel
theorem dX8_keepPassing_0 : decode cX8_keepPassing 0 = .ok (.iconst 0, 1) := by decide +kernel
theorem dX8_keepPassing_1 : decode cX8_keepPassing 1 = .ok (.istore 5, 2) := by decide +kernel
theorem dX8_keepPassing_3 : decode cX8_keepPassing 3 = .ok (.iload_n 2, 1) := by decide +kernel
theorem dX8_keepPassing_4 : decode cX8_keepPassing 4 = .ok (.istore 6, 2) := by decide +kernel
theorem dX8_keepPassing_6 : decode cX8_keepPassing 6 = .ok (.iload 6, 2) := by decide +kernel
theorem dX8_keepPassing_8 : decode cX8_keepPassing 8 = .ok (.iload_n 3, 1) := by decide +kernel
theorem dX8_keepPassing_9 : decode cX8_keepPassing 9 = .ok (.if_icmp .ge 83, 3) := by decide +kernel
theorem dX8_keepPassing_12 : decode cX8_keepPassing 12 = .ok (.aload_n 0, 1) := by decide +kernel
theorem dX8_keepPassing_13 : decode cX8_keepPassing 13 = .ok (.getfield 33, 3) := by decide +kernel
theorem dX8_keepPassing_16 : decode cX8_keepPassing 16 = .ok (.ifnull 76, 3) := by decide +kernel
theorem dX8_keepPassing_19 : decode cX8_keepPassing 19 = .ok (.aload_n 0, 1) := by decide +kernel
theorem dX8_keepPassing_20 : decode cX8_keepPassing 20 = .ok (.getfield 33, 3) := by decide +kernel
theorem dX8_keepPassing_23 : decode cX8_keepPassing 23 = .ok (.aload_n 1, 1) := by decide +kernel
theorem dX8_keepPassing_24 : decode cX8_keepPassing 24 = .ok (.iload 6, 2) := by decide +kernel
theorem dX8_keepPassing_26 : decode cX8_keepPassing 26 = .ok (.laload, 1) := by decide +kernel
theorem dX8_keepPassing_27 : decode cX8_keepPassing 27 = .ok (.aload 4, 2) := by decide +kernel
theorem dX8_keepPassing_29 : decode cX8_keepPassing 29 = .ok (.invokevirtual 141, 3) := by decide +kernel
theorem dX8_keepPassing_32 : decode cX8_keepPassing 32 = .ok (.istore 7, 2) := by decide +kernel
theorem dX8_keepPassing_34 : decode cX8_keepPassing 34 = .ok (.iload 7, 2) := by decide +kernel
theorem dX8_keepPassing_36 : decode cX8_keepPassing 36 = .ok (.iconst 1, 1) := by decide +kernel
theorem dX8_keepPassing_37 : decode cX8_keepPassing 37 = .ok (.if_icmp .ne 19, 3) := by decide +kernel
theorem dX8_keepPassing_40 : decode cX8_keepPassing 40 = .ok (.aload_n 1, 1) := by decide +kernel
theorem dX8_keepPassing_41 : decode cX8_keepPassing 41 = .ok (.iload_n 2, 1) := by decide +kernel
theorem dX8_keepPassing_42 : decode cX8_keepPassing 42 = .ok (.iload 5, 2) := by decide +kernel
theorem dX8_keepPassing_44 : decode cX8_keepPassing 44 = .ok (.iadd, 1) := by decide +kernel
theorem dX8_keepPassing_45 : decode cX8_keepPassing 45 = .ok (.aload_n 1, 1) := by decide +kernel
theorem dX8_keepPassing_46 : decode cX8_keepPassing 46 = .ok (.iload 6, 2) := by decide +kernel
theorem dX8_keepPassing_48 : decode cX8_keepPassing 48 = .ok (.laload, 1) := by decide +kernel
theorem dX8_keepPassing_49 : decode cX8_keepPassing 49 = .ok (.lastore, 1) := by decide +kernel
theorem dX8_keepPassing_50 : decode cX8_keepPassing 50 = .ok (.iinc 5 1, 3) := by decide +kernel
theorem dX8_keepPassing_53 : decode cX8_keepPassing 53 = .ok (.goto 33, 3) := by decide +kernel
theorem dX8_keepPassing_56 : decode cX8_keepPassing 56 = .ok (.iload 7, 2) := by decide +kernel
theorem dX8_keepPassing_58 : decode cX8_keepPassing 58 = .ok (.invokestatic 147, 3) := by decide +kernel
theorem dX8_keepPassing_61 : decode cX8_keepPassing 61 = .ok (.ifCond .eq 17, 3) := by decide +kernel
theorem dX8_keepPassing_64 : decode cX8_keepPassing 64 = .ok (.aload 4, 2) := by decide +kernel
theorem dX8_keepPassing_66 : decode cX8_keepPassing 66 = .ok (.aload_n 1, 1) := by decide +kernel
theorem dX8_keepPassing_67 : decode cX8_keepPassing 67 = .ok (.iload 6, 2) := by decide +kernel
theorem dX8_keepPassing_69 : decode cX8_keepPassing 69 = .ok (.laload, 1) := by decide +kernel
theorem dX8_keepPassing_70 : decode cX8_keepPassing 70 = .ok (.iload 7, 2) := by decide +kernel
theorem dX8_keepPassing_72 : decode cX8_keepPassing 72 = .ok (.invokevirtual 151, 3) := by decide +kernel
theorem dX8_keepPassing_75 : decode cX8_keepPassing 75 = .ok (.goto 11, 3) := by decide +kernel
theorem dX8_keepPassing_78 : decode cX8_keepPassing 78 = .ok (.iload 7, 2) := by decide +kernel
theorem dX8_keepPassing_80 : decode cX8_keepPassing 80 = .ok (.ifCond .ge 6, 3) := by decide +kernel
theorem dX8_keepPassing_83 : decode cX8_keepPassing 83 = .ok (.iload 7, 2) := by decide +kernel
theorem dX8_keepPassing_85 : decode cX8_keepPassing 85 = .ok (.ireturn, 1) := by decide +kernel
theorem dX8_keepPassing_86 : decode cX8_keepPassing 86 = .ok (.iinc 6 1, 3) := by decide +kernel
theorem dX8_keepPassing_89 : decode cX8_keepPassing 89 = .ok (.goto (-83), 3) := by decide +kernel
theorem dX8_keepPassing_92 : decode cX8_keepPassing 92 = .ok (.iload 5, 2) := by decide +kernel
theorem dX8_keepPassing_94 : decode cX8_keepPassing 94 = .ok (.ireturn, 1) := by decide +kernel
theorem dX8_keepOfTwo_0 : decode cX8_keepOfTwo 0 = .ok (.aload_n 0, 1) := by decide +kernel
theorem dX8_keepOfTwo_1 : decode cX8_keepOfTwo 1 = .ok (.getfield 11, 3) := by decide +kernel
theorem dX8_keepOfTwo_4 : decode cX8_keepOfTwo 4 = .ok (.iconst 2, 1) := by decide +kernel
theorem dX8_keepOfTwo_5 : decode cX8_keepOfTwo 5 = .ok (.if_icmp .ne 23, 3) := by decide +kernel
theorem dX8_keepOfTwo_8 : decode cX8_keepOfTwo 8 = .ok (.iload 4, 2) := by decide +kernel
theorem dX8_keepOfTwo_10 : decode cX8_keepOfTwo 10 = .ok (.iload_n 2, 1) := by decide +kernel
theorem dX8_keepOfTwo_11 : decode cX8_keepOfTwo 11 = .ok (.isub, 1) := by decide +kernel
theorem dX8_keepOfTwo_12 : decode cX8_keepOfTwo 12 = .ok (.sipush 200, 3) := by decide +kernel
theorem dX8_keepOfTwo_15 : decode cX8_keepOfTwo 15 = .ok (.if_icmp .le 8, 3) := by decide +kernel
theorem dX8_keepOfTwo_18 : decode cX8_keepOfTwo 18 = .ok (.bipush (-4), 2) := by decide +kernel
theorem dX8_keepOfTwo_20 : decode cX8_keepOfTwo 20 = .ok (.goto 7, 3) := by decide +kernel
theorem dX8_keepOfTwo_23 : decode cX8_keepOfTwo 23 = .ok (.iload 4, 2) := by decide +kernel
theorem dX8_keepOfTwo_25 : decode cX8_keepOfTwo 25 = .ok (.iload_n 2, 1) := by decide +kernel
theorem dX8_keepOfTwo_26 : decode cX8_keepOfTwo 26 = .ok (.isub, 1) := by decide +kernel
theorem dX8_keepOfTwo_27 : decode cX8_keepOfTwo 27 = .ok (.ireturn, 1) := by decide +kernel
theorem dX8_keepOfTwo_28 : decode cX8_keepOfTwo 28 = .ok (.iconst 0, 1) := by decide +kernel
theorem dX8_keepOfTwo_29 : decode cX8_keepOfTwo 29 = .ok (.istore 5, 2) := by decide +kernel
theorem dX8_keepOfTwo_31 : decode cX8_keepOfTwo 31 = .ok (.iload_n 2, 1) := by decide +kernel
theorem dX8_keepOfTwo_32 : decode cX8_keepOfTwo 32 = .ok (.istore 6, 2) := by decide +kernel
theorem dX8_keepOfTwo_34 : decode cX8_keepOfTwo 34 = .ok (.iload 6, 2) := by decide +kernel
theorem dX8_keepOfTwo_36 : decode cX8_keepOfTwo 36 = .ok (.iload_n 3, 1) := by decide +kernel
theorem dX8_keepOfTwo_37 : decode cX8_keepOfTwo 37 = .ok (.if_icmp .ge 61, 3) := by decide +kernel
theorem dX8_keepOfTwo_40 : decode cX8_keepOfTwo 40 = .ok (.aload_n 1, 1) := by decide +kernel
theorem dX8_keepOfTwo_41 : decode cX8_keepOfTwo 41 = .ok (.iload_n 3, 1) := by decide +kernel
theorem dX8_keepOfTwo_42 : decode cX8_keepOfTwo 42 = .ok (.iload 4, 2) := by decide +kernel
theorem dX8_keepOfTwo_44 : decode cX8_keepOfTwo 44 = .ok (.aload_n 1, 1) := by decide +kernel
theorem dX8_keepOfTwo_45 : decode cX8_keepOfTwo 45 = .ok (.iload 6, 2) := by decide +kernel
theorem dX8_keepOfTwo_47 : decode cX8_keepOfTwo 47 = .ok (.laload, 1) := by decide +kernel
theorem dX8_keepOfTwo_48 : decode cX8_keepOfTwo 48 = .ok (.invokestatic 155, 3) := by decide +kernel
theorem dX8_keepOfTwo_51 : decode cX8_keepOfTwo 51 = .ok (.ifCond .lt 7, 3) := by decide +kernel
theorem dX8_keepOfTwo_54 : decode cX8_keepOfTwo 54 = .ok (.iconst 1, 1) := by decide +kernel
theorem dX8_keepOfTwo_55 : decode cX8_keepOfTwo 55 = .ok (.goto 4, 3) := by decide +kernel
theorem dX8_keepOfTwo_58 : decode cX8_keepOfTwo 58 = .ok (.iconst 0, 1) := by decide +kernel
theorem dX8_keepOfTwo_59 : decode cX8_keepOfTwo 59 = .ok (.istore 7, 2) := by decide +kernel
theorem dX8_keepOfTwo_61 : decode cX8_keepOfTwo 61 = .ok (.iload 7, 2) := by decide +kernel
theorem dX8_keepOfTwo_63 : decode cX8_keepOfTwo 63 = .ok (.aload_n 0, 1) := by decide +kernel
theorem dX8_keepOfTwo_64 : decode cX8_keepOfTwo 64 = .ok (.getfield 11, 3) := by decide +kernel
theorem dX8_keepOfTwo_67 : decode cX8_keepOfTwo 67 = .ok (.iconst 3, 1) := by decide +kernel
theorem dX8_keepOfTwo_68 : decode cX8_keepOfTwo 68 = .ok (.if_icmp .ne 7, 3) := by decide +kernel
theorem dX8_keepOfTwo_71 : decode cX8_keepOfTwo 71 = .ok (.iconst 1, 1) := by decide +kernel
theorem dX8_keepOfTwo_72 : decode cX8_keepOfTwo 72 = .ok (.goto 4, 3) := by decide +kernel
theorem dX8_keepOfTwo_75 : decode cX8_keepOfTwo 75 = .ok (.iconst 0, 1) := by decide +kernel
theorem dX8_keepOfTwo_76 : decode cX8_keepOfTwo 76 = .ok (.if_icmp .ne 16, 3) := by decide +kernel
theorem dX8_keepOfTwo_79 : decode cX8_keepOfTwo 79 = .ok (.aload_n 1, 1) := by decide +kernel
theorem dX8_keepOfTwo_80 : decode cX8_keepOfTwo 80 = .ok (.iload_n 2, 1) := by decide +kernel
theorem dX8_keepOfTwo_81 : decode cX8_keepOfTwo 81 = .ok (.iload 5, 2) := by decide +kernel
theorem dX8_keepOfTwo_83 : decode cX8_keepOfTwo 83 = .ok (.iadd, 1) := by decide +kernel
theorem dX8_keepOfTwo_84 : decode cX8_keepOfTwo 84 = .ok (.aload_n 1, 1) := by decide +kernel
theorem dX8_keepOfTwo_85 : decode cX8_keepOfTwo 85 = .ok (.iload 6, 2) := by decide +kernel
theorem dX8_keepOfTwo_87 : decode cX8_keepOfTwo 87 = .ok (.laload, 1) := by decide +kernel
theorem dX8_keepOfTwo_88 : decode cX8_keepOfTwo 88 = .ok (.lastore, 1) := by decide +kernel
theorem dX8_keepOfTwo_89 : decode cX8_keepOfTwo 89 = .ok (.iinc 5 1, 3) := by decide +kernel
theorem dX8_keepOfTwo_92 : decode cX8_keepOfTwo 92 = .ok (.iinc 6 1, 3) := by decide +kernel
theorem dX8_keepOfTwo_95 : decode cX8_keepOfTwo 95 = .ok (.goto (-61), 3) := by decide +kernel
theorem dX8_keepOfTwo_98 : decode cX8_keepOfTwo 98 = .ok (.iload 5, 2) := by decide +kernel
theorem dX8_keepOfTwo_100 : decode cX8_keepOfTwo 100 = .ok (.ireturn, 1) := by decide +kernel
theorem dX9_init_0 : decode cX9_init 0 = .ok (.aload_n 0, 1) := by decide +kernel
theorem dX9_init_1 : decode cX9_init 1 = .ok (.invokespecial 1, 3) := by decide +kernel
theorem dX9_init_4 : decode cX9_init 4 = .ok (.aload_n 0, 1) := by decide +kernel
theorem dX9_init_5 : decode cX9_init 5 = .ok (.lload_n 1, 1) := by decide +kernel
theorem dX9_init_6 : decode cX9_init 6 = .ok (.putfield 7, 3) := by decide +kernel
theorem dX9_init_9 : decode cX9_init 9 = .ok (.aload_n 0, 1) := by decide +kernel
theorem dX9_init_10 : decode cX9_init 10 = .ok (.lload_n 3, 1) := by decide +kernel
theorem dX9_init_11 : decode cX9_init 11 = .ok (.putfield 13, 3) := by decide +kernel
theorem dX9_init_14 : decode cX9_init 14 = .ok (.aload_n 0, 1) := by decide +kernel
theorem dX9_init_15 : decode cX9_init 15 = .ok (.iload 5, 2) := by decide +kernel
theorem dX9_init_17 : decode cX9_init 17 = .ok (.putfield 16, 3) := by decide +kernel
theorem dX9_init_20 : decode cX9_init 20 = .ok (.aload_n 0, 1) := by decide +kernel
theorem dX9_init_21 : decode cX9_init 21 = .ok (.lload 6, 2) := by decide +kernel
theorem dX9_init_23 : decode cX9_init 23 = .ok (.putfield 20, 3) := by decide +kernel
theorem dX9_init_26 : decode cX9_init 26 = .ok (.return_, 1) := by decide +kernel
theorem dX9_numberAt_0 : decode cX9_numberAt 0 = .ok (.aload_n 0, 1) := by decide +kernel
theorem dX9_numberAt_1 : decode cX9_numberAt 1 = .ok (.getfield 16, 3) := by decide +kernel
theorem dX9_numberAt_4 : decode cX9_numberAt 4 = .ok (.ifCond .eq 17, 3) := by decide +kernel
theorem dX9_numberAt_7 : decode cX9_numberAt 7 = .ok (.aload_n 0, 1) := by decide +kernel
theorem dX9_numberAt_8 : decode cX9_numberAt 8 = .ok (.getfield 7, 3) := by decide +kernel
theorem dX9_numberAt_11 : decode cX9_numberAt 11 = .ok (.lload_n 1, 1) := by decide +kernel
theorem dX9_numberAt_12 : decode cX9_numberAt 12 = .ok (.aload_n 0, 1) := by decide +kernel
theorem dX9_numberAt_13 : decode cX9_numberAt 13 = .ok (.getfield 13, 3) := by decide +kernel
theorem dX9_numberAt_16 : decode cX9_numberAt 16 = .ok (.lmul, 1) := by decide +kernel
theorem dX9_numberAt_17 : decode cX9_numberAt 17 = .ok (.lsub, 1) := by decide +kernel
theorem dX9_numberAt_18 : decode cX9_numberAt 18 = .ok (.goto 14, 3) := by decide +kernel
theorem dX9_numberAt_21 : decode cX9_numberAt 21 = .ok (.aload_n 0, 1) := by decide +kernel
theorem dX9_numberAt_22 : decode cX9_numberAt 22 = .ok (.getfield 7, 3) := by decide +kernel
theorem dX9_numberAt_25 : decode cX9_numberAt 25 = .ok (.lload_n 1, 1) := by decide +kernel
theorem dX9_numberAt_26 : decode cX9_numberAt 26 = .ok (.aload_n 0, 1) := by decide +kernel
theorem dX9_numberAt_27 : decode cX9_numberAt 27 = .ok (.getfield 13, 3) := by decide +kernel
theorem dX9_numberAt_30 : decode cX9_numberAt 30 = .ok (.lmul, 1) := by decide +kernel
theorem dX9_numberAt_31 : decode cX9_numberAt 31 = .ok (.ladd, 1) := by decide +kernel
theorem dX9_numberAt_32 : decode cX9_numberAt 32 = .ok (.lreturn, 1) := by decide +kernel
theorem dX9_indexOf_0 : decode cX9_indexOf 0 = .ok (.aload_n 0, 1) := by decide +kernel
theorem dX9_indexOf_1 : decode cX9_indexOf 1 = .ok (.getfield 20, 3) := by decide +kernel
theorem dX9_indexOf_4 : decode cX9_indexOf 4 = .ok (.lconst 1, 1) := by decide +kernel
theorem dX9_indexOf_5 : decode cX9_indexOf 5 = .ok (.lcmp, 1) := by decide +kernel
theorem dX9_indexOf_6 : decode cX9_indexOf 6 = .ok (.ifCond .lt 31, 3) := by decide +kernel
theorem dX9_indexOf_9 : decode cX9_indexOf 9 = .ok (.aload_n 0, 1) := by decide +kernel
theorem dX9_indexOf_10 : decode cX9_indexOf 10 = .ok (.getfield 16, 3) := by decide +kernel
theorem dX9_indexOf_13 : decode cX9_indexOf 13 = .ok (.ifCond .eq 15, 3) := by decide +kernel
theorem dX9_indexOf_16 : decode cX9_indexOf 16 = .ok (.lload_n 1, 1) := by decide +kernel
theorem dX9_indexOf_17 : decode cX9_indexOf 17 = .ok (.aload_n 0, 1) := by decide +kernel
theorem dX9_indexOf_18 : decode cX9_indexOf 18 = .ok (.getfield 7, 3) := by decide +kernel
theorem dX9_indexOf_21 : decode cX9_indexOf 21 = .ok (.lcmp, 1) := by decide +kernel
theorem dX9_indexOf_22 : decode cX9_indexOf 22 = .ok (.ifCond .le 19, 3) := by decide +kernel
theorem dX9_indexOf_25 : decode cX9_indexOf 25 = .ok (.goto 12, 3) := by decide +kernel
theorem dX9_indexOf_28 : decode cX9_indexOf 28 = .ok (.lload_n 1, 1) := by decide +kernel
theorem dX9_indexOf_29 : decode cX9_indexOf 29 = .ok (.aload_n 0, 1) := by decide +kernel
theorem dX9_indexOf_30 : decode cX9_indexOf 30 = .ok (.getfield 7, 3) := by decide +kernel
theorem dX9_indexOf_33 : decode cX9_indexOf 33 = .ok (.lcmp, 1) := by decide +kernel
theorem dX9_indexOf_34 : decode cX9_indexOf 34 = .ok (.ifCond .ge 7, 3) := by decide +kernel
theorem dX9_indexOf_37 : decode cX9_indexOf 37 = .ok (.ldc2_w 23, 3) := by decide +kernel
theorem dX9_indexOf_40 : decode cX9_indexOf 40 = .ok (.lreturn, 1) := by decide +kernel
theorem dX9_indexOf_41 : decode cX9_indexOf 41 = .ok (.lload_n 1, 1) := by decide +kernel
theorem dX9_indexOf_42 : decode cX9_indexOf 42 = .ok (.aload_n 0, 1) := by decide +kernel
theorem dX9_indexOf_43 : decode cX9_indexOf 43 = .ok (.getfield 7, 3) := by decide +kernel
theorem dX9_indexOf_46 : decode cX9_indexOf 46 = .ok (.lcmp, 1) := by decide +kernel
theorem dX9_indexOf_47 : decode cX9_indexOf 47 = .ok (.ifCond .ne 5, 3) := by decide +kernel
theorem dX9_indexOf_50 : decode cX9_indexOf 50 = .ok (.lconst 0, 1) := by decide +kernel
theorem dX9_indexOf_51 : decode cX9_indexOf 51 = .ok (.lreturn, 1) := by decide +kernel
theorem dX9_indexOf_52 : decode cX9_indexOf 52 = .ok (.aload_n 0, 1) := by decide +kernel
theorem dX9_indexOf_53 : decode cX9_indexOf 53 = .ok (.getfield 7, 3) := by decide +kernel
theorem dX9_indexOf_56 : decode cX9_indexOf 56 = .ok (.lload_n 1, 1) := by decide +kernel
theorem dX9_indexOf_57 : decode cX9_indexOf 57 = .ok (.invokestatic 25, 3) := by decide +kernel
theorem dX9_indexOf_60 : decode cX9_indexOf 60 = .ok (.lstore_n 3, 1) := by decide +kernel
theorem dX9_indexOf_61 : decode cX9_indexOf 61 = .ok (.aload_n 0, 1) := by decide +kernel
theorem dX9_indexOf_62 : decode cX9_indexOf 62 = .ok (.getfield 20, 3) := by decide +kernel
theorem dX9_indexOf_65 : decode cX9_indexOf 65 = .ok (.lconst 1, 1) := by decide +kernel
theorem dX9_indexOf_66 : decode cX9_indexOf 66 = .ok (.lcmp, 1) := by decide +kernel
theorem dX9_indexOf_67 : decode cX9_indexOf 67 = .ok (.ifCond .eq 25, 3) := by decide +kernel
theorem dX9_indexOf_70 : decode cX9_indexOf 70 = .ok (.aload_n 0, 1) := by decide +kernel
theorem dX9_indexOf_71 : decode cX9_indexOf 71 = .ok (.getfield 13, 3) := by decide +kernel
theorem dX9_indexOf_74 : decode cX9_indexOf 74 = .ok (.lconst 0, 1) := by decide +kernel
theorem dX9_indexOf_75 : decode cX9_indexOf 75 = .ok (.lcmp, 1) := by decide +kernel
theorem dX9_indexOf_76 : decode cX9_indexOf 76 = .ok (.ifCond .eq 16, 3) := by decide +kernel
theorem dX9_indexOf_79 : decode cX9_indexOf 79 = .ok (.lload_n 3, 1) := by decide +kernel
theorem dX9_indexOf_80 : decode cX9_indexOf 80 = .ok (.aload_n 0, 1) := by decide +kernel
theorem dX9_indexOf_81 : decode cX9_indexOf 81 = .ok (.getfield 13, 3) := by decide +kernel
theorem dX9_indexOf_84 : decode cX9_indexOf 84 = .ok (.invokestatic 31, 3) := by decide +kernel
theorem dX9_indexOf_87 : decode cX9_indexOf 87 = .ok (.lconst 0, 1) := by decide +kernel
theorem dX9_indexOf_88 : decode cX9_indexOf 88 = .ok (.lcmp, 1) := by decide +kernel
theorem dX9_indexOf_89 : decode cX9_indexOf 89 = .ok (.ifCond .eq 7, 3) := by decide +kernel
theorem dX9_indexOf_92 : decode cX9_indexOf 92 = .ok (.ldc2_w 23, 3) := by decide +kernel
theorem dX9_indexOf_95 : decode cX9_indexOf 95 = .ok (.lreturn, 1) := by decide +kernel
theorem dX9_indexOf_96 : decode cX9_indexOf 96 = .ok (.lload_n 3, 1) := by decide +kernel
theorem dX9_indexOf_97 : decode cX9_indexOf 97 = .ok (.aload_n 0, 1) := by decide +kernel
theorem dX9_indexOf_98 : decode cX9_indexOf 98 = .ok (.getfield 13, 3) := by decide +kernel
theorem dX9_indexOf_101 : decode cX9_indexOf 101 = .ok (.invokestatic 34, 3) := by decide +kernel
theorem dX9_indexOf_104 : decode cX9_indexOf 104 = .ok (.lstore 5, 2) := by decide +kernel
theorem dX9_indexOf_106 : decode cX9_indexOf 106 = .ok (.lload 5, 2) := by decide +kernel
theorem dX9_indexOf_108 : decode cX9_indexOf 108 = .ok (.lconst 0, 1) := by decide +kernel
theorem dX9_indexOf_109 : decode cX9_indexOf 109 = .ok (.lcmp, 1) := by decide +kernel
theorem dX9_indexOf_110 : decode cX9_indexOf 110 = .ok (.ifCond .le 18, 3) := by decide +kernel
theorem dX9_indexOf_113 : decode cX9_indexOf 113 = .ok (.lload 5, 2) := by decide +kernel
theorem dX9_indexOf_115 : decode cX9_indexOf 115 = .ok (.aload_n 0, 1) := by decide +kernel
theorem dX9_indexOf_116 : decode cX9_indexOf 116 = .ok (.getfield 20, 3) := by decide +kernel
theorem dX9_indexOf_119 : decode cX9_indexOf 119 = .ok (.lcmp, 1) := by decide +kernel
theorem dX9_indexOf_120 : decode cX9_indexOf 120 = .ok (.ifCond .ge 8, 3) := by decide +kernel
theorem dX9_indexOf_123 : decode cX9_indexOf 123 = .ok (.lload 5, 2) := by decide +kernel
theorem dX9_indexOf_125 : decode cX9_indexOf 125 = .ok (.goto 6, 3) := by decide +kernel
theorem dX9_indexOf_128 : decode cX9_indexOf 128 = .ok (.ldc2_w 23, 3) := by decide +kernel
theorem dX9_indexOf_131 : decode cX9_indexOf 131 = .ok (.lreturn, 1) := by decide +kernel
theorem dX9_turned_0 : decode cX9_turned 0 = .ok (.aload_n 0, 1) := by decide +kernel
theorem dX9_turned_1 : decode cX9_turned 1 = .ok (.getfield 20, 3) := by decide +kernel
theorem dX9_turned_4 : decode cX9_turned 4 = .ok (.lconst 1, 1) := by decide +kernel
theorem dX9_turned_5 : decode cX9_turned 5 = .ok (.lcmp, 1) := by decide +kernel
theorem dX9_turned_6 : decode cX9_turned 6 = .ok (.ifCond .ge 7, 3) := by decide +kernel
theorem dX9_turned_9 : decode cX9_turned 9 = .ok (.aload_n 0, 1) := by decide +kernel
theorem dX9_turned_10 : decode cX9_turned 10 = .ok (.goto 40, 3) := by decide +kernel
theorem dX9_turned_13 : decode cX9_turned 13 = .ok (.new 8, 3) := by decide +kernel
theorem dX9_turned_16 : decode cX9_turned 16 = .ok (.dup, 1) := by decide +kernel
theorem dX9_turned_17 : decode cX9_turned 17 = .ok (.aload_n 0, 1) := by decide +kernel
theorem dX9_turned_18 : decode cX9_turned 18 = .ok (.aload_n 0, 1) := by decide +kernel
theorem dX9_turned_19 : decode cX9_turned 19 = .ok (.getfield 20, 3) := by decide +kernel
theorem dX9_turned_22 : decode cX9_turned 22 = .ok (.lconst 1, 1) := by decide +kernel
theorem dX9_turned_23 : decode cX9_turned 23 = .ok (.lsub, 1) := by decide +kernel
theorem dX9_turned_24 : decode cX9_turned 24 = .ok (.invokevirtual 37, 3) := by decide +kernel
theorem dX9_turned_27 : decode cX9_turned 27 = .ok (.aload_n 0, 1) := by decide +kernel
theorem dX9_turned_28 : decode cX9_turned 28 = .ok (.getfield 13, 3) := by decide +kernel
theorem dX9_turned_31 : decode cX9_turned 31 = .ok (.aload_n 0, 1) := by decide +kernel
theorem dX9_turned_32 : decode cX9_turned 32 = .ok (.getfield 16, 3) := by decide +kernel
theorem dX9_turned_35 : decode cX9_turned 35 = .ok (.ifCond .ne 7, 3) := by decide +kernel
theorem dX9_turned_38 : decode cX9_turned 38 = .ok (.iconst 1, 1) := by decide +kernel
theorem dX9_turned_39 : decode cX9_turned 39 = .ok (.goto 4, 3) := by decide +kernel
theorem dX9_turned_42 : decode cX9_turned 42 = .ok (.iconst 0, 1) := by decide +kernel
theorem dX9_turned_43 : decode cX9_turned 43 = .ok (.aload_n 0, 1) := by decide +kernel
theorem dX9_turned_44 : decode cX9_turned 44 = .ok (.getfield 20, 3) := by decide +kernel
theorem dX9_turned_47 : decode cX9_turned 47 = .ok (.invokespecial 41, 3) := by decide +kernel
theorem dX9_turned_50 : decode cX9_turned 50 = .ok (.areturn, 1) := by decide +kernel
theorem dX9_every_0 : decode cX9_every 0 = .ok (.aload_n 0, 1) := by decide +kernel
theorem dX9_every_1 : decode cX9_every 1 = .ok (.getfield 20, 3) := by decide +kernel
theorem dX9_every_4 : decode cX9_every 4 = .ok (.lconst 1, 1) := by decide +kernel
theorem dX9_every_5 : decode cX9_every 5 = .ok (.lcmp, 1) := by decide +kernel
theorem dX9_every_6 : decode cX9_every 6 = .ok (.ifCond .lt 8, 3) := by decide +kernel
theorem dX9_every_9 : decode cX9_every 9 = .ok (.iload_n 1, 1) := by decide +kernel
theorem dX9_every_10 : decode cX9_every 10 = .ok (.iconst 1, 1) := by decide +kernel
theorem dX9_every_11 : decode cX9_every 11 = .ok (.if_icmp .ge 7, 3) := by decide +kernel
theorem dX9_every_14 : decode cX9_every 14 = .ok (.aload_n 0, 1) := by decide +kernel
theorem dX9_every_15 : decode cX9_every 15 = .ok (.goto 36, 3) := by decide +kernel
theorem dX9_every_18 : decode cX9_every 18 = .ok (.new 8, 3) := by decide +kernel
theorem dX9_every_21 : decode cX9_every 21 = .ok (.dup, 1) := by decide +kernel
theorem dX9_every_22 : decode cX9_every 22 = .ok (.aload_n 0, 1) := by decide +kernel
theorem dX9_every_23 : decode cX9_every 23 = .ok (.getfield 7, 3) := by decide +kernel
theorem dX9_every_26 : decode cX9_every 26 = .ok (.aload_n 0, 1) := by decide +kernel
theorem dX9_every_27 : decode cX9_every 27 = .ok (.getfield 13, 3) := by decide +kernel
theorem dX9_every_30 : decode cX9_every 30 = .ok (.iload_n 1, 1) := by decide +kernel
theorem dX9_every_31 : decode cX9_every 31 = .ok (.i2l, 1) := by decide +kernel
theorem dX9_every_32 : decode cX9_every 32 = .ok (.lmul, 1) := by decide +kernel
theorem dX9_every_33 : decode cX9_every 33 = .ok (.aload_n 0, 1) := by decide +kernel
theorem dX9_every_34 : decode cX9_every 34 = .ok (.getfield 16, 3) := by decide +kernel
theorem dX9_every_37 : decode cX9_every 37 = .ok (.aload_n 0, 1) := by decide +kernel
theorem dX9_every_38 : decode cX9_every 38 = .ok (.getfield 20, 3) := by decide +kernel
theorem dX9_every_41 : decode cX9_every 41 = .ok (.lconst 1, 1) := by decide +kernel
theorem dX9_every_42 : decode cX9_every 42 = .ok (.lsub, 1) := by decide +kernel
theorem dX9_every_43 : decode cX9_every 43 = .ok (.iload_n 1, 1) := by decide +kernel
theorem dX9_every_44 : decode cX9_every 44 = .ok (.i2l, 1) := by decide +kernel
theorem dX9_every_45 : decode cX9_every 45 = .ok (.ldiv, 1) := by decide +kernel
theorem dX9_every_46 : decode cX9_every 46 = .ok (.lconst 1, 1) := by decide +kernel
theorem dX9_every_47 : decode cX9_every 47 = .ok (.ladd, 1) := by decide +kernel
theorem dX9_every_48 : decode cX9_every 48 = .ok (.invokespecial 41, 3) := by decide +kernel
theorem dX9_every_51 : decode cX9_every 51 = .ok (.areturn, 1) := by decide +kernel
theorem dX10_init_0 : decode cX10_init 0 = .ok (.aload_n 0, 1) := by decide +kernel
theorem dX10_init_1 : decode cX10_init 1 = .ok (.invokespecial 3, 3) := by decide +kernel
theorem dX10_init_4 : decode cX10_init 4 = .ok (.aload_n 0, 1) := by decide +kernel
theorem dX10_init_5 : decode cX10_init 5 = .ok (.bipush 20, 2) := by decide +kernel
theorem dX10_init_7 : decode cX10_init 7 = .ok (.newarray .long, 2) := by decide +kernel
theorem dX10_init_9 : decode cX10_init 9 = .ok (.putfield 9, 3) := by decide +kernel
theorem dX10_init_12 : decode cX10_init 12 = .ok (.aload_n 0, 1) := by decide +kernel
theorem dX10_init_13 : decode cX10_init 13 = .ok (.bipush 20, 2) := by decide +kernel
theorem dX10_init_15 : decode cX10_init 15 = .ok (.newarray .int, 2) := by decide +kernel
theorem dX10_init_17 : decode cX10_init 17 = .ok (.putfield 15, 3) := by decide +kernel
theorem dX10_init_20 : decode cX10_init 20 = .ok (.aload_n 0, 1) := by decide +kernel
theorem dX10_init_21 : decode cX10_init 21 = .ok (.bipush 20, 2) := by decide +kernel
theorem dX10_init_23 : decode cX10_init 23 = .ok (.newarray .int, 2) := by decide +kernel
theorem dX10_init_25 : decode cX10_init 25 = .ok (.putfield 19, 3) := by decide +kernel
theorem dX10_init_28 : decode cX10_init 28 = .ok (.aload_n 0, 1) := by decide +kernel
theorem dX10_init_29 : decode cX10_init 29 = .ok (.iconst (-1), 1) := by decide +kernel
theorem dX10_init_30 : decode cX10_init 30 = .ok (.putfield 22, 3) := by decide +kernel
theorem dX10_init_33 : decode cX10_init 33 = .ok (.return_, 1) := by decide +kernel
theorem dX10_beginAsk_0 : decode cX10_beginAsk 0 = .ok (.aload_n 0, 1) := by decide +kernel
theorem dX10_beginAsk_1 : decode cX10_beginAsk 1 = .ok (.iconst 0, 1) := by decide +kernel
theorem dX10_beginAsk_2 : decode cX10_beginAsk 2 = .ok (.putfield 26, 3) := by decide +kernel
theorem dX10_beginAsk_5 : decode cX10_beginAsk 5 = .ok (.return_, 1) := by decide +kernel
theorem dX10_beginRange_0 : decode cX10_beginRange 0 = .ok (.aload_n 0, 1) := by decide +kernel
theorem dX10_beginRange_1 : decode cX10_beginRange 1 = .ok (.iconst 0, 1) := by decide +kernel
theorem dX10_beginRange_2 : decode cX10_beginRange 2 = .ok (.putfield 26, 3) := by decide +kernel
theorem dX10_beginRange_5 : decode cX10_beginRange 5 = .ok (.aload_n 0, 1) := by decide +kernel
theorem dX10_beginRange_6 : decode cX10_beginRange 6 = .ok (.iconst 0, 1) := by decide +kernel
theorem dX10_beginRange_7 : decode cX10_beginRange 7 = .ok (.putfield 29, 3) := by decide +kernel
theorem dX10_beginRange_10 : decode cX10_beginRange 10 = .ok (.return_, 1) := by decide +kernel
theorem dX10_fail_0 : decode cX10_fail 0 = .ok (.aload_n 0, 1) := by decide +kernel
theorem dX10_fail_1 : decode cX10_fail 1 = .ok (.getfield 26, 3) := by decide +kernel
theorem dX10_fail_4 : decode cX10_fail 4 = .ok (.bipush 20, 2) := by decide +kernel
theorem dX10_fail_6 : decode cX10_fail 6 = .ok (.if_icmp .lt 6, 3) := by decide +kernel
theorem dX10_fail_9 : decode cX10_fail 9 = .ok (.bipush (-18), 2) := by decide +kernel
theorem dX10_fail_11 : decode cX10_fail 11 = .ok (.ireturn, 1) := by decide +kernel
theorem dX10_fail_12 : decode cX10_fail 12 = .ok (.aload_n 0, 1) := by decide +kernel
theorem dX10_fail_13 : decode cX10_fail 13 = .ok (.dup, 1) := by decide +kernel
theorem dX10_fail_14 : decode cX10_fail 14 = .ok (.getfield 26, 3) := by decide +kernel
theorem dX10_fail_17 : decode cX10_fail 17 = .ok (.iconst 1, 1) := by decide +kernel
theorem dX10_fail_18 : decode cX10_fail 18 = .ok (.iadd, 1) := by decide +kernel
theorem dX10_fail_19 : decode cX10_fail 19 = .ok (.putfield 26, 3) := by decide +kernel
theorem dX10_fail_22 : decode cX10_fail 22 = .ok (.aload_n 0, 1) := by decide +kernel
theorem dX10_fail_23 : decode cX10_fail 23 = .ok (.iload_n 2, 1) := by decide +kernel
theorem dX10_fail_24 : decode cX10_fail 24 = .ok (.putfield 22, 3) := by decide +kernel
theorem dX10_fail_27 : decode cX10_fail 27 = .ok (.bipush (-10), 2) := by decide +kernel
theorem dX10_fail_29 : decode cX10_fail 29 = .ok (.iload_n 1, 1) := by decide +kernel
theorem dX10_fail_30 : decode cX10_fail 30 = .ok (.isub, 1) := by decide +kernel
theorem dX10_fail_31 : decode cX10_fail 31 = .ok (.ireturn, 1) := by decide +kernel
theorem dX10_barByLatest_0 : decode cX10_barByLatest 0 = .ok (.aload_n 0, 1) := by decide +kernel
theorem dX10_barByLatest_1 : decode cX10_barByLatest 1 = .ok (.getfield 29, 3) := by decide +kernel
theorem dX10_barByLatest_4 : decode cX10_barByLatest 4 = .ok (.bipush 20, 2) := by decide +kernel
theorem dX10_barByLatest_6 : decode cX10_barByLatest 6 = .ok (.if_icmp .ge 49, 3) := by decide +kernel
theorem dX10_barByLatest_9 : decode cX10_barByLatest 9 = .ok (.aload_n 0, 1) := by decide +kernel
theorem dX10_barByLatest_10 : decode cX10_barByLatest 10 = .ok (.getfield 9, 3) := by decide +kernel
theorem dX10_barByLatest_13 : decode cX10_barByLatest 13 = .ok (.aload_n 0, 1) := by decide +kernel
theorem dX10_barByLatest_14 : decode cX10_barByLatest 14 = .ok (.getfield 29, 3) := by decide +kernel
theorem dX10_barByLatest_17 : decode cX10_barByLatest 17 = .ok (.lload_n 1, 1) := by decide +kernel
theorem dX10_barByLatest_18 : decode cX10_barByLatest 18 = .ok (.lastore, 1) := by decide +kernel
theorem dX10_barByLatest_19 : decode cX10_barByLatest 19 = .ok (.aload_n 0, 1) := by decide +kernel
theorem dX10_barByLatest_20 : decode cX10_barByLatest 20 = .ok (.getfield 15, 3) := by decide +kernel
theorem dX10_barByLatest_23 : decode cX10_barByLatest 23 = .ok (.aload_n 0, 1) := by decide +kernel
theorem dX10_barByLatest_24 : decode cX10_barByLatest 24 = .ok (.getfield 29, 3) := by decide +kernel
theorem dX10_barByLatest_27 : decode cX10_barByLatest 27 = .ok (.bipush (-10), 2) := by decide +kernel
theorem dX10_barByLatest_29 : decode cX10_barByLatest 29 = .ok (.iload_n 3, 1) := by decide +kernel
theorem dX10_barByLatest_30 : decode cX10_barByLatest 30 = .ok (.isub, 1) := by decide +kernel
theorem dX10_barByLatest_31 : decode cX10_barByLatest 31 = .ok (.iastore, 1) := by decide +kernel
theorem dX10_barByLatest_32 : decode cX10_barByLatest 32 = .ok (.aload_n 0, 1) := by decide +kernel
theorem dX10_barByLatest_33 : decode cX10_barByLatest 33 = .ok (.getfield 19, 3) := by decide +kernel
theorem dX10_barByLatest_36 : decode cX10_barByLatest 36 = .ok (.aload_n 0, 1) := by decide +kernel
theorem dX10_barByLatest_37 : decode cX10_barByLatest 37 = .ok (.getfield 29, 3) := by decide +kernel
theorem dX10_barByLatest_40 : decode cX10_barByLatest 40 = .ok (.aload_n 0, 1) := by decide +kernel
theorem dX10_barByLatest_41 : decode cX10_barByLatest 41 = .ok (.getfield 22, 3) := by decide +kernel
theorem dX10_barByLatest_44 : decode cX10_barByLatest 44 = .ok (.iastore, 1) := by decide +kernel
theorem dX10_barByLatest_45 : decode cX10_barByLatest 45 = .ok (.aload_n 0, 1) := by decide +kernel
theorem dX10_barByLatest_46 : decode cX10_barByLatest 46 = .ok (.dup, 1) := by decide +kernel
theorem dX10_barByLatest_47 : decode cX10_barByLatest 47 = .ok (.getfield 29, 3) := by decide +kernel
theorem dX10_barByLatest_50 : decode cX10_barByLatest 50 = .ok (.iconst 1, 1) := by decide +kernel
theorem dX10_barByLatest_51 : decode cX10_barByLatest 51 = .ok (.iadd, 1) := by decide +kernel
theorem dX10_barByLatest_52 : decode cX10_barByLatest 52 = .ok (.putfield 29, 3) := by decide +kernel
theorem dX10_barByLatest_55 : decode cX10_barByLatest 55 = .ok (.return_, 1) := by decide +kernel
theorem dX10_hasBarred_0 : decode cX10_hasBarred 0 = .ok (.iload_n 1, 1) := by decide +kernel
theorem dX10_hasBarred_1 : decode cX10_hasBarred 1 = .ok (.ifCond .lt 21, 3) := by decide +kernel
theorem dX10_hasBarred_4 : decode cX10_hasBarred 4 = .ok (.iload_n 1, 1) := by decide +kernel
theorem dX10_hasBarred_5 : decode cX10_hasBarred 5 = .ok (.aload_n 0, 1) := by decide +kernel
theorem dX10_hasBarred_6 : decode cX10_hasBarred 6 = .ok (.getfield 29, 3) := by decide +kernel
theorem dX10_hasBarred_9 : decode cX10_hasBarred 9 = .ok (.if_icmp .ge 13, 3) := by decide +kernel
theorem dX10_hasBarred_12 : decode cX10_hasBarred 12 = .ok (.iload_n 1, 1) := by decide +kernel
theorem dX10_hasBarred_13 : decode cX10_hasBarred 13 = .ok (.bipush 20, 2) := by decide +kernel
theorem dX10_hasBarred_15 : decode cX10_hasBarred 15 = .ok (.if_icmp .ge 7, 3) := by decide +kernel
theorem dX10_hasBarred_18 : decode cX10_hasBarred 18 = .ok (.iconst 1, 1) := by decide +kernel
theorem dX10_hasBarred_19 : decode cX10_hasBarred 19 = .ok (.goto 4, 3) := by decide +kernel
theorem dX10_hasBarred_22 : decode cX10_hasBarred 22 = .ok (.iconst 0, 1) := by decide +kernel
theorem dX10_hasBarred_23 : decode cX10_hasBarred 23 = .ok (.ireturn, 1) := by decide +kernel
theorem dX10_canBeMet_0 : decode cX10_canBeMet 0 = .ok (.iload_n 0, 1) := by decide +kernel
theorem dX10_canBeMet_1 : decode cX10_canBeMet 1 = .ok (.ifCond .ge 13, 3) := by decide +kernel
theorem dX10_canBeMet_4 : decode cX10_canBeMet 4 = .ok (.iload_n 0, 1) := by decide +kernel
theorem dX10_canBeMet_5 : decode cX10_canBeMet 5 = .ok (.bipush (-18), 2) := by decide +kernel
theorem dX10_canBeMet_7 : decode cX10_canBeMet 7 = .ok (.if_icmp .eq 7, 3) := by decide +kernel
theorem dX10_canBeMet_10 : decode cX10_canBeMet 10 = .ok (.iconst 1, 1) := by decide +kernel
theorem dX10_canBeMet_11 : decode cX10_canBeMet 11 = .ok (.goto 4, 3) := by decide +kernel
theorem dX10_canBeMet_14 : decode cX10_canBeMet 14 = .ok (.iconst 0, 1) := by decide +kernel
theorem dX10_canBeMet_15 : decode cX10_canBeMet 15 = .ok (.ireturn, 1) := by decide +kernel
theorem dX11_init_0 : decode cX11_init 0 = .ok (.aload_n 0, 1) := by decide +kernel
theorem dX11_init_1 : decode cX11_init 1 = .ok (.invokespecial 1, 3) := by decide +kernel
theorem dX11_init_4 : decode cX11_init 4 = .ok (.aload_n 0, 1) := by decide +kernel
theorem dX11_init_5 : decode cX11_init 5 = .ok (.bipush 6, 2) := by decide +kernel
theorem dX11_init_7 : decode cX11_init 7 = .ok (.anewarray 9, 3) := by decide +kernel
theorem dX11_init_10 : decode cX11_init 10 = .ok (.putfield 11, 3) := by decide +kernel
theorem dX11_init_13 : decode cX11_init 13 = .ok (.aload_n 0, 1) := by decide +kernel
theorem dX11_init_14 : decode cX11_init 14 = .ok (.iconst 3, 1) := by decide +kernel
theorem dX11_init_15 : decode cX11_init 15 = .ok (.anewarray 15, 3) := by decide +kernel
theorem dX11_init_18 : decode cX11_init 18 = .ok (.putfield 17, 3) := by decide +kernel
theorem dX11_init_21 : decode cX11_init 21 = .ok (.aload_n 0, 1) := by decide +kernel
theorem dX11_init_22 : decode cX11_init 22 = .ok (.bipush 20, 2) := by decide +kernel
theorem dX11_init_24 : decode cX11_init 24 = .ok (.anewarray 21, 3) := by decide +kernel
theorem dX11_init_27 : decode cX11_init 27 = .ok (.putfield 23, 3) := by decide +kernel
theorem dX11_init_30 : decode cX11_init 30 = .ok (.aload_n 0, 1) := by decide +kernel
theorem dX11_init_31 : decode cX11_init 31 = .ok (.bipush 20, 2) := by decide +kernel
theorem dX11_init_33 : decode cX11_init 33 = .ok (.anewarray 27, 3) := by decide +kernel
theorem dX11_init_36 : decode cX11_init 36 = .ok (.putfield 29, 3) := by decide +kernel
theorem dX11_init_39 : decode cX11_init 39 = .ok (.aload_n 0, 1) := by decide +kernel
theorem dX11_init_40 : decode cX11_init 40 = .ok (.new 33, 3) := by decide +kernel
theorem dX11_init_43 : decode cX11_init 43 = .ok (.dup, 1) := by decide +kernel
theorem dX11_init_44 : decode cX11_init 44 = .ok (.invokespecial 35, 3) := by decide +kernel
theorem dX11_init_47 : decode cX11_init 47 = .ok (.putfield 36, 3) := by decide +kernel
theorem dX11_init_50 : decode cX11_init 50 = .ok (.aload_n 0, 1) := by decide +kernel
theorem dX11_init_51 : decode cX11_init 51 = .ok (.new 40, 3) := by decide +kernel
theorem dX11_init_54 : decode cX11_init 54 = .ok (.dup, 1) := by decide +kernel
theorem dX11_init_55 : decode cX11_init 55 = .ok (.invokespecial 42, 3) := by decide +kernel
theorem dX11_init_58 : decode cX11_init 58 = .ok (.putfield 43, 3) := by decide +kernel
theorem dX11_init_61 : decode cX11_init 61 = .ok (.aload_n 0, 1) := by decide +kernel
theorem dX11_init_62 : decode cX11_init 62 = .ok (.sipush 1200, 3) := by decide +kernel
theorem dX11_init_65 : decode cX11_init 65 = .ok (.newarray .long, 2) := by decide +kernel
theorem dX11_init_67 : decode cX11_init 67 = .ok (.putfield 47, 3) := by decide +kernel
theorem dX11_init_70 : decode cX11_init 70 = .ok (.iconst 0, 1) := by decide +kernel
theorem dX11_init_71 : decode cX11_init 71 = .ok (.istore_n 1, 1) := by decide +kernel
theorem dX11_init_72 : decode cX11_init 72 = .ok (.iload_n 1, 1) := by decide +kernel
theorem dX11_init_73 : decode cX11_init 73 = .ok (.bipush 6, 2) := by decide +kernel
theorem dX11_init_75 : decode cX11_init 75 = .ok (.if_icmp .ge 22, 3) := by decide +kernel
theorem dX11_init_78 : decode cX11_init 78 = .ok (.aload_n 0, 1) := by decide +kernel
theorem dX11_init_79 : decode cX11_init 79 = .ok (.getfield 11, 3) := by decide +kernel
theorem dX11_init_82 : decode cX11_init 82 = .ok (.iload_n 1, 1) := by decide +kernel
theorem dX11_init_83 : decode cX11_init 83 = .ok (.new 9, 3) := by decide +kernel
theorem dX11_init_86 : decode cX11_init 86 = .ok (.dup, 1) := by decide +kernel
theorem dX11_init_87 : decode cX11_init 87 = .ok (.invokespecial 51, 3) := by decide +kernel
theorem dX11_init_90 : decode cX11_init 90 = .ok (.aastore, 1) := by decide +kernel
theorem dX11_init_91 : decode cX11_init 91 = .ok (.iinc 1 1, 3) := by decide +kernel
theorem dX11_init_94 : decode cX11_init 94 = .ok (.goto (-22), 3) := by decide +kernel
theorem dX11_init_97 : decode cX11_init 97 = .ok (.iconst 0, 1) := by decide +kernel
theorem dX11_init_98 : decode cX11_init 98 = .ok (.istore_n 1, 1) := by decide +kernel
theorem dX11_init_99 : decode cX11_init 99 = .ok (.iload_n 1, 1) := by decide +kernel
theorem dX11_init_100 : decode cX11_init 100 = .ok (.iconst 3, 1) := by decide +kernel
theorem dX11_init_101 : decode cX11_init 101 = .ok (.if_icmp .ge 23, 3) := by decide +kernel
theorem dX11_init_104 : decode cX11_init 104 = .ok (.aload_n 0, 1) := by decide +kernel
theorem dX11_init_105 : decode cX11_init 105 = .ok (.getfield 17, 3) := by decide +kernel
theorem dX11_init_108 : decode cX11_init 108 = .ok (.iload_n 1, 1) := by decide +kernel
theorem dX11_init_109 : decode cX11_init 109 = .ok (.new 15, 3) := by decide +kernel
theorem dX11_init_112 : decode cX11_init 112 = .ok (.dup, 1) := by decide +kernel
theorem dX11_init_113 : decode cX11_init 113 = .ok (.iload_n 1, 1) := by decide +kernel
theorem dX11_init_114 : decode cX11_init 114 = .ok (.invokespecial 52, 3) := by decide +kernel
theorem dX11_init_117 : decode cX11_init 117 = .ok (.aastore, 1) := by decide +kernel
theorem dX11_init_118 : decode cX11_init 118 = .ok (.iinc 1 1, 3) := by decide +kernel
theorem dX11_init_121 : decode cX11_init 121 = .ok (.goto (-22), 3) := by decide +kernel
theorem dX11_init_124 : decode cX11_init 124 = .ok (.return_, 1) := by decide +kernel
theorem dX11_shelf_0 : decode cX11_shelf 0 = .ok (.aload_n 0, 1) := by decide +kernel
theorem dX11_shelf_1 : decode cX11_shelf 1 = .ok (.iload_n 1, 1) := by decide +kernel
theorem dX11_shelf_2 : decode cX11_shelf 2 = .ok (.invokevirtual 55, 3) := by decide +kernel
theorem dX11_shelf_5 : decode cX11_shelf 5 = .ok (.astore 4, 2) := by decide +kernel
theorem dX11_shelf_7 : decode cX11_shelf 7 = .ok (.aload 4, 2) := by decide +kernel
theorem dX11_shelf_9 : decode cX11_shelf 9 = .ok (.ifnonnull 5, 3) := by decide +kernel
theorem dX11_shelf_12 : decode cX11_shelf 12 = .ok (.iconst (-1), 1) := by decide +kernel
theorem dX11_shelf_13 : decode cX11_shelf 13 = .ok (.ireturn, 1) := by decide +kernel
theorem dX11_shelf_14 : decode cX11_shelf 14 = .ok (.iload_n 2, 1) := by decide +kernel
theorem dX11_shelf_15 : decode cX11_shelf 15 = .ok (.ifCond .lt 8, 3) := by decide +kernel
theorem dX11_shelf_18 : decode cX11_shelf 18 = .ok (.iload_n 2, 1) := by decide +kernel
theorem dX11_shelf_19 : decode cX11_shelf 19 = .ok (.iconst 3, 1) := by decide +kernel
theorem dX11_shelf_20 : decode cX11_shelf 20 = .ok (.if_icmp .le 6, 3) := by decide +kernel
theorem dX11_shelf_23 : decode cX11_shelf 23 = .ok (.bipush (-2), 2) := by decide +kernel
theorem dX11_shelf_25 : decode cX11_shelf 25 = .ok (.ireturn, 1) := by decide +kernel
theorem dX11_shelf_26 : decode cX11_shelf 26 = .ok (.iload_n 2, 1) := by decide +kernel
theorem dX11_shelf_27 : decode cX11_shelf 27 = .ok (.iconst 1, 1) := by decide +kernel
theorem dX11_shelf_28 : decode cX11_shelf 28 = .ok (.if_icmp .eq 8, 3) := by decide +kernel
theorem dX11_shelf_31 : decode cX11_shelf 31 = .ok (.iload_n 2, 1) := by decide +kernel
theorem dX11_shelf_32 : decode cX11_shelf 32 = .ok (.iconst 2, 1) := by decide +kernel
theorem dX11_shelf_33 : decode cX11_shelf 33 = .ok (.if_icmp .ne 7, 3) := by decide +kernel
theorem dX11_shelf_36 : decode cX11_shelf 36 = .ok (.iconst 1, 1) := by decide +kernel
theorem dX11_shelf_37 : decode cX11_shelf 37 = .ok (.goto 4, 3) := by decide +kernel
theorem dX11_shelf_40 : decode cX11_shelf 40 = .ok (.iconst 0, 1) := by decide +kernel
theorem dX11_shelf_41 : decode cX11_shelf 41 = .ok (.istore 5, 2) := by decide +kernel
theorem dX11_shelf_43 : decode cX11_shelf 43 = .ok (.iload 5, 2) := by decide +kernel
theorem dX11_shelf_45 : decode cX11_shelf 45 = .ok (.ifCond .eq 16, 3) := by decide +kernel
theorem dX11_shelf_48 : decode cX11_shelf 48 = .ok (.iload_n 3, 1) := by decide +kernel
theorem dX11_shelf_49 : decode cX11_shelf 49 = .ok (.ifCond .lt 9, 3) := by decide +kernel
theorem dX11_shelf_52 : decode cX11_shelf 52 = .ok (.iload_n 3, 1) := by decide +kernel
theorem dX11_shelf_53 : decode cX11_shelf 53 = .ok (.bipush 12, 2) := by decide +kernel
theorem dX11_shelf_55 : decode cX11_shelf 55 = .ok (.if_icmp .le 6, 3) := by decide +kernel
theorem dX11_shelf_58 : decode cX11_shelf 58 = .ok (.bipush (-2), 2) := by decide +kernel
theorem dX11_shelf_60 : decode cX11_shelf 60 = .ok (.ireturn, 1) := by decide +kernel
theorem dX11_shelf_61 : decode cX11_shelf 61 = .ok (.aload 4, 2) := by decide +kernel
theorem dX11_shelf_63 : decode cX11_shelf 63 = .ok (.iload_n 2, 1) := by decide +kernel
theorem dX11_shelf_64 : decode cX11_shelf 64 = .ok (.iload_n 3, 1) := by decide +kernel
theorem dX11_shelf_65 : decode cX11_shelf 65 = .ok (.invokevirtual 59, 3) := by decide +kernel
theorem dX11_shelf_68 : decode cX11_shelf 68 = .ok (.iconst 1, 1) := by decide +kernel
theorem dX11_shelf_69 : decode cX11_shelf 69 = .ok (.ireturn, 1) := by decide +kernel
theorem dX11_item_0 : decode cX11_item 0 = .ok (.aload_n 0, 1) := by decide +kernel
theorem dX11_item_1 : decode cX11_item 1 = .ok (.iload_n 1, 1) := by decide +kernel
theorem dX11_item_2 : decode cX11_item 2 = .ok (.invokevirtual 55, 3) := by decide +kernel
theorem dX11_item_5 : decode cX11_item 5 = .ok (.astore 5, 2) := by decide +kernel
theorem dX11_item_7 : decode cX11_item 7 = .ok (.aload 5, 2) := by decide +kernel
theorem dX11_item_9 : decode cX11_item 9 = .ok (.ifnonnull 5, 3) := by decide +kernel
theorem dX11_item_12 : decode cX11_item 12 = .ok (.iconst (-1), 1) := by decide +kernel
theorem dX11_item_13 : decode cX11_item 13 = .ok (.ireturn, 1) := by decide +kernel
theorem dX11_item_14 : decode cX11_item 14 = .ok (.aload 5, 2) := by decide +kernel
theorem dX11_item_16 : decode cX11_item 16 = .ok (.invokevirtual 63, 3) := by decide +kernel
theorem dX11_item_19 : decode cX11_item 19 = .ok (.istore 6, 2) := by decide +kernel
theorem dX11_item_21 : decode cX11_item 21 = .ok (.iload 6, 2) := by decide +kernel
theorem dX11_item_23 : decode cX11_item 23 = .ok (.ifCond .ne 16, 3) := by decide +kernel
theorem dX11_item_26 : decode cX11_item 26 = .ok (.aload 5, 2) := by decide +kernel
theorem dX11_item_28 : decode cX11_item 28 = .ok (.iload_n 2, 1) := by decide +kernel
theorem dX11_item_29 : decode cX11_item 29 = .ok (.i2l, 1) := by decide +kernel
theorem dX11_item_30 : decode cX11_item 30 = .ok (.invokevirtual 67, 3) := by decide +kernel
theorem dX11_item_33 : decode cX11_item 33 = .ok (.ifCond .ne 6, 3) := by decide +kernel
theorem dX11_item_36 : decode cX11_item 36 = .ok (.iconst 2, 1) := by decide +kernel
theorem dX11_item_37 : decode cX11_item 37 = .ok (.istore 6, 2) := by decide +kernel
theorem dX11_item_39 : decode cX11_item 39 = .ok (.iload 6, 2) := by decide +kernel
theorem dX11_item_41 : decode cX11_item 41 = .ok (.ifCond .eq 9, 3) := by decide +kernel
theorem dX11_item_44 : decode cX11_item 44 = .ok (.bipush (-10), 2) := by decide +kernel
theorem dX11_item_46 : decode cX11_item 46 = .ok (.iload 6, 2) := by decide +kernel
theorem dX11_item_48 : decode cX11_item 48 = .ok (.isub, 1) := by decide +kernel
theorem dX11_item_49 : decode cX11_item 49 = .ok (.ireturn, 1) := by decide +kernel
theorem dX11_item_50 : decode cX11_item 50 = .ok (.aload 5, 2) := by decide +kernel
theorem dX11_item_52 : decode cX11_item 52 = .ok (.iload_n 2, 1) := by decide +kernel
theorem dX11_item_53 : decode cX11_item 53 = .ok (.lload_n 3, 1) := by decide +kernel
theorem dX11_item_54 : decode cX11_item 54 = .ok (.invokevirtual 71, 3) := by decide +kernel
theorem dX11_item_57 : decode cX11_item 57 = .ok (.iconst 1, 1) := by decide +kernel
theorem dX11_item_58 : decode cX11_item 58 = .ok (.ireturn, 1) := by decide +kernel
theorem dX11_box_0 : decode cX11_box 0 = .ok (.aload_n 0, 1) := by decide +kernel
theorem dX11_box_1 : decode cX11_box 1 = .ok (.iload_n 1, 1) := by decide +kernel
theorem dX11_box_2 : decode cX11_box 2 = .ok (.invokevirtual 75, 3) := by decide +kernel
theorem dX11_box_5 : decode cX11_box 5 = .ok (.astore_n 3, 1) := by decide +kernel
theorem dX11_box_6 : decode cX11_box 6 = .ok (.aload_n 3, 1) := by decide +kernel
theorem dX11_box_7 : decode cX11_box 7 = .ok (.ifnull 12, 3) := by decide +kernel
theorem dX11_box_10 : decode cX11_box 10 = .ok (.iload_n 2, 1) := by decide +kernel
theorem dX11_box_11 : decode cX11_box 11 = .ok (.ifCond .lt 8, 3) := by decide +kernel
theorem dX11_box_14 : decode cX11_box 14 = .ok (.iload_n 2, 1) := by decide +kernel
theorem dX11_box_15 : decode cX11_box 15 = .ok (.iconst 3, 1) := by decide +kernel
theorem dX11_box_16 : decode cX11_box 16 = .ok (.if_icmp .lt 5, 3) := by decide +kernel
theorem dX11_box_19 : decode cX11_box 19 = .ok (.iconst (-1), 1) := by decide +kernel
theorem dX11_box_20 : decode cX11_box 20 = .ok (.ireturn, 1) := by decide +kernel
theorem dX11_box_21 : decode cX11_box 21 = .ok (.aload_n 3, 1) := by decide +kernel
theorem dX11_box_22 : decode cX11_box 22 = .ok (.getfield 79, 3) := by decide +kernel
theorem dX11_box_25 : decode cX11_box 25 = .ok (.iload_n 2, 1) := by decide +kernel
theorem dX11_box_26 : decode cX11_box 26 = .ok (.iaload, 1) := by decide +kernel
theorem dX11_box_27 : decode cX11_box 27 = .ok (.ireturn, 1) := by decide +kernel
theorem dX11_filter_0 : decode cX11_filter 0 = .ok (.iload_n 1, 1) := by decide +kernel
theorem dX11_filter_1 : decode cX11_filter 1 = .ok (.ifCond .lt 9, 3) := by decide +kernel
theorem dX11_filter_4 : decode cX11_filter 4 = .ok (.iload_n 1, 1) := by decide +kernel
theorem dX11_filter_5 : decode cX11_filter 5 = .ok (.bipush 12, 2) := by decide +kernel
theorem dX11_filter_7 : decode cX11_filter 7 = .ok (.if_icmp .le 6, 3) := by decide +kernel
theorem dX11_filter_10 : decode cX11_filter 10 = .ok (.bipush (-2), 2) := by decide +kernel
theorem dX11_filter_12 : decode cX11_filter 12 = .ok (.ireturn, 1) := by decide +kernel
theorem dX11_filter_13 : decode cX11_filter 13 = .ok (.iload_n 1, 1) := by decide +kernel
theorem dX11_filter_14 : decode cX11_filter 14 = .ok (.bipush 7, 2) := by decide +kernel
theorem dX11_filter_16 : decode cX11_filter 16 = .ok (.if_icmp .lt 17, 3) := by decide +kernel
theorem dX11_filter_19 : decode cX11_filter 19 = .ok (.iload_n 1, 1) := by decide +kernel
theorem dX11_filter_20 : decode cX11_filter 20 = .ok (.bipush 11, 2) := by decide +kernel
theorem dX11_filter_22 : decode cX11_filter 22 = .ok (.if_icmp .gt 11, 3) := by decide +kernel
theorem dX11_filter_25 : decode cX11_filter 25 = .ok (.aload_n 0, 1) := by decide +kernel
theorem dX11_filter_26 : decode cX11_filter 26 = .ok (.iload_n 1, 1) := by decide +kernel
theorem dX11_filter_27 : decode cX11_filter 27 = .ok (.iload_n 2, 1) := by decide +kernel
theorem dX11_filter_28 : decode cX11_filter 28 = .ok (.iload_n 3, 1) := by decide +kernel
theorem dX11_filter_29 : decode cX11_filter 29 = .ok (.invokevirtual 83, 3) := by decide +kernel
theorem dX11_filter_32 : decode cX11_filter 32 = .ok (.ireturn, 1) := by decide +kernel
theorem dX11_filter_33 : decode cX11_filter 33 = .ok (.iload_n 1, 1) := by decide +kernel
theorem dX11_filter_34 : decode cX11_filter 34 = .ok (.iconst 3, 1) := by decide +kernel
theorem dX11_filter_35 : decode cX11_filter 35 = .ok (.if_icmp .eq 9, 3) := by decide +kernel
theorem dX11_filter_38 : decode cX11_filter 38 = .ok (.iload_n 1, 1) := by decide +kernel
theorem dX11_filter_39 : decode cX11_filter 39 = .ok (.bipush 12, 2) := by decide +kernel
theorem dX11_filter_41 : decode cX11_filter 41 = .ok (.if_icmp .ne 12, 3) := by decide +kernel
theorem dX11_filter_44 : decode cX11_filter 44 = .ok (.aload_n 0, 1) := by decide +kernel
theorem dX11_filter_45 : decode cX11_filter 45 = .ok (.iload_n 1, 1) := by decide +kernel
theorem dX11_filter_46 : decode cX11_filter 46 = .ok (.iload_n 2, 1) := by decide +kernel
theorem dX11_filter_47 : decode cX11_filter 47 = .ok (.lload 4, 2) := by decide +kernel
theorem dX11_filter_49 : decode cX11_filter 49 = .ok (.invokevirtual 87, 3) := by decide +kernel
theorem dX11_filter_52 : decode cX11_filter 52 = .ok (.ireturn, 1) := by decide +kernel
theorem dX11_filter_53 : decode cX11_filter 53 = .ok (.iload_n 1, 1) := by decide +kernel
theorem dX11_filter_54 : decode cX11_filter 54 = .ok (.iconst 5, 1) := by decide +kernel
theorem dX11_filter_55 : decode cX11_filter 55 = .ok (.if_icmp .ne 11, 3) := by decide +kernel
theorem dX11_filter_58 : decode cX11_filter 58 = .ok (.aload_n 0, 1) := by decide +kernel
theorem dX11_filter_59 : decode cX11_filter 59 = .ok (.iload_n 2, 1) := by decide +kernel
theorem dX11_filter_60 : decode cX11_filter 60 = .ok (.lload 4, 2) := by decide +kernel
theorem dX11_filter_62 : decode cX11_filter 62 = .ok (.invokevirtual 91, 3) := by decide +kernel
theorem dX11_filter_65 : decode cX11_filter 65 = .ok (.ireturn, 1) := by decide +kernel
theorem dX11_filter_66 : decode cX11_filter 66 = .ok (.aload_n 0, 1) := by decide +kernel
theorem dX11_filter_67 : decode cX11_filter 67 = .ok (.new 95, 3) := by decide +kernel
theorem dX11_filter_70 : decode cX11_filter 70 = .ok (.dup, 1) := by decide +kernel
theorem dX11_filter_71 : decode cX11_filter 71 = .ok (.aload_n 0, 1) := by decide +kernel
theorem dX11_filter_72 : decode cX11_filter 72 = .ok (.getfield 97, 3) := by decide +kernel
theorem dX11_filter_75 : decode cX11_filter 75 = .ok (.iload_n 1, 1) := by decide +kernel
theorem dX11_filter_76 : decode cX11_filter 76 = .ok (.iload_n 2, 1) := by decide +kernel
theorem dX11_filter_77 : decode cX11_filter 77 = .ok (.lload 4, 2) := by decide +kernel
theorem dX11_filter_79 : decode cX11_filter 79 = .ok (.invokespecial 101, 3) := by decide +kernel
theorem dX11_filter_82 : decode cX11_filter 82 = .ok (.invokevirtual 104, 3) := by decide +kernel
theorem dX11_filter_85 : decode cX11_filter 85 = .ok (.ireturn, 1) := by decide +kernel
theorem dX11_ask_0 : decode cX11_ask 0 = .ok (.aload_n 0, 1) := by decide +kernel
theorem dX11_ask_1 : decode cX11_ask 1 = .ok (.iload_n 1, 1) := by decide +kernel
theorem dX11_ask_2 : decode cX11_ask 2 = .ok (.invokevirtual 108, 3) := by decide +kernel
theorem dX11_ask_5 : decode cX11_ask 5 = .ok (.astore 4, 2) := by decide +kernel
theorem dX11_ask_7 : decode cX11_ask 7 = .ok (.aload 4, 2) := by decide +kernel
theorem dX11_ask_9 : decode cX11_ask 9 = .ok (.ifnonnull 5, 3) := by decide +kernel
theorem dX11_ask_12 : decode cX11_ask 12 = .ok (.iconst (-1), 1) := by decide +kernel
theorem dX11_ask_13 : decode cX11_ask 13 = .ok (.ireturn, 1) := by decide +kernel
theorem dX11_ask_14 : decode cX11_ask 14 = .ok (.aload_n 0, 1) := by decide +kernel
theorem dX11_ask_15 : decode cX11_ask 15 = .ok (.getfield 36, 3) := by decide +kernel
theorem dX11_ask_18 : decode cX11_ask 18 = .ok (.invokevirtual 112, 3) := by decide +kernel
theorem dX11_ask_21 : decode cX11_ask 21 = .ok (.aload 4, 2) := by decide +kernel
theorem dX11_ask_23 : decode cX11_ask 23 = .ok (.lload_n 2, 1) := by decide +kernel
theorem dX11_ask_24 : decode cX11_ask 24 = .ok (.aload_n 0, 1) := by decide +kernel
theorem dX11_ask_25 : decode cX11_ask 25 = .ok (.getfield 36, 3) := by decide +kernel
theorem dX11_ask_28 : decode cX11_ask 28 = .ok (.invokevirtual 115, 3) := by decide +kernel
theorem dX11_ask_31 : decode cX11_ask 31 = .ok (.ireturn, 1) := by decide +kernel
theorem dX11_asked_0 : decode cX11_asked 0 = .ok (.aload_n 0, 1) := by decide +kernel
theorem dX11_asked_1 : decode cX11_asked 1 = .ok (.iload_n 1, 1) := by decide +kernel
theorem dX11_asked_2 : decode cX11_asked 2 = .ok (.invokevirtual 108, 3) := by decide +kernel
theorem dX11_asked_5 : decode cX11_asked 5 = .ok (.astore_n 2, 1) := by decide +kernel
theorem dX11_asked_6 : decode cX11_asked 6 = .ok (.aload_n 2, 1) := by decide +kernel
theorem dX11_asked_7 : decode cX11_asked 7 = .ok (.ifnonnull 7, 3) := by decide +kernel
theorem dX11_asked_10 : decode cX11_asked 10 = .ok (.iconst (-1), 1) := by decide +kernel
theorem dX11_asked_11 : decode cX11_asked 11 = .ok (.goto 7, 3) := by decide +kernel
theorem dX11_asked_14 : decode cX11_asked 14 = .ok (.aload_n 2, 1) := by decide +kernel
theorem dX11_asked_15 : decode cX11_asked 15 = .ok (.invokevirtual 119, 3) := by decide +kernel
theorem dX11_asked_18 : decode cX11_asked 18 = .ok (.ireturn, 1) := by decide +kernel
theorem dX11_span_0 : decode cX11_span 0 = .ok (.lload 5, 2) := by decide +kernel
theorem dX11_span_2 : decode cX11_span 2 = .ok (.lconst 1, 1) := by decide +kernel
theorem dX11_span_3 : decode cX11_span 3 = .ok (.lcmp, 1) := by decide +kernel
theorem dX11_span_4 : decode cX11_span 4 = .ok (.ifCond .ge 6, 3) := by decide +kernel
theorem dX11_span_7 : decode cX11_span 7 = .ok (.bipush (-2), 2) := by decide +kernel
theorem dX11_span_9 : decode cX11_span 9 = .ok (.ireturn, 1) := by decide +kernel
theorem dX11_span_10 : decode cX11_span 10 = .ok (.lload_n 1, 1) := by decide +kernel
theorem dX11_span_11 : decode cX11_span 11 = .ok (.lload_n 3, 1) := by decide +kernel
theorem dX11_span_12 : decode cX11_span 12 = .ok (.lcmp, 1) := by decide +kernel
theorem dX11_span_13 : decode cX11_span 13 = .ok (.ifCond .le 9, 3) := by decide +kernel
theorem dX11_span_16 : decode cX11_span 16 = .ok (.ldc2_w 122, 3) := by decide +kernel
theorem dX11_span_19 : decode cX11_span 19 = .ok (.goto 11, 3) := by decide +kernel
theorem dX11_span_22 : decode cX11_span 22 = .ok (.lload_n 3, 1) := by decide +kernel
theorem dX11_span_23 : decode cX11_span 23 = .ok (.lload_n 1, 1) := by decide +kernel
theorem dX11_span_24 : decode cX11_span 24 = .ok (.lsub, 1) := by decide +kernel
theorem dX11_span_25 : decode cX11_span 25 = .ok (.lload 5, 2) := by decide +kernel
theorem dX11_span_27 : decode cX11_span 27 = .ok (.invokestatic 124, 3) := by decide +kernel
theorem dX11_span_30 : decode cX11_span 30 = .ok (.lstore 7, 2) := by decide +kernel
theorem dX11_span_32 : decode cX11_span 32 = .ok (.lload_n 1, 1) := by decide +kernel
theorem dX11_span_33 : decode cX11_span 33 = .ok (.lload_n 3, 1) := by decide +kernel
theorem dX11_span_34 : decode cX11_span 34 = .ok (.lcmp, 1) := by decide +kernel
theorem dX11_span_35 : decode cX11_span 35 = .ok (.ifCond .gt 22, 3) := by decide +kernel
theorem dX11_span_38 : decode cX11_span 38 = .ok (.lload 7, 2) := by decide +kernel
theorem dX11_span_40 : decode cX11_span 40 = .ok (.lconst 0, 1) := by decide +kernel
theorem dX11_span_41 : decode cX11_span 41 = .ok (.lcmp, 1) := by decide +kernel
theorem dX11_span_42 : decode cX11_span 42 = .ok (.ifCond .lt 12, 3) := by decide +kernel
theorem dX11_span_45 : decode cX11_span 45 = .ok (.lload 7, 2) := by decide +kernel
theorem dX11_span_47 : decode cX11_span 47 = .ok (.ldc2_w 130, 3) := by decide +kernel
theorem dX11_span_50 : decode cX11_span 50 = .ok (.lcmp, 1) := by decide +kernel
theorem dX11_span_51 : decode cX11_span 51 = .ok (.ifCond .ne 6, 3) := by decide +kernel
theorem dX11_span_54 : decode cX11_span 54 = .ok (.bipush (-3), 2) := by decide +kernel
theorem dX11_span_56 : decode cX11_span 56 = .ok (.ireturn, 1) := by decide +kernel
theorem dX11_span_57 : decode cX11_span 57 = .ok (.aload_n 0, 1) := by decide +kernel
theorem dX11_span_58 : decode cX11_span 58 = .ok (.new 27, 3) := by decide +kernel
theorem dX11_span_61 : decode cX11_span 61 = .ok (.dup, 1) := by decide +kernel
theorem dX11_span_62 : decode cX11_span 62 = .ok (.new 132, 3) := by decide +kernel
theorem dX11_span_65 : decode cX11_span 65 = .ok (.dup, 1) := by decide +kernel
theorem dX11_span_66 : decode cX11_span 66 = .ok (.lload_n 1, 1) := by decide +kernel
theorem dX11_span_67 : decode cX11_span 67 = .ok (.lload 5, 2) := by decide +kernel
theorem dX11_span_69 : decode cX11_span 69 = .ok (.iconst 0, 1) := by decide +kernel
theorem dX11_span_70 : decode cX11_span 70 = .ok (.lload 7, 2) := by decide +kernel
theorem dX11_span_72 : decode cX11_span 72 = .ok (.lconst 1, 1) := by decide +kernel
theorem dX11_span_73 : decode cX11_span 73 = .ok (.ladd, 1) := by decide +kernel
theorem dX11_span_74 : decode cX11_span 74 = .ok (.invokespecial 134, 3) := by decide +kernel
theorem dX11_span_77 : decode cX11_span 77 = .ok (.invokespecial 137, 3) := by decide +kernel
theorem dX11_span_80 : decode cX11_span 80 = .ok (.invokevirtual 140, 3) := by decide +kernel
theorem dX11_span_83 : decode cX11_span 83 = .ok (.ireturn, 1) := by decide +kernel
theorem dX11_list_0 : decode cX11_list 0 = .ok (.new 9, 3) := by decide +kernel
theorem dX11_list_3 : decode cX11_list 3 = .ok (.dup, 1) := by decide +kernel
theorem dX11_list_4 : decode cX11_list 4 = .ok (.invokespecial 51, 3) := by decide +kernel
theorem dX11_list_7 : decode cX11_list 7 = .ok (.astore_n 1, 1) := by decide +kernel
theorem dX11_list_8 : decode cX11_list 8 = .ok (.aload_n 1, 1) := by decide +kernel
theorem dX11_list_9 : decode cX11_list 9 = .ok (.iconst 1, 1) := by decide +kernel
theorem dX11_list_10 : decode cX11_list 10 = .ok (.iconst 0, 1) := by decide +kernel
theorem dX11_list_11 : decode cX11_list 11 = .ok (.invokevirtual 59, 3) := by decide +kernel
theorem dX11_list_14 : decode cX11_list 14 = .ok (.aload_n 0, 1) := by decide +kernel
theorem dX11_list_15 : decode cX11_list 15 = .ok (.new 27, 3) := by decide +kernel
theorem dX11_list_18 : decode cX11_list 18 = .ok (.dup, 1) := by decide +kernel
theorem dX11_list_19 : decode cX11_list 19 = .ok (.iconst 1, 1) := by decide +kernel
theorem dX11_list_20 : decode cX11_list 20 = .ok (.aconst_null, 1) := by decide +kernel
theorem dX11_list_21 : decode cX11_list 21 = .ok (.aconst_null, 1) := by decide +kernel
theorem dX11_list_22 : decode cX11_list 22 = .ok (.aconst_null, 1) := by decide +kernel
theorem dX11_list_23 : decode cX11_list 23 = .ok (.aload_n 1, 1) := by decide +kernel
theorem dX11_list_24 : decode cX11_list 24 = .ok (.iconst 0, 1) := by decide +kernel
theorem dX11_list_25 : decode cX11_list 25 = .ok (.lconst 0, 1) := by decide +kernel
theorem dX11_list_26 : decode cX11_list 26 = .ok (.invokespecial 144, 3) := by decide +kernel
theorem dX11_list_29 : decode cX11_list 29 = .ok (.invokevirtual 140, 3) := by decide +kernel
theorem dX11_list_32 : decode cX11_list 32 = .ok (.ireturn, 1) := by decide +kernel
theorem dX11_add_0 : decode cX11_add 0 = .ok (.aload_n 0, 1) := by decide +kernel
theorem dX11_add_1 : decode cX11_add 1 = .ok (.iload_n 1, 1) := by decide +kernel
theorem dX11_add_2 : decode cX11_add 2 = .ok (.invokevirtual 147, 3) := by decide +kernel
theorem dX11_add_5 : decode cX11_add 5 = .ok (.astore 4, 2) := by decide +kernel
theorem dX11_add_7 : decode cX11_add 7 = .ok (.aload 4, 2) := by decide +kernel
theorem dX11_add_9 : decode cX11_add 9 = .ok (.ifnull 20, 3) := by decide +kernel
theorem dX11_add_12 : decode cX11_add 12 = .ok (.aload 4, 2) := by decide +kernel
theorem dX11_add_14 : decode cX11_add 14 = .ok (.getfield 151, 3) := by decide +kernel
theorem dX11_add_17 : decode cX11_add 17 = .ok (.iconst 1, 1) := by decide +kernel
theorem dX11_add_18 : decode cX11_add 18 = .ok (.if_icmp .ne 11, 3) := by decide +kernel
theorem dX11_add_21 : decode cX11_add 21 = .ok (.aload 4, 2) := by decide +kernel
theorem dX11_add_23 : decode cX11_add 23 = .ok (.getfield 154, 3) := by decide +kernel
theorem dX11_add_26 : decode cX11_add 26 = .ok (.ifnonnull 5, 3) := by decide +kernel
theorem dX11_add_29 : decode cX11_add 29 = .ok (.iconst (-1), 1) := by decide +kernel
theorem dX11_add_30 : decode cX11_add 30 = .ok (.ireturn, 1) := by decide +kernel
theorem dX11_add_31 : decode cX11_add 31 = .ok (.aload 4, 2) := by decide +kernel
theorem dX11_add_33 : decode cX11_add 33 = .ok (.getfield 154, 3) := by decide +kernel
theorem dX11_add_36 : decode cX11_add 36 = .ok (.lload_n 2, 1) := by decide +kernel
theorem dX11_add_37 : decode cX11_add 37 = .ok (.invokevirtual 158, 3) := by decide +kernel
theorem dX11_add_40 : decode cX11_add 40 = .ok (.ifCond .eq 14, 3) := by decide +kernel
theorem dX11_add_43 : decode cX11_add 43 = .ok (.aload 4, 2) := by decide +kernel
theorem dX11_add_45 : decode cX11_add 45 = .ok (.getfield 154, 3) := by decide +kernel
theorem dX11_add_48 : decode cX11_add 48 = .ok (.getfield 161, 3) := by decide +kernel
theorem dX11_add_51 : decode cX11_add 51 = .ok (.goto 5, 3) := by decide +kernel
theorem dX11_add_54 : decode cX11_add 54 = .ok (.bipush (-3), 2) := by decide +kernel
theorem dX11_add_56 : decode cX11_add 56 = .ok (.ireturn, 1) := by decide +kernel
theorem dX11_source_0 : decode cX11_source 0 = .ok (.iload_n 1, 1) := by decide +kernel
theorem dX11_source_1 : decode cX11_source 1 = .ok (.iconst 2, 1) := by decide +kernel
theorem dX11_source_2 : decode cX11_source 2 = .ok (.if_icmp .lt 18, 3) := by decide +kernel
theorem dX11_source_5 : decode cX11_source 5 = .ok (.iload_n 1, 1) := by decide +kernel
theorem dX11_source_6 : decode cX11_source 6 = .ok (.bipush 9, 2) := by decide +kernel
theorem dX11_source_8 : decode cX11_source 8 = .ok (.if_icmp .gt 12, 3) := by decide +kernel
theorem dX11_source_11 : decode cX11_source 11 = .ok (.iload_n 1, 1) := by decide +kernel
theorem dX11_source_12 : decode cX11_source 12 = .ok (.iload 5, 2) := by decide +kernel
theorem dX11_source_14 : decode cX11_source 14 = .ok (.invokestatic 164, 3) := by decide +kernel
theorem dX11_source_17 : decode cX11_source 17 = .ok (.ifCond .ne 6, 3) := by decide +kernel
theorem dX11_source_20 : decode cX11_source 20 = .ok (.bipush (-2), 2) := by decide +kernel
theorem dX11_source_22 : decode cX11_source 22 = .ok (.ireturn, 1) := by decide +kernel
theorem dX11_source_23 : decode cX11_source 23 = .ok (.iload_n 1, 1) := by decide +kernel
theorem dX11_source_24 : decode cX11_source 24 = .ok (.bipush 9, 2) := by decide +kernel
theorem dX11_source_26 : decode cX11_source 26 = .ok (.if_icmp .ne 10, 3) := by decide +kernel
theorem dX11_source_29 : decode cX11_source 29 = .ok (.aload_n 0, 1) := by decide +kernel
theorem dX11_source_30 : decode cX11_source 30 = .ok (.iload 4, 2) := by decide +kernel
theorem dX11_source_32 : decode cX11_source 32 = .ok (.invokevirtual 168, 3) := by decide +kernel
theorem dX11_source_35 : decode cX11_source 35 = .ok (.ireturn, 1) := by decide +kernel
theorem dX11_source_36 : decode cX11_source 36 = .ok (.aload_n 0, 1) := by decide +kernel
theorem dX11_source_37 : decode cX11_source 37 = .ok (.iload_n 2, 1) := by decide +kernel
theorem dX11_source_38 : decode cX11_source 38 = .ok (.invokevirtual 147, 3) := by decide +kernel
theorem dX11_source_41 : decode cX11_source 41 = .ok (.astore 8, 2) := by decide +kernel
theorem dX11_source_43 : decode cX11_source 43 = .ok (.iload_n 1, 1) := by decide +kernel
theorem dX11_source_44 : decode cX11_source 44 = .ok (.iconst 4, 1) := by decide +kernel
theorem dX11_source_45 : decode cX11_source 45 = .ok (.if_icmp .gt 11, 3) := by decide +kernel
theorem dX11_source_48 : decode cX11_source 48 = .ok (.aload_n 0, 1) := by decide +kernel
theorem dX11_source_49 : decode cX11_source 49 = .ok (.iload_n 3, 1) := by decide +kernel
theorem dX11_source_50 : decode cX11_source 50 = .ok (.invokevirtual 147, 3) := by decide +kernel
theorem dX11_source_53 : decode cX11_source 53 = .ok (.goto 4, 3) := by decide +kernel
theorem dX11_source_56 : decode cX11_source 56 = .ok (.aconst_null, 1) := by decide +kernel
theorem dX11_source_57 : decode cX11_source 57 = .ok (.astore 9, 2) := by decide +kernel
theorem dX11_source_59 : decode cX11_source 59 = .ok (.iload_n 1, 1) := by decide +kernel
theorem dX11_source_60 : decode cX11_source 60 = .ok (.bipush 7, 2) := by decide +kernel
theorem dX11_source_62 : decode cX11_source 62 = .ok (.if_icmp .ne 12, 3) := by decide +kernel
theorem dX11_source_65 : decode cX11_source 65 = .ok (.aload_n 0, 1) := by decide +kernel
theorem dX11_source_66 : decode cX11_source 66 = .ok (.iload 4, 2) := by decide +kernel
theorem dX11_source_68 : decode cX11_source 68 = .ok (.invokevirtual 108, 3) := by decide +kernel
theorem dX11_source_71 : decode cX11_source 71 = .ok (.goto 4, 3) := by decide +kernel
theorem dX11_source_74 : decode cX11_source 74 = .ok (.aconst_null, 1) := by decide +kernel
theorem dX11_source_75 : decode cX11_source 75 = .ok (.astore 10, 2) := by decide +kernel
theorem dX11_source_77 : decode cX11_source 77 = .ok (.iload_n 1, 1) := by decide +kernel
theorem dX11_source_78 : decode cX11_source 78 = .ok (.iconst 4, 1) := by decide +kernel
theorem dX11_source_79 : decode cX11_source 79 = .ok (.if_icmp .gt 12, 3) := by decide +kernel
theorem dX11_source_82 : decode cX11_source 82 = .ok (.aload 9, 2) := by decide +kernel
theorem dX11_source_84 : decode cX11_source 84 = .ok (.ifnonnull 7, 3) := by decide +kernel
theorem dX11_source_87 : decode cX11_source 87 = .ok (.iconst 1, 1) := by decide +kernel
theorem dX11_source_88 : decode cX11_source 88 = .ok (.goto 4, 3) := by decide +kernel
theorem dX11_source_91 : decode cX11_source 91 = .ok (.iconst 0, 1) := by decide +kernel
theorem dX11_source_92 : decode cX11_source 92 = .ok (.istore 11, 2) := by decide +kernel
theorem dX11_source_94 : decode cX11_source 94 = .ok (.iload_n 1, 1) := by decide +kernel
theorem dX11_source_95 : decode cX11_source 95 = .ok (.bipush 7, 2) := by decide +kernel
theorem dX11_source_97 : decode cX11_source 97 = .ok (.if_icmp .ne 12, 3) := by decide +kernel
theorem dX11_source_100 : decode cX11_source 100 = .ok (.aload 10, 2) := by decide +kernel
theorem dX11_source_102 : decode cX11_source 102 = .ok (.ifnonnull 7, 3) := by decide +kernel
theorem dX11_source_105 : decode cX11_source 105 = .ok (.iconst 1, 1) := by decide +kernel
theorem dX11_source_106 : decode cX11_source 106 = .ok (.goto 4, 3) := by decide +kernel
theorem dX11_source_109 : decode cX11_source 109 = .ok (.iconst 0, 1) := by decide +kernel
theorem dX11_source_110 : decode cX11_source 110 = .ok (.istore 12, 2) := by decide +kernel
theorem dX11_source_112 : decode cX11_source 112 = .ok (.aload 8, 2) := by decide +kernel
theorem dX11_source_114 : decode cX11_source 114 = .ok (.ifnull 13, 3) := by decide +kernel
theorem dX11_source_117 : decode cX11_source 117 = .ok (.iload 11, 2) := by decide +kernel
theorem dX11_source_119 : decode cX11_source 119 = .ok (.ifCond .ne 8, 3) := by decide +kernel
theorem dX11_source_122 : decode cX11_source 122 = .ok (.iload 12, 2) := by decide +kernel
theorem dX11_source_124 : decode cX11_source 124 = .ok (.ifCond .eq 5, 3) := by decide +kernel
theorem dX11_source_127 : decode cX11_source 127 = .ok (.iconst (-1), 1) := by decide +kernel
theorem dX11_source_128 : decode cX11_source 128 = .ok (.ireturn, 1) := by decide +kernel
theorem dX11_source_129 : decode cX11_source 129 = .ok (.aload_n 0, 1) := by decide +kernel
theorem dX11_source_130 : decode cX11_source 130 = .ok (.new 27, 3) := by decide +kernel
theorem dX11_source_133 : decode cX11_source 133 = .ok (.dup, 1) := by decide +kernel
theorem dX11_source_134 : decode cX11_source 134 = .ok (.iload_n 1, 1) := by decide +kernel
theorem dX11_source_135 : decode cX11_source 135 = .ok (.aload 8, 2) := by decide +kernel
theorem dX11_source_137 : decode cX11_source 137 = .ok (.aload 9, 2) := by decide +kernel
theorem dX11_source_139 : decode cX11_source 139 = .ok (.aload 10, 2) := by decide +kernel
theorem dX11_source_141 : decode cX11_source 141 = .ok (.aconst_null, 1) := by decide +kernel
theorem dX11_source_142 : decode cX11_source 142 = .ok (.iload 5, 2) := by decide +kernel
theorem dX11_source_144 : decode cX11_source 144 = .ok (.lload 6, 2) := by decide +kernel
theorem dX11_source_146 : decode cX11_source 146 = .ok (.invokespecial 144, 3) := by decide +kernel
theorem dX11_source_149 : decode cX11_source 149 = .ok (.invokevirtual 140, 3) := by decide +kernel
theorem dX11_source_152 : decode cX11_source 152 = .ok (.ireturn, 1) := by decide +kernel
theorem dX11_range_0 : decode cX11_range 0 = .ok (.aload_n 0, 1) := by decide +kernel
theorem dX11_range_1 : decode cX11_range 1 = .ok (.iload_n 1, 1) := by decide +kernel
theorem dX11_range_2 : decode cX11_range 2 = .ok (.invokevirtual 147, 3) := by decide +kernel
theorem dX11_range_5 : decode cX11_range 5 = .ok (.astore_n 2, 1) := by decide +kernel
theorem dX11_range_6 : decode cX11_range 6 = .ok (.aload_n 2, 1) := by decide +kernel
theorem dX11_range_7 : decode cX11_range 7 = .ok (.ifnonnull 5, 3) := by decide +kernel
theorem dX11_range_10 : decode cX11_range 10 = .ok (.iconst (-1), 1) := by decide +kernel
theorem dX11_range_11 : decode cX11_range 11 = .ok (.ireturn, 1) := by decide +kernel
theorem dX11_range_12 : decode cX11_range 12 = .ok (.aload_n 0, 1) := by decide +kernel
theorem dX11_range_13 : decode cX11_range 13 = .ok (.getfield 36, 3) := by decide +kernel
theorem dX11_range_16 : decode cX11_range 16 = .ok (.invokevirtual 172, 3) := by decide +kernel
theorem dX11_range_19 : decode cX11_range 19 = .ok (.aload_n 2, 1) := by decide +kernel
theorem dX11_range_20 : decode cX11_range 20 = .ok (.getfield 175, 3) := by decide +kernel
theorem dX11_range_23 : decode cX11_range 23 = .ok (.ifnull 16, 3) := by decide +kernel
theorem dX11_range_26 : decode cX11_range 26 = .ok (.aload_n 0, 1) := by decide +kernel
theorem dX11_range_27 : decode cX11_range 27 = .ok (.getfield 43, 3) := by decide +kernel
theorem dX11_range_30 : decode cX11_range 30 = .ok (.aload_n 2, 1) := by decide +kernel
theorem dX11_range_31 : decode cX11_range 31 = .ok (.getfield 175, 3) := by decide +kernel
theorem dX11_range_34 : decode cX11_range 34 = .ok (.invokevirtual 179, 3) := by decide +kernel
theorem dX11_range_37 : decode cX11_range 37 = .ok (.iconst 1, 1) := by decide +kernel
theorem dX11_range_38 : decode cX11_range 38 = .ok (.ireturn, 1) := by decide +kernel
theorem dX11_range_39 : decode cX11_range 39 = .ok (.aload_n 2, 1) := by decide +kernel
theorem dX11_range_40 : decode cX11_range 40 = .ok (.aload_n 0, 1) := by decide +kernel
theorem dX11_range_41 : decode cX11_range 41 = .ok (.getfield 47, 3) := by decide +kernel
theorem dX11_range_44 : decode cX11_range 44 = .ok (.iconst 0, 1) := by decide +kernel
theorem dX11_range_45 : decode cX11_range 45 = .ok (.aload_n 0, 1) := by decide +kernel
theorem dX11_range_46 : decode cX11_range 46 = .ok (.getfield 36, 3) := by decide +kernel
theorem dX11_range_49 : decode cX11_range 49 = .ok (.invokevirtual 182, 3) := by decide +kernel
theorem dX11_range_52 : decode cX11_range 52 = .ok (.istore_n 3, 1) := by decide +kernel
theorem dX11_range_53 : decode cX11_range 53 = .ok (.iload_n 3, 1) := by decide +kernel
theorem dX11_range_54 : decode cX11_range 54 = .ok (.ifCond .ge 5, 3) := by decide +kernel
theorem dX11_range_57 : decode cX11_range 57 = .ok (.iload_n 3, 1) := by decide +kernel
theorem dX11_range_58 : decode cX11_range 58 = .ok (.ireturn, 1) := by decide +kernel
theorem dX11_range_59 : decode cX11_range 59 = .ok (.aload_n 0, 1) := by decide +kernel
theorem dX11_range_60 : decode cX11_range 60 = .ok (.getfield 43, 3) := by decide +kernel
theorem dX11_range_63 : decode cX11_range 63 = .ok (.aload_n 0, 1) := by decide +kernel
theorem dX11_range_64 : decode cX11_range 64 = .ok (.getfield 47, 3) := by decide +kernel
theorem dX11_range_67 : decode cX11_range 67 = .ok (.iload_n 3, 1) := by decide +kernel
theorem dX11_range_68 : decode cX11_range 68 = .ok (.invokevirtual 186, 3) := by decide +kernel
theorem dX11_range_71 : decode cX11_range 71 = .ok (.iconst 1, 1) := by decide +kernel
theorem dX11_range_72 : decode cX11_range 72 = .ok (.ireturn, 1) := by decide +kernel
theorem dX11_size_0 : decode cX11_size 0 = .ok (.aload_n 0, 1) := by decide +kernel
theorem dX11_size_1 : decode cX11_size 1 = .ok (.getfield 43, 3) := by decide +kernel
theorem dX11_size_4 : decode cX11_size 4 = .ok (.invokevirtual 190, 3) := by decide +kernel
theorem dX11_size_7 : decode cX11_size 7 = .ok (.lreturn, 1) := by decide +kernel
theorem dX11_at_0 : decode cX11_at 0 = .ok (.lload_n 1, 1) := by decide +kernel
theorem dX11_at_1 : decode cX11_at 1 = .ok (.lconst 0, 1) := by decide +kernel
theorem dX11_at_2 : decode cX11_at 2 = .ok (.lcmp, 1) := by decide +kernel
theorem dX11_at_3 : decode cX11_at 3 = .ok (.ifCond .lt 15, 3) := by decide +kernel
theorem dX11_at_6 : decode cX11_at 6 = .ok (.lload_n 1, 1) := by decide +kernel
theorem dX11_at_7 : decode cX11_at 7 = .ok (.aload_n 0, 1) := by decide +kernel
theorem dX11_at_8 : decode cX11_at 8 = .ok (.getfield 43, 3) := by decide +kernel
theorem dX11_at_11 : decode cX11_at 11 = .ok (.invokevirtual 190, 3) := by decide +kernel
theorem dX11_at_14 : decode cX11_at 14 = .ok (.lcmp, 1) := by decide +kernel
theorem dX11_at_15 : decode cX11_at 15 = .ok (.ifCond .lt 13, 3) := by decide +kernel
theorem dX11_at_18 : decode cX11_at 18 = .ok (.new 194, 3) := by decide +kernel
theorem dX11_at_21 : decode cX11_at 21 = .ok (.dup, 1) := by decide +kernel
theorem dX11_at_22 : decode cX11_at 22 = .ok (.ldc 196, 2) := by decide +kernel
theorem dX11_at_24 : decode cX11_at 24 = .ok (.invokespecial 198, 3) := by decide +kernel
theorem dX11_at_27 : decode cX11_at 27 = .ok (.athrow, 1) := by decide +kernel
theorem dX11_at_28 : decode cX11_at 28 = .ok (.aload_n 0, 1) := by decide +kernel
theorem dX11_at_29 : decode cX11_at 29 = .ok (.getfield 43, 3) := by decide +kernel
theorem dX11_at_32 : decode cX11_at 32 = .ok (.lload_n 1, 1) := by decide +kernel
theorem dX11_at_33 : decode cX11_at 33 = .ok (.invokevirtual 201, 3) := by decide +kernel
theorem dX11_at_36 : decode cX11_at 36 = .ok (.lreturn, 1) := by decide +kernel
theorem dX11_place_0 : decode cX11_place 0 = .ok (.aload_n 0, 1) := by decide +kernel
theorem dX11_place_1 : decode cX11_place 1 = .ok (.getfield 43, 3) := by decide +kernel
theorem dX11_place_4 : decode cX11_place 4 = .ok (.lload_n 1, 1) := by decide +kernel
theorem dX11_place_5 : decode cX11_place 5 = .ok (.invokevirtual 205, 3) := by decide +kernel
theorem dX11_place_8 : decode cX11_place 8 = .ok (.lreturn, 1) := by decide +kernel
theorem dX11_draw_0 : decode cX11_draw 0 = .ok (.aload_n 0, 1) := by decide +kernel
theorem dX11_draw_1 : decode cX11_draw 1 = .ok (.getfield 43, 3) := by decide +kernel
theorem dX11_draw_4 : decode cX11_draw 4 = .ok (.invokevirtual 190, 3) := by decide +kernel
theorem dX11_draw_7 : decode cX11_draw 7 = .ok (.lstore_n 3, 1) := by decide +kernel
theorem dX11_draw_8 : decode cX11_draw 8 = .ok (.lload_n 3, 1) := by decide +kernel
theorem dX11_draw_9 : decode cX11_draw 9 = .ok (.lconst 0, 1) := by decide +kernel
theorem dX11_draw_10 : decode cX11_draw 10 = .ok (.lcmp, 1) := by decide +kernel
theorem dX11_draw_11 : decode cX11_draw 11 = .ok (.ifCond .gt 13, 3) := by decide +kernel
theorem dX11_draw_14 : decode cX11_draw 14 = .ok (.new 194, 3) := by decide +kernel
theorem dX11_draw_17 : decode cX11_draw 17 = .ok (.dup, 1) := by decide +kernel
theorem dX11_draw_18 : decode cX11_draw 18 = .ok (.ldc 208, 2) := by decide +kernel
theorem dX11_draw_20 : decode cX11_draw 20 = .ok (.invokespecial 198, 3) := by decide +kernel
theorem dX11_draw_23 : decode cX11_draw 23 = .ok (.athrow, 1) := by decide +kernel
theorem dX11_draw_24 : decode cX11_draw 24 = .ok (.aload_n 0, 1) := by decide +kernel
theorem dX11_draw_25 : decode cX11_draw 25 = .ok (.getfield 43, 3) := by decide +kernel
theorem dX11_draw_28 : decode cX11_draw 28 = .ok (.lload_n 1, 1) := by decide +kernel
theorem dX11_draw_29 : decode cX11_draw 29 = .ok (.lload_n 3, 1) := by decide +kernel
theorem dX11_draw_30 : decode cX11_draw 30 = .ok (.invokestatic 210, 3) := by decide +kernel
theorem dX11_draw_33 : decode cX11_draw 33 = .ok (.invokevirtual 201, 3) := by decide +kernel
theorem dX11_draw_36 : decode cX11_draw 36 = .ok (.lreturn, 1) := by decide +kernel
theorem dX11_barred_0 : decode cX11_barred 0 = .ok (.aload_n 0, 1) := by decide +kernel
theorem dX11_barred_1 : decode cX11_barred 1 = .ok (.getfield 36, 3) := by decide +kernel
theorem dX11_barred_4 : decode cX11_barred 4 = .ok (.getfield 213, 3) := by decide +kernel
theorem dX11_barred_7 : decode cX11_barred 7 = .ok (.ireturn, 1) := by decide +kernel
theorem dX11_bar_0 : decode cX11_bar 0 = .ok (.aload_n 0, 1) := by decide +kernel
theorem dX11_bar_1 : decode cX11_bar 1 = .ok (.getfield 36, 3) := by decide +kernel
theorem dX11_bar_4 : decode cX11_bar 4 = .ok (.iload_n 1, 1) := by decide +kernel
theorem dX11_bar_5 : decode cX11_bar 5 = .ok (.invokevirtual 216, 3) := by decide +kernel
theorem dX11_bar_8 : decode cX11_bar 8 = .ok (.ifCond .ne 5, 3) := by decide +kernel
theorem dX11_bar_11 : decode cX11_bar 11 = .ok (.iconst (-1), 1) := by decide +kernel
theorem dX11_bar_12 : decode cX11_bar 12 = .ok (.ireturn, 1) := by decide +kernel
theorem dX11_bar_13 : decode cX11_bar 13 = .ok (.iload_n 2, 1) := by decide +kernel
theorem dX11_bar_14 : decode cX11_bar 14 = .ok (.lookupswitch 46 #[(0, 26), (1, 36)], 26) := by decide +kernel
theorem dX11_bar_40 : decode cX11_bar 40 = .ok (.aload_n 0, 1) := by decide +kernel
theorem dX11_bar_41 : decode cX11_bar 41 = .ok (.getfield 36, 3) := by decide +kernel
theorem dX11_bar_44 : decode cX11_bar 44 = .ok (.getfield 220, 3) := by decide +kernel
theorem dX11_bar_47 : decode cX11_bar 47 = .ok (.iload_n 1, 1) := by decide +kernel
theorem dX11_bar_48 : decode cX11_bar 48 = .ok (.iaload, 1) := by decide +kernel
theorem dX11_bar_49 : decode cX11_bar 49 = .ok (.ireturn, 1) := by decide +kernel
theorem dX11_bar_50 : decode cX11_bar 50 = .ok (.aload_n 0, 1) := by decide +kernel
theorem dX11_bar_51 : decode cX11_bar 51 = .ok (.getfield 36, 3) := by decide +kernel
theorem dX11_bar_54 : decode cX11_bar 54 = .ok (.getfield 223, 3) := by decide +kernel
theorem dX11_bar_57 : decode cX11_bar 57 = .ok (.iload_n 1, 1) := by decide +kernel
theorem dX11_bar_58 : decode cX11_bar 58 = .ok (.iaload, 1) := by decide +kernel
theorem dX11_bar_59 : decode cX11_bar 59 = .ok (.ireturn, 1) := by decide +kernel
theorem dX11_bar_60 : decode cX11_bar 60 = .ok (.bipush (-2), 2) := by decide +kernel
theorem dX11_bar_62 : decode cX11_bar 62 = .ok (.ireturn, 1) := by decide +kernel
theorem dX11_barredAt_0 : decode cX11_barredAt 0 = .ok (.aload_n 0, 1) := by decide +kernel
theorem dX11_barredAt_1 : decode cX11_barredAt 1 = .ok (.getfield 36, 3) := by decide +kernel
theorem dX11_barredAt_4 : decode cX11_barredAt 4 = .ok (.iload_n 1, 1) := by decide +kernel
theorem dX11_barredAt_5 : decode cX11_barredAt 5 = .ok (.invokevirtual 216, 3) := by decide +kernel
theorem dX11_barredAt_8 : decode cX11_barredAt 8 = .ok (.ifCond .ne 13, 3) := by decide +kernel
theorem dX11_barredAt_11 : decode cX11_barredAt 11 = .ok (.new 194, 3) := by decide +kernel
theorem dX11_barredAt_14 : decode cX11_barredAt 14 = .ok (.dup, 1) := by decide +kernel
theorem dX11_barredAt_15 : decode cX11_barredAt 15 = .ok (.ldc 226, 2) := by decide +kernel
theorem dX11_barredAt_17 : decode cX11_barredAt 17 = .ok (.invokespecial 198, 3) := by decide +kernel
theorem dX11_barredAt_20 : decode cX11_barredAt 20 = .ok (.athrow, 1) := by decide +kernel
theorem dX11_barredAt_21 : decode cX11_barredAt 21 = .ok (.aload_n 0, 1) := by decide +kernel
theorem dX11_barredAt_22 : decode cX11_barredAt 22 = .ok (.getfield 36, 3) := by decide +kernel
theorem dX11_barredAt_25 : decode cX11_barredAt 25 = .ok (.getfield 228, 3) := by decide +kernel
theorem dX11_barredAt_28 : decode cX11_barredAt 28 = .ok (.iload_n 1, 1) := by decide +kernel
theorem dX11_barredAt_29 : decode cX11_barredAt 29 = .ok (.laload, 1) := by decide +kernel
theorem dX11_barredAt_30 : decode cX11_barredAt 30 = .ok (.lreturn, 1) := by decide +kernel
theorem dX11_distance_0 : decode cX11_distance 0 = .ok (.lload_n 1, 1) := by decide +kernel
theorem dX11_distance_1 : decode cX11_distance 1 = .ok (.lload_n 3, 1) := by decide +kernel
theorem dX11_distance_2 : decode cX11_distance 2 = .ok (.invokestatic 231, 3) := by decide +kernel
theorem dX11_distance_5 : decode cX11_distance 5 = .ok (.lreturn, 1) := by decide +kernel
theorem dX11_told_0 : decode cX11_told 0 = .ok (.iload_n 1, 1) := by decide +kernel
theorem dX11_told_1 : decode cX11_told 1 = .ok (.tableswitch 65 0 3 #[31, 36, 41, 49], 31) := by decide +kernel
theorem dX11_told_32 : decode cX11_told 32 = .ok (.aload_n 0, 1) := by decide +kernel
theorem dX11_told_33 : decode cX11_told 33 = .ok (.getfield 97, 3) := by decide +kernel
theorem dX11_told_36 : decode cX11_told 36 = .ok (.ireturn, 1) := by decide +kernel
theorem dX11_told_37 : decode cX11_told 37 = .ok (.aload_n 0, 1) := by decide +kernel
theorem dX11_told_38 : decode cX11_told 38 = .ok (.getfield 234, 3) := by decide +kernel
theorem dX11_told_41 : decode cX11_told 41 = .ok (.ireturn, 1) := by decide +kernel
theorem dX11_told_42 : decode cX11_told 42 = .ok (.aload_n 0, 1) := by decide +kernel
theorem dX11_told_43 : decode cX11_told 43 = .ok (.getfield 36, 3) := by decide +kernel
theorem dX11_told_46 : decode cX11_told 46 = .ok (.getfield 237, 3) := by decide +kernel
theorem dX11_told_49 : decode cX11_told 49 = .ok (.ireturn, 1) := by decide +kernel
theorem dX11_told_50 : decode cX11_told 50 = .ok (.aload_n 0, 1) := by decide +kernel
theorem dX11_told_51 : decode cX11_told 51 = .ok (.getfield 43, 3) := by decide +kernel
theorem dX11_told_54 : decode cX11_told 54 = .ok (.getfield 240, 3) := by decide +kernel
theorem dX11_told_57 : decode cX11_told 57 = .ok (.ifnonnull 7, 3) := by decide +kernel
theorem dX11_told_60 : decode cX11_told 60 = .ok (.iconst 0, 1) := by decide +kernel
theorem dX11_told_61 : decode cX11_told 61 = .ok (.goto 4, 3) := by decide +kernel
theorem dX11_told_64 : decode cX11_told 64 = .ok (.iconst 1, 1) := by decide +kernel
theorem dX11_told_65 : decode cX11_told 65 = .ok (.ireturn, 1) := by decide +kernel
theorem dX11_told_66 : decode cX11_told 66 = .ok (.bipush (-2), 2) := by decide +kernel
theorem dX11_told_68 : decode cX11_told 68 = .ok (.ireturn, 1) := by decide +kernel
theorem dX11_shelfAt_0 : decode cX11_shelfAt 0 = .ok (.iload_n 1, 1) := by decide +kernel
theorem dX11_shelfAt_1 : decode cX11_shelfAt 1 = .ok (.ifCond .lt 9, 3) := by decide +kernel
theorem dX11_shelfAt_4 : decode cX11_shelfAt 4 = .ok (.iload_n 1, 1) := by decide +kernel
theorem dX11_shelfAt_5 : decode cX11_shelfAt 5 = .ok (.bipush 6, 2) := by decide +kernel
theorem dX11_shelfAt_7 : decode cX11_shelfAt 7 = .ok (.if_icmp .lt 7, 3) := by decide +kernel
theorem dX11_shelfAt_10 : decode cX11_shelfAt 10 = .ok (.aconst_null, 1) := by decide +kernel
theorem dX11_shelfAt_11 : decode cX11_shelfAt 11 = .ok (.goto 9, 3) := by decide +kernel
theorem dX11_shelfAt_14 : decode cX11_shelfAt 14 = .ok (.aload_n 0, 1) := by decide +kernel
theorem dX11_shelfAt_15 : decode cX11_shelfAt 15 = .ok (.getfield 11, 3) := by decide +kernel
theorem dX11_shelfAt_18 : decode cX11_shelfAt 18 = .ok (.iload_n 1, 1) := by decide +kernel
theorem dX11_shelfAt_19 : decode cX11_shelfAt 19 = .ok (.aaload, 1) := by decide +kernel
theorem dX11_shelfAt_20 : decode cX11_shelfAt 20 = .ok (.areturn, 1) := by decide +kernel
theorem dX11_boxAt_0 : decode cX11_boxAt 0 = .ok (.iload_n 1, 1) := by decide +kernel
theorem dX11_boxAt_1 : decode cX11_boxAt 1 = .ok (.ifCond .lt 8, 3) := by decide +kernel
theorem dX11_boxAt_4 : decode cX11_boxAt 4 = .ok (.iload_n 1, 1) := by decide +kernel
theorem dX11_boxAt_5 : decode cX11_boxAt 5 = .ok (.iconst 3, 1) := by decide +kernel
theorem dX11_boxAt_6 : decode cX11_boxAt 6 = .ok (.if_icmp .lt 7, 3) := by decide +kernel
theorem dX11_boxAt_9 : decode cX11_boxAt 9 = .ok (.aconst_null, 1) := by decide +kernel
theorem dX11_boxAt_10 : decode cX11_boxAt 10 = .ok (.goto 9, 3) := by decide +kernel
theorem dX11_boxAt_13 : decode cX11_boxAt 13 = .ok (.aload_n 0, 1) := by decide +kernel
theorem dX11_boxAt_14 : decode cX11_boxAt 14 = .ok (.getfield 17, 3) := by decide +kernel
theorem dX11_boxAt_17 : decode cX11_boxAt 17 = .ok (.iload_n 1, 1) := by decide +kernel
theorem dX11_boxAt_18 : decode cX11_boxAt 18 = .ok (.aaload, 1) := by decide +kernel
theorem dX11_boxAt_19 : decode cX11_boxAt 19 = .ok (.areturn, 1) := by decide +kernel
theorem dX11_filterAt_0 : decode cX11_filterAt 0 = .ok (.iload_n 1, 1) := by decide +kernel
theorem dX11_filterAt_1 : decode cX11_filterAt 1 = .ok (.ifCond .lt 11, 3) := by decide +kernel
theorem dX11_filterAt_4 : decode cX11_filterAt 4 = .ok (.iload_n 1, 1) := by decide +kernel
theorem dX11_filterAt_5 : decode cX11_filterAt 5 = .ok (.aload_n 0, 1) := by decide +kernel
theorem dX11_filterAt_6 : decode cX11_filterAt 6 = .ok (.getfield 97, 3) := by decide +kernel
theorem dX11_filterAt_9 : decode cX11_filterAt 9 = .ok (.if_icmp .lt 7, 3) := by decide +kernel
theorem dX11_filterAt_12 : decode cX11_filterAt 12 = .ok (.aconst_null, 1) := by decide +kernel
theorem dX11_filterAt_13 : decode cX11_filterAt 13 = .ok (.goto 9, 3) := by decide +kernel
theorem dX11_filterAt_16 : decode cX11_filterAt 16 = .ok (.aload_n 0, 1) := by decide +kernel
theorem dX11_filterAt_17 : decode cX11_filterAt 17 = .ok (.getfield 23, 3) := by decide +kernel
theorem dX11_filterAt_20 : decode cX11_filterAt 20 = .ok (.iload_n 1, 1) := by decide +kernel
theorem dX11_filterAt_21 : decode cX11_filterAt 21 = .ok (.aaload, 1) := by decide +kernel
theorem dX11_filterAt_22 : decode cX11_filterAt 22 = .ok (.areturn, 1) := by decide +kernel
theorem dX11_sourceAt_0 : decode cX11_sourceAt 0 = .ok (.iload_n 1, 1) := by decide +kernel
theorem dX11_sourceAt_1 : decode cX11_sourceAt 1 = .ok (.ifCond .lt 11, 3) := by decide +kernel
theorem dX11_sourceAt_4 : decode cX11_sourceAt 4 = .ok (.iload_n 1, 1) := by decide +kernel
theorem dX11_sourceAt_5 : decode cX11_sourceAt 5 = .ok (.aload_n 0, 1) := by decide +kernel
theorem dX11_sourceAt_6 : decode cX11_sourceAt 6 = .ok (.getfield 234, 3) := by decide +kernel
theorem dX11_sourceAt_9 : decode cX11_sourceAt 9 = .ok (.if_icmp .lt 7, 3) := by decide +kernel
theorem dX11_sourceAt_12 : decode cX11_sourceAt 12 = .ok (.aconst_null, 1) := by decide +kernel
theorem dX11_sourceAt_13 : decode cX11_sourceAt 13 = .ok (.goto 9, 3) := by decide +kernel
theorem dX11_sourceAt_16 : decode cX11_sourceAt 16 = .ok (.aload_n 0, 1) := by decide +kernel
theorem dX11_sourceAt_17 : decode cX11_sourceAt 17 = .ok (.getfield 29, 3) := by decide +kernel
theorem dX11_sourceAt_20 : decode cX11_sourceAt 20 = .ok (.iload_n 1, 1) := by decide +kernel
theorem dX11_sourceAt_21 : decode cX11_sourceAt 21 = .ok (.aaload, 1) := by decide +kernel
theorem dX11_sourceAt_22 : decode cX11_sourceAt 22 = .ok (.areturn, 1) := by decide +kernel
theorem dX11_filterOfFilters_0 : decode cX11_filterOfFilters 0 = .ok (.iload_n 1, 1) := by decide +kernel
theorem dX11_filterOfFilters_1 : decode cX11_filterOfFilters 1 = .ok (.bipush 8, 2) := by decide +kernel
theorem dX11_filterOfFilters_3 : decode cX11_filterOfFilters 3 = .ok (.if_icmp .eq 15, 3) := by decide +kernel
theorem dX11_filterOfFilters_6 : decode cX11_filterOfFilters 6 = .ok (.iload_n 1, 1) := by decide +kernel
theorem dX11_filterOfFilters_7 : decode cX11_filterOfFilters 7 = .ok (.bipush 9, 2) := by decide +kernel
theorem dX11_filterOfFilters_9 : decode cX11_filterOfFilters 9 = .ok (.if_icmp .eq 9, 3) := by decide +kernel
theorem dX11_filterOfFilters_12 : decode cX11_filterOfFilters 12 = .ok (.iload_n 1, 1) := by decide +kernel
theorem dX11_filterOfFilters_13 : decode cX11_filterOfFilters 13 = .ok (.bipush 10, 2) := by decide +kernel
theorem dX11_filterOfFilters_15 : decode cX11_filterOfFilters 15 = .ok (.if_icmp .ne 7, 3) := by decide +kernel
theorem dX11_filterOfFilters_18 : decode cX11_filterOfFilters 18 = .ok (.iconst 1, 1) := by decide +kernel
theorem dX11_filterOfFilters_19 : decode cX11_filterOfFilters 19 = .ok (.goto 4, 3) := by decide +kernel
theorem dX11_filterOfFilters_22 : decode cX11_filterOfFilters 22 = .ok (.iconst 0, 1) := by decide +kernel
theorem dX11_filterOfFilters_23 : decode cX11_filterOfFilters 23 = .ok (.istore 4, 2) := by decide +kernel
theorem dX11_filterOfFilters_25 : decode cX11_filterOfFilters 25 = .ok (.aload_n 0, 1) := by decide +kernel
theorem dX11_filterOfFilters_26 : decode cX11_filterOfFilters 26 = .ok (.iload_n 2, 1) := by decide +kernel
theorem dX11_filterOfFilters_27 : decode cX11_filterOfFilters 27 = .ok (.invokevirtual 108, 3) := by decide +kernel
theorem dX11_filterOfFilters_30 : decode cX11_filterOfFilters 30 = .ok (.astore 5, 2) := by decide +kernel
theorem dX11_filterOfFilters_32 : decode cX11_filterOfFilters 32 = .ok (.iload 4, 2) := by decide +kernel
theorem dX11_filterOfFilters_34 : decode cX11_filterOfFilters 34 = .ok (.ifCond .eq 11, 3) := by decide +kernel
theorem dX11_filterOfFilters_37 : decode cX11_filterOfFilters 37 = .ok (.aload_n 0, 1) := by decide +kernel
theorem dX11_filterOfFilters_38 : decode cX11_filterOfFilters 38 = .ok (.iload_n 3, 1) := by decide +kernel
theorem dX11_filterOfFilters_39 : decode cX11_filterOfFilters 39 = .ok (.invokevirtual 108, 3) := by decide +kernel
theorem dX11_filterOfFilters_42 : decode cX11_filterOfFilters 42 = .ok (.goto 4, 3) := by decide +kernel
theorem dX11_filterOfFilters_45 : decode cX11_filterOfFilters 45 = .ok (.aconst_null, 1) := by decide +kernel
theorem dX11_filterOfFilters_46 : decode cX11_filterOfFilters 46 = .ok (.astore 6, 2) := by decide +kernel
theorem dX11_filterOfFilters_48 : decode cX11_filterOfFilters 48 = .ok (.aload 5, 2) := by decide +kernel
theorem dX11_filterOfFilters_50 : decode cX11_filterOfFilters 50 = .ok (.ifnull 13, 3) := by decide +kernel
theorem dX11_filterOfFilters_53 : decode cX11_filterOfFilters 53 = .ok (.iload 4, 2) := by decide +kernel
theorem dX11_filterOfFilters_55 : decode cX11_filterOfFilters 55 = .ok (.ifCond .eq 10, 3) := by decide +kernel
theorem dX11_filterOfFilters_58 : decode cX11_filterOfFilters 58 = .ok (.aload 6, 2) := by decide +kernel
theorem dX11_filterOfFilters_60 : decode cX11_filterOfFilters 60 = .ok (.ifnonnull 5, 3) := by decide +kernel
theorem dX11_filterOfFilters_63 : decode cX11_filterOfFilters 63 = .ok (.iconst (-1), 1) := by decide +kernel
theorem dX11_filterOfFilters_64 : decode cX11_filterOfFilters 64 = .ok (.ireturn, 1) := by decide +kernel
theorem dX11_filterOfFilters_65 : decode cX11_filterOfFilters 65 = .ok (.aload_n 0, 1) := by decide +kernel
theorem dX11_filterOfFilters_66 : decode cX11_filterOfFilters 66 = .ok (.new 241, 3) := by decide +kernel
theorem dX11_filterOfFilters_69 : decode cX11_filterOfFilters 69 = .ok (.dup, 1) := by decide +kernel
theorem dX11_filterOfFilters_70 : decode cX11_filterOfFilters 70 = .ok (.aload_n 0, 1) := by decide +kernel
theorem dX11_filterOfFilters_71 : decode cX11_filterOfFilters 71 = .ok (.getfield 97, 3) := by decide +kernel
theorem dX11_filterOfFilters_74 : decode cX11_filterOfFilters 74 = .ok (.iload_n 1, 1) := by decide +kernel
theorem dX11_filterOfFilters_75 : decode cX11_filterOfFilters 75 = .ok (.aload 5, 2) := by decide +kernel
theorem dX11_filterOfFilters_77 : decode cX11_filterOfFilters 77 = .ok (.aload 6, 2) := by decide +kernel
theorem dX11_filterOfFilters_79 : decode cX11_filterOfFilters 79 = .ok (.invokespecial 243, 3) := by decide +kernel
theorem dX11_filterOfFilters_82 : decode cX11_filterOfFilters 82 = .ok (.invokevirtual 104, 3) := by decide +kernel
theorem dX11_filterOfFilters_85 : decode cX11_filterOfFilters 85 = .ok (.ireturn, 1) := by decide +kernel
theorem dX11_filterOfShelf_0 : decode cX11_filterOfShelf 0 = .ok (.aload_n 0, 1) := by decide +kernel
theorem dX11_filterOfShelf_1 : decode cX11_filterOfShelf 1 = .ok (.iload_n 2, 1) := by decide +kernel
theorem dX11_filterOfShelf_2 : decode cX11_filterOfShelf 2 = .ok (.invokevirtual 55, 3) := by decide +kernel
theorem dX11_filterOfShelf_5 : decode cX11_filterOfShelf 5 = .ok (.astore 5, 2) := by decide +kernel
theorem dX11_filterOfShelf_7 : decode cX11_filterOfShelf 7 = .ok (.aload 5, 2) := by decide +kernel
theorem dX11_filterOfShelf_9 : decode cX11_filterOfShelf 9 = .ok (.ifnonnull 6, 3) := by decide +kernel
theorem dX11_filterOfShelf_12 : decode cX11_filterOfShelf 12 = .ok (.bipush (-2), 2) := by decide +kernel
theorem dX11_filterOfShelf_14 : decode cX11_filterOfShelf 14 = .ok (.ireturn, 1) := by decide +kernel
theorem dX11_filterOfShelf_15 : decode cX11_filterOfShelf 15 = .ok (.iload_n 1, 1) := by decide +kernel
theorem dX11_filterOfShelf_16 : decode cX11_filterOfShelf 16 = .ok (.iconst 3, 1) := by decide +kernel
theorem dX11_filterOfShelf_17 : decode cX11_filterOfShelf 17 = .ok (.if_icmp .ne 7, 3) := by decide +kernel
theorem dX11_filterOfShelf_20 : decode cX11_filterOfShelf 20 = .ok (.iconst 1, 1) := by decide +kernel
theorem dX11_filterOfShelf_21 : decode cX11_filterOfShelf 21 = .ok (.goto 4, 3) := by decide +kernel
theorem dX11_filterOfShelf_24 : decode cX11_filterOfShelf 24 = .ok (.iconst 3, 1) := by decide +kernel
theorem dX11_filterOfShelf_25 : decode cX11_filterOfShelf 25 = .ok (.istore 6, 2) := by decide +kernel
theorem dX11_filterOfShelf_27 : decode cX11_filterOfShelf 27 = .ok (.aload_n 0, 1) := by decide +kernel
theorem dX11_filterOfShelf_28 : decode cX11_filterOfShelf 28 = .ok (.new 246, 3) := by decide +kernel
theorem dX11_filterOfShelf_31 : decode cX11_filterOfShelf 31 = .ok (.dup, 1) := by decide +kernel
theorem dX11_filterOfShelf_32 : decode cX11_filterOfShelf 32 = .ok (.aload_n 0, 1) := by decide +kernel
theorem dX11_filterOfShelf_33 : decode cX11_filterOfShelf 33 = .ok (.getfield 97, 3) := by decide +kernel
theorem dX11_filterOfShelf_36 : decode cX11_filterOfShelf 36 = .ok (.aload 5, 2) := by decide +kernel
theorem dX11_filterOfShelf_38 : decode cX11_filterOfShelf 38 = .ok (.iload 6, 2) := by decide +kernel
theorem dX11_filterOfShelf_40 : decode cX11_filterOfShelf 40 = .ok (.lload_n 3, 1) := by decide +kernel
theorem dX11_filterOfShelf_41 : decode cX11_filterOfShelf 41 = .ok (.invokespecial 248, 3) := by decide +kernel
theorem dX11_filterOfShelf_44 : decode cX11_filterOfShelf 44 = .ok (.invokevirtual 104, 3) := by decide +kernel
theorem dX11_filterOfShelf_47 : decode cX11_filterOfShelf 47 = .ok (.ireturn, 1) := by decide +kernel
theorem dX11_filterOfBox_0 : decode cX11_filterOfBox 0 = .ok (.aload_n 0, 1) := by decide +kernel
theorem dX11_filterOfBox_1 : decode cX11_filterOfBox 1 = .ok (.iload_n 1, 1) := by decide +kernel
theorem dX11_filterOfBox_2 : decode cX11_filterOfBox 2 = .ok (.invokevirtual 75, 3) := by decide +kernel
theorem dX11_filterOfBox_5 : decode cX11_filterOfBox 5 = .ok (.astore 4, 2) := by decide +kernel
theorem dX11_filterOfBox_7 : decode cX11_filterOfBox 7 = .ok (.aload 4, 2) := by decide +kernel
theorem dX11_filterOfBox_9 : decode cX11_filterOfBox 9 = .ok (.ifnonnull 6, 3) := by decide +kernel
theorem dX11_filterOfBox_12 : decode cX11_filterOfBox 12 = .ok (.bipush (-2), 2) := by decide +kernel
theorem dX11_filterOfBox_14 : decode cX11_filterOfBox 14 = .ok (.ireturn, 1) := by decide +kernel
theorem dX11_filterOfBox_15 : decode cX11_filterOfBox 15 = .ok (.aload_n 0, 1) := by decide +kernel
theorem dX11_filterOfBox_16 : decode cX11_filterOfBox 16 = .ok (.new 251, 3) := by decide +kernel
theorem dX11_filterOfBox_19 : decode cX11_filterOfBox 19 = .ok (.dup, 1) := by decide +kernel
theorem dX11_filterOfBox_20 : decode cX11_filterOfBox 20 = .ok (.aload_n 0, 1) := by decide +kernel
theorem dX11_filterOfBox_21 : decode cX11_filterOfBox 21 = .ok (.getfield 97, 3) := by decide +kernel
theorem dX11_filterOfBox_24 : decode cX11_filterOfBox 24 = .ok (.aload 4, 2) := by decide +kernel
theorem dX11_filterOfBox_26 : decode cX11_filterOfBox 26 = .ok (.lload_n 2, 1) := by decide +kernel
theorem dX11_filterOfBox_27 : decode cX11_filterOfBox 27 = .ok (.ldc2_w 253, 3) := by decide +kernel
theorem dX11_filterOfBox_30 : decode cX11_filterOfBox 30 = .ok (.lrem, 1) := by decide +kernel
theorem dX11_filterOfBox_31 : decode cX11_filterOfBox 31 = .ok (.invokestatic 255, 3) := by decide +kernel
theorem dX11_filterOfBox_34 : decode cX11_filterOfBox 34 = .ok (.l2i, 1) := by decide +kernel
theorem dX11_filterOfBox_35 : decode cX11_filterOfBox 35 = .ok (.invokespecial 260, 3) := by decide +kernel
theorem dX11_filterOfBox_38 : decode cX11_filterOfBox 38 = .ok (.invokevirtual 104, 3) := by decide +kernel
theorem dX11_filterOfBox_41 : decode cX11_filterOfBox 41 = .ok (.ireturn, 1) := by decide +kernel
theorem dX11_keepFilter_0 : decode cX11_keepFilter 0 = .ok (.aload_n 0, 1) := by decide +kernel
theorem dX11_keepFilter_1 : decode cX11_keepFilter 1 = .ok (.getfield 97, 3) := by decide +kernel
theorem dX11_keepFilter_4 : decode cX11_keepFilter 4 = .ok (.bipush 20, 2) := by decide +kernel
theorem dX11_keepFilter_6 : decode cX11_keepFilter 6 = .ok (.if_icmp .ge 12, 3) := by decide +kernel
theorem dX11_keepFilter_9 : decode cX11_keepFilter 9 = .ok (.aload_n 1, 1) := by decide +kernel
theorem dX11_keepFilter_10 : decode cX11_keepFilter 10 = .ok (.getfield 263, 3) := by decide +kernel
theorem dX11_keepFilter_13 : decode cX11_keepFilter 13 = .ok (.bipush 6, 2) := by decide +kernel
theorem dX11_keepFilter_15 : decode cX11_keepFilter 15 = .ok (.if_icmp .le 6, 3) := by decide +kernel
theorem dX11_keepFilter_18 : decode cX11_keepFilter 18 = .ok (.bipush (-3), 2) := by decide +kernel
theorem dX11_keepFilter_20 : decode cX11_keepFilter 20 = .ok (.ireturn, 1) := by decide +kernel
theorem dX11_keepFilter_21 : decode cX11_keepFilter 21 = .ok (.aload_n 0, 1) := by decide +kernel
theorem dX11_keepFilter_22 : decode cX11_keepFilter 22 = .ok (.getfield 23, 3) := by decide +kernel
theorem dX11_keepFilter_25 : decode cX11_keepFilter 25 = .ok (.aload_n 0, 1) := by decide +kernel
theorem dX11_keepFilter_26 : decode cX11_keepFilter 26 = .ok (.getfield 97, 3) := by decide +kernel
theorem dX11_keepFilter_29 : decode cX11_keepFilter 29 = .ok (.aload_n 1, 1) := by decide +kernel
theorem dX11_keepFilter_30 : decode cX11_keepFilter 30 = .ok (.aastore, 1) := by decide +kernel
theorem dX11_keepFilter_31 : decode cX11_keepFilter 31 = .ok (.aload_n 0, 1) := by decide +kernel
theorem dX11_keepFilter_32 : decode cX11_keepFilter 32 = .ok (.dup, 1) := by decide +kernel
theorem dX11_keepFilter_33 : decode cX11_keepFilter 33 = .ok (.getfield 97, 3) := by decide +kernel
theorem dX11_keepFilter_36 : decode cX11_keepFilter 36 = .ok (.dup_x1, 1) := by decide +kernel
theorem dX11_keepFilter_37 : decode cX11_keepFilter 37 = .ok (.iconst 1, 1) := by decide +kernel
theorem dX11_keepFilter_38 : decode cX11_keepFilter 38 = .ok (.iadd, 1) := by decide +kernel
theorem dX11_keepFilter_39 : decode cX11_keepFilter 39 = .ok (.putfield 97, 3) := by decide +kernel
theorem dX11_keepFilter_42 : decode cX11_keepFilter 42 = .ok (.ireturn, 1) := by decide +kernel
theorem dX11_countFits_0 : decode cX11_countFits 0 = .ok (.iload_n 0, 1) := by decide +kernel
theorem dX11_countFits_1 : decode cX11_countFits 1 = .ok (.bipush 6, 2) := by decide +kernel
theorem dX11_countFits_3 : decode cX11_countFits 3 = .ok (.if_icmp .ne 20, 3) := by decide +kernel
theorem dX11_countFits_6 : decode cX11_countFits 6 = .ok (.iload_n 1, 1) := by decide +kernel
theorem dX11_countFits_7 : decode cX11_countFits 7 = .ok (.ifCond .lt 14, 3) := by decide +kernel
theorem dX11_countFits_10 : decode cX11_countFits 10 = .ok (.iload_n 1, 1) := by decide +kernel
theorem dX11_countFits_11 : decode cX11_countFits 11 = .ok (.sipush 200, 3) := by decide +kernel
theorem dX11_countFits_14 : decode cX11_countFits 14 = .ok (.if_icmp .gt 7, 3) := by decide +kernel
theorem dX11_countFits_17 : decode cX11_countFits 17 = .ok (.iconst 1, 1) := by decide +kernel
theorem dX11_countFits_18 : decode cX11_countFits 18 = .ok (.goto 4, 3) := by decide +kernel
theorem dX11_countFits_21 : decode cX11_countFits 21 = .ok (.iconst 0, 1) := by decide +kernel
theorem dX11_countFits_22 : decode cX11_countFits 22 = .ok (.ireturn, 1) := by decide +kernel
theorem dX11_countFits_23 : decode cX11_countFits 23 = .ok (.iload_n 0, 1) := by decide +kernel
theorem dX11_countFits_24 : decode cX11_countFits 24 = .ok (.bipush 8, 2) := by decide +kernel
theorem dX11_countFits_26 : decode cX11_countFits 26 = .ok (.if_icmp .ne 15, 3) := by decide +kernel
theorem dX11_countFits_29 : decode cX11_countFits 29 = .ok (.iload_n 1, 1) := by decide +kernel
theorem dX11_countFits_30 : decode cX11_countFits 30 = .ok (.iconst 1, 1) := by decide +kernel
theorem dX11_countFits_31 : decode cX11_countFits 31 = .ok (.if_icmp .lt 14, 3) := by decide +kernel
theorem dX11_countFits_34 : decode cX11_countFits 34 = .ok (.iload_n 1, 1) := by decide +kernel
theorem dX11_countFits_35 : decode cX11_countFits 35 = .ok (.sipush 200, 3) := by decide +kernel
theorem dX11_countFits_38 : decode cX11_countFits 38 = .ok (.if_icmp .gt 7, 3) := by decide +kernel
theorem dX11_countFits_41 : decode cX11_countFits 41 = .ok (.iconst 1, 1) := by decide +kernel
theorem dX11_countFits_42 : decode cX11_countFits 42 = .ok (.goto 4, 3) := by decide +kernel
theorem dX11_countFits_45 : decode cX11_countFits 45 = .ok (.iconst 0, 1) := by decide +kernel
theorem dX11_countFits_46 : decode cX11_countFits 46 = .ok (.ireturn, 1) := by decide +kernel
theorem dX11_sourceOfShelf_0 : decode cX11_sourceOfShelf 0 = .ok (.aload_n 0, 1) := by decide +kernel
theorem dX11_sourceOfShelf_1 : decode cX11_sourceOfShelf 1 = .ok (.iload_n 1, 1) := by decide +kernel
theorem dX11_sourceOfShelf_2 : decode cX11_sourceOfShelf 2 = .ok (.invokevirtual 55, 3) := by decide +kernel
theorem dX11_sourceOfShelf_5 : decode cX11_sourceOfShelf 5 = .ok (.astore_n 2, 1) := by decide +kernel
theorem dX11_sourceOfShelf_6 : decode cX11_sourceOfShelf 6 = .ok (.aload_n 2, 1) := by decide +kernel
theorem dX11_sourceOfShelf_7 : decode cX11_sourceOfShelf 7 = .ok (.ifnonnull 6, 3) := by decide +kernel
theorem dX11_sourceOfShelf_10 : decode cX11_sourceOfShelf 10 = .ok (.bipush (-2), 2) := by decide +kernel
theorem dX11_sourceOfShelf_12 : decode cX11_sourceOfShelf 12 = .ok (.ireturn, 1) := by decide +kernel
theorem dX11_sourceOfShelf_13 : decode cX11_sourceOfShelf 13 = .ok (.aload_n 0, 1) := by decide +kernel
theorem dX11_sourceOfShelf_14 : decode cX11_sourceOfShelf 14 = .ok (.new 27, 3) := by decide +kernel
theorem dX11_sourceOfShelf_17 : decode cX11_sourceOfShelf 17 = .ok (.dup, 1) := by decide +kernel
theorem dX11_sourceOfShelf_18 : decode cX11_sourceOfShelf 18 = .ok (.bipush 9, 2) := by decide +kernel
theorem dX11_sourceOfShelf_20 : decode cX11_sourceOfShelf 20 = .ok (.aconst_null, 1) := by decide +kernel
theorem dX11_sourceOfShelf_21 : decode cX11_sourceOfShelf 21 = .ok (.aconst_null, 1) := by decide +kernel
theorem dX11_sourceOfShelf_22 : decode cX11_sourceOfShelf 22 = .ok (.aconst_null, 1) := by decide +kernel
theorem dX11_sourceOfShelf_23 : decode cX11_sourceOfShelf 23 = .ok (.aload_n 2, 1) := by decide +kernel
theorem dX11_sourceOfShelf_24 : decode cX11_sourceOfShelf 24 = .ok (.iconst 0, 1) := by decide +kernel
theorem dX11_sourceOfShelf_25 : decode cX11_sourceOfShelf 25 = .ok (.lconst 0, 1) := by decide +kernel
theorem dX11_sourceOfShelf_26 : decode cX11_sourceOfShelf 26 = .ok (.invokespecial 144, 3) := by decide +kernel
theorem dX11_sourceOfShelf_29 : decode cX11_sourceOfShelf 29 = .ok (.invokevirtual 140, 3) := by decide +kernel
theorem dX11_sourceOfShelf_32 : decode cX11_sourceOfShelf 32 = .ok (.ireturn, 1) := by decide +kernel
theorem dX11_keepSource_0 : decode cX11_keepSource 0 = .ok (.aload_n 0, 1) := by decide +kernel
theorem dX11_keepSource_1 : decode cX11_keepSource 1 = .ok (.getfield 234, 3) := by decide +kernel
theorem dX11_keepSource_4 : decode cX11_keepSource 4 = .ok (.bipush 20, 2) := by decide +kernel
theorem dX11_keepSource_6 : decode cX11_keepSource 6 = .ok (.if_icmp .ge 12, 3) := by decide +kernel
theorem dX11_keepSource_9 : decode cX11_keepSource 9 = .ok (.aload_n 1, 1) := by decide +kernel
theorem dX11_keepSource_10 : decode cX11_keepSource 10 = .ok (.getfield 266, 3) := by decide +kernel
theorem dX11_keepSource_13 : decode cX11_keepSource 13 = .ok (.bipush 6, 2) := by decide +kernel
theorem dX11_keepSource_15 : decode cX11_keepSource 15 = .ok (.if_icmp .le 6, 3) := by decide +kernel
theorem dX11_keepSource_18 : decode cX11_keepSource 18 = .ok (.bipush (-3), 2) := by decide +kernel
theorem dX11_keepSource_20 : decode cX11_keepSource 20 = .ok (.ireturn, 1) := by decide +kernel
theorem dX11_keepSource_21 : decode cX11_keepSource 21 = .ok (.aload_n 0, 1) := by decide +kernel
theorem dX11_keepSource_22 : decode cX11_keepSource 22 = .ok (.getfield 29, 3) := by decide +kernel
theorem dX11_keepSource_25 : decode cX11_keepSource 25 = .ok (.aload_n 0, 1) := by decide +kernel
theorem dX11_keepSource_26 : decode cX11_keepSource 26 = .ok (.getfield 234, 3) := by decide +kernel
theorem dX11_keepSource_29 : decode cX11_keepSource 29 = .ok (.aload_n 1, 1) := by decide +kernel
theorem dX11_keepSource_30 : decode cX11_keepSource 30 = .ok (.aastore, 1) := by decide +kernel
theorem dX11_keepSource_31 : decode cX11_keepSource 31 = .ok (.aload_n 0, 1) := by decide +kernel
theorem dX11_keepSource_32 : decode cX11_keepSource 32 = .ok (.dup, 1) := by decide +kernel
theorem dX11_keepSource_33 : decode cX11_keepSource 33 = .ok (.getfield 234, 3) := by decide +kernel
theorem dX11_keepSource_36 : decode cX11_keepSource 36 = .ok (.dup_x1, 1) := by decide +kernel
theorem dX11_keepSource_37 : decode cX11_keepSource 37 = .ok (.iconst 1, 1) := by decide +kernel
theorem dX11_keepSource_38 : decode cX11_keepSource 38 = .ok (.iadd, 1) := by decide +kernel
theorem dX11_keepSource_39 : decode cX11_keepSource 39 = .ok (.putfield 234, 3) := by decide +kernel
theorem dX11_keepSource_42 : decode cX11_keepSource 42 = .ok (.ireturn, 1) := by decide +kernel
theorem dX11_gap_0 : decode cX11_gap 0 = .ok (.lload_n 0, 1) := by decide +kernel
theorem dX11_gap_1 : decode cX11_gap 1 = .ok (.lload_n 2, 1) := by decide +kernel
theorem dX11_gap_2 : decode cX11_gap 2 = .ok (.lcmp, 1) := by decide +kernel
theorem dX11_gap_3 : decode cX11_gap 3 = .ok (.ifCond .lt 9, 3) := by decide +kernel
theorem dX11_gap_6 : decode cX11_gap 6 = .ok (.lload_n 0, 1) := by decide +kernel
theorem dX11_gap_7 : decode cX11_gap 7 = .ok (.lload_n 2, 1) := by decide +kernel
theorem dX11_gap_8 : decode cX11_gap 8 = .ok (.lsub, 1) := by decide +kernel
theorem dX11_gap_9 : decode cX11_gap 9 = .ok (.goto 6, 3) := by decide +kernel
theorem dX11_gap_12 : decode cX11_gap 12 = .ok (.lload_n 2, 1) := by decide +kernel
theorem dX11_gap_13 : decode cX11_gap 13 = .ok (.lload_n 0, 1) := by decide +kernel
theorem dX11_gap_14 : decode cX11_gap 14 = .ok (.lsub, 1) := by decide +kernel
theorem dX11_gap_15 : decode cX11_gap 15 = .ok (.lreturn, 1) := by decide +kernel
theorem dX11_unsignedBelow_0 : decode cX11_unsignedBelow 0 = .ok (.lload_n 0, 1) := by decide +kernel
theorem dX11_unsignedBelow_1 : decode cX11_unsignedBelow 1 = .ok (.ldc2_w 267, 3) := by decide +kernel
theorem dX11_unsignedBelow_4 : decode cX11_unsignedBelow 4 = .ok (.ladd, 1) := by decide +kernel
theorem dX11_unsignedBelow_5 : decode cX11_unsignedBelow 5 = .ok (.lload_n 2, 1) := by decide +kernel
theorem dX11_unsignedBelow_6 : decode cX11_unsignedBelow 6 = .ok (.ldc2_w 267, 3) := by decide +kernel
theorem dX11_unsignedBelow_9 : decode cX11_unsignedBelow 9 = .ok (.ladd, 1) := by decide +kernel
theorem dX11_unsignedBelow_10 : decode cX11_unsignedBelow 10 = .ok (.lcmp, 1) := by decide +kernel
theorem dX11_unsignedBelow_11 : decode cX11_unsignedBelow 11 = .ok (.ifCond .ge 7, 3) := by decide +kernel
theorem dX11_unsignedBelow_14 : decode cX11_unsignedBelow 14 = .ok (.iconst 1, 1) := by decide +kernel
theorem dX11_unsignedBelow_15 : decode cX11_unsignedBelow 15 = .ok (.goto 4, 3) := by decide +kernel
theorem dX11_unsignedBelow_18 : decode cX11_unsignedBelow 18 = .ok (.iconst 0, 1) := by decide +kernel
theorem dX11_unsignedBelow_19 : decode cX11_unsignedBelow 19 = .ok (.ireturn, 1) := by decide +kernel
theorem dX11_unsignedQuotient_0 : decode cX11_unsignedQuotient 0 = .ok (.lload_n 2, 1) := by decide +kernel
theorem dX11_unsignedQuotient_1 : decode cX11_unsignedQuotient 1 = .ok (.lconst 0, 1) := by decide +kernel
theorem dX11_unsignedQuotient_2 : decode cX11_unsignedQuotient 2 = .ok (.lcmp, 1) := by decide +kernel
theorem dX11_unsignedQuotient_3 : decode cX11_unsignedQuotient 3 = .ok (.ifCond .eq 11, 3) := by decide +kernel
theorem dX11_unsignedQuotient_6 : decode cX11_unsignedQuotient 6 = .ok (.lload_n 0, 1) := by decide +kernel
theorem dX11_unsignedQuotient_7 : decode cX11_unsignedQuotient 7 = .ok (.lload_n 2, 1) := by decide +kernel
theorem dX11_unsignedQuotient_8 : decode cX11_unsignedQuotient 8 = .ok (.invokestatic 269, 3) := by decide +kernel
theorem dX11_unsignedQuotient_11 : decode cX11_unsignedQuotient 11 = .ok (.ifCond .eq 5, 3) := by decide +kernel
theorem dX11_unsignedQuotient_14 : decode cX11_unsignedQuotient 14 = .ok (.lconst 0, 1) := by decide +kernel
theorem dX11_unsignedQuotient_15 : decode cX11_unsignedQuotient 15 = .ok (.lreturn, 1) := by decide +kernel
theorem dX11_unsignedQuotient_16 : decode cX11_unsignedQuotient 16 = .ok (.lload_n 2, 1) := by decide +kernel
theorem dX11_unsignedQuotient_17 : decode cX11_unsignedQuotient 17 = .ok (.lconst 0, 1) := by decide +kernel
theorem dX11_unsignedQuotient_18 : decode cX11_unsignedQuotient 18 = .ok (.lcmp, 1) := by decide +kernel
theorem dX11_unsignedQuotient_19 : decode cX11_unsignedQuotient 19 = .ok (.ifCond .ge 5, 3) := by decide +kernel
theorem dX11_unsignedQuotient_22 : decode cX11_unsignedQuotient 22 = .ok (.lconst 1, 1) := by decide +kernel
theorem dX11_unsignedQuotient_23 : decode cX11_unsignedQuotient 23 = .ok (.lreturn, 1) := by decide +kernel
theorem dX11_unsignedQuotient_24 : decode cX11_unsignedQuotient 24 = .ok (.lload_n 0, 1) := by decide +kernel
theorem dX11_unsignedQuotient_25 : decode cX11_unsignedQuotient 25 = .ok (.iconst 1, 1) := by decide +kernel
theorem dX11_unsignedQuotient_26 : decode cX11_unsignedQuotient 26 = .ok (.lushr, 1) := by decide +kernel
theorem dX11_unsignedQuotient_27 : decode cX11_unsignedQuotient 27 = .ok (.lload_n 2, 1) := by decide +kernel
theorem dX11_unsignedQuotient_28 : decode cX11_unsignedQuotient 28 = .ok (.ldiv, 1) := by decide +kernel
theorem dX11_unsignedQuotient_29 : decode cX11_unsignedQuotient 29 = .ok (.iconst 1, 1) := by decide +kernel
theorem dX11_unsignedQuotient_30 : decode cX11_unsignedQuotient 30 = .ok (.lshl, 1) := by decide +kernel
theorem dX11_unsignedQuotient_31 : decode cX11_unsignedQuotient 31 = .ok (.lstore 4, 2) := by decide +kernel
theorem dX11_unsignedQuotient_33 : decode cX11_unsignedQuotient 33 = .ok (.lload_n 0, 1) := by decide +kernel
theorem dX11_unsignedQuotient_34 : decode cX11_unsignedQuotient 34 = .ok (.lload 4, 2) := by decide +kernel
theorem dX11_unsignedQuotient_36 : decode cX11_unsignedQuotient 36 = .ok (.lload_n 2, 1) := by decide +kernel
theorem dX11_unsignedQuotient_37 : decode cX11_unsignedQuotient 37 = .ok (.lmul, 1) := by decide +kernel
theorem dX11_unsignedQuotient_38 : decode cX11_unsignedQuotient 38 = .ok (.lsub, 1) := by decide +kernel
theorem dX11_unsignedQuotient_39 : decode cX11_unsignedQuotient 39 = .ok (.lload_n 2, 1) := by decide +kernel
theorem dX11_unsignedQuotient_40 : decode cX11_unsignedQuotient 40 = .ok (.invokestatic 269, 3) := by decide +kernel
theorem dX11_unsignedQuotient_43 : decode cX11_unsignedQuotient 43 = .ok (.ifCond .eq 8, 3) := by decide +kernel
theorem dX11_unsignedQuotient_46 : decode cX11_unsignedQuotient 46 = .ok (.lload 4, 2) := by decide +kernel
theorem dX11_unsignedQuotient_48 : decode cX11_unsignedQuotient 48 = .ok (.goto 7, 3) := by decide +kernel
theorem dX11_unsignedQuotient_51 : decode cX11_unsignedQuotient 51 = .ok (.lload 4, 2) := by decide +kernel
theorem dX11_unsignedQuotient_53 : decode cX11_unsignedQuotient 53 = .ok (.lconst 1, 1) := by decide +kernel
theorem dX11_unsignedQuotient_54 : decode cX11_unsignedQuotient 54 = .ok (.ladd, 1) := by decide +kernel
theorem dX11_unsignedQuotient_55 : decode cX11_unsignedQuotient 55 = .ok (.lreturn, 1) := by decide +kernel
theorem dX11_unsignedRest_0 : decode cX11_unsignedRest 0 = .ok (.lload_n 0, 1) := by decide +kernel
theorem dX11_unsignedRest_1 : decode cX11_unsignedRest 1 = .ok (.lload_n 0, 1) := by decide +kernel
theorem dX11_unsignedRest_2 : decode cX11_unsignedRest 2 = .ok (.lload_n 2, 1) := by decide +kernel
theorem dX11_unsignedRest_3 : decode cX11_unsignedRest 3 = .ok (.invokestatic 124, 3) := by decide +kernel
theorem dX11_unsignedRest_6 : decode cX11_unsignedRest 6 = .ok (.lload_n 2, 1) := by decide +kernel
theorem dX11_unsignedRest_7 : decode cX11_unsignedRest 7 = .ok (.lmul, 1) := by decide +kernel
theorem dX11_unsignedRest_8 : decode cX11_unsignedRest 8 = .ok (.lsub, 1) := by decide +kernel
theorem dX11_unsignedRest_9 : decode cX11_unsignedRest 9 = .ok (.lreturn, 1) := by decide +kernel
theorem dX11_find_0 : decode cX11_find 0 = .ok (.iload_n 1, 1) := by decide +kernel
theorem dX11_find_1 : decode cX11_find 1 = .ok (.istore 5, 2) := by decide +kernel
theorem dX11_find_3 : decode cX11_find 3 = .ok (.iload 5, 2) := by decide +kernel
theorem dX11_find_5 : decode cX11_find 5 = .ok (.iload_n 2, 1) := by decide +kernel
theorem dX11_find_6 : decode cX11_find 6 = .ok (.if_icmp .ge 28, 3) := by decide +kernel
theorem dX11_find_9 : decode cX11_find 9 = .ok (.iload 5, 2) := by decide +kernel
theorem dX11_find_11 : decode cX11_find 11 = .ok (.aload_n 0, 1) := by decide +kernel
theorem dX11_find_12 : decode cX11_find 12 = .ok (.arraylength, 1) := by decide +kernel
theorem dX11_find_13 : decode cX11_find 13 = .ok (.if_icmp .ge 21, 3) := by decide +kernel
theorem dX11_find_16 : decode cX11_find 16 = .ok (.aload_n 0, 1) := by decide +kernel
theorem dX11_find_17 : decode cX11_find 17 = .ok (.iload 5, 2) := by decide +kernel
theorem dX11_find_19 : decode cX11_find 19 = .ok (.laload, 1) := by decide +kernel
theorem dX11_find_20 : decode cX11_find 20 = .ok (.lload_n 3, 1) := by decide +kernel
theorem dX11_find_21 : decode cX11_find 21 = .ok (.lcmp, 1) := by decide +kernel
theorem dX11_find_22 : decode cX11_find 22 = .ok (.ifCond .ne 6, 3) := by decide +kernel
theorem dX11_find_25 : decode cX11_find 25 = .ok (.iload 5, 2) := by decide +kernel
theorem dX11_find_27 : decode cX11_find 27 = .ok (.ireturn, 1) := by decide +kernel
theorem dX11_find_28 : decode cX11_find 28 = .ok (.iinc 5 1, 3) := by decide +kernel
theorem dX11_find_31 : decode cX11_find 31 = .ok (.goto (-28), 3) := by decide +kernel
theorem dX11_find_34 : decode cX11_find 34 = .ok (.iconst (-1), 1) := by decide +kernel
theorem dX11_find_35 : decode cX11_find 35 = .ok (.ireturn, 1) := by decide +kernel
theorem dJ9_abs_067f4_0 : decode cJ9_abs_067f4 0 = .ok (.lload_n 0, 1) := by decide +kernel
theorem dJ9_abs_067f4_1 : decode cJ9_abs_067f4 1 = .ok (.lconst 0, 1) := by decide +kernel
theorem dJ9_abs_067f4_2 : decode cJ9_abs_067f4 2 = .ok (.lcmp, 1) := by decide +kernel
theorem dJ9_abs_067f4_3 : decode cJ9_abs_067f4 3 = .ok (.ifCond .ge 8, 3) := by decide +kernel
theorem dJ9_abs_067f4_6 : decode cJ9_abs_067f4 6 = .ok (.lload_n 0, 1) := by decide +kernel
theorem dJ9_abs_067f4_7 : decode cJ9_abs_067f4 7 = .ok (.lneg, 1) := by decide +kernel
theorem dJ9_abs_067f4_8 : decode cJ9_abs_067f4 8 = .ok (.goto 4, 3) := by decide +kernel
theorem dJ9_abs_067f4_11 : decode cJ9_abs_067f4 11 = .ok (.lload_n 0, 1) := by decide +kernel
theorem dJ9_abs_067f4_12 : decode cJ9_abs_067f4 12 = .ok (.lreturn, 1) := by decide +kernel
theorem dJ9_max_7cf53_0 : decode cJ9_max_7cf53 0 = .ok (.iload_n 0, 1) := by decide +kernel
theorem dJ9_max_7cf53_1 : decode cJ9_max_7cf53 1 = .ok (.iload_n 1, 1) := by decide +kernel
theorem dJ9_max_7cf53_2 : decode cJ9_max_7cf53 2 = .ok (.if_icmp .lt 7, 3) := by decide +kernel
theorem dJ9_max_7cf53_5 : decode cJ9_max_7cf53 5 = .ok (.iload_n 0, 1) := by decide +kernel
theorem dJ9_max_7cf53_6 : decode cJ9_max_7cf53 6 = .ok (.goto 4, 3) := by decide +kernel
theorem dJ9_max_7cf53_9 : decode cJ9_max_7cf53 9 = .ok (.iload_n 1, 1) := by decide +kernel
theorem dJ9_max_7cf53_10 : decode cJ9_max_7cf53 10 = .ok (.ireturn, 1) := by decide +kernel
theorem dJ9_min_7cf53_0 : decode cJ9_min_7cf53 0 = .ok (.iload_n 0, 1) := by decide +kernel
theorem dJ9_min_7cf53_1 : decode cJ9_min_7cf53 1 = .ok (.iload_n 1, 1) := by decide +kernel
theorem dJ9_min_7cf53_2 : decode cJ9_min_7cf53 2 = .ok (.if_icmp .gt 7, 3) := by decide +kernel
theorem dJ9_min_7cf53_5 : decode cJ9_min_7cf53 5 = .ok (.iload_n 0, 1) := by decide +kernel
theorem dJ9_min_7cf53_6 : decode cJ9_min_7cf53 6 = .ok (.goto 4, 3) := by decide +kernel
theorem dJ9_min_7cf53_9 : decode cJ9_min_7cf53 9 = .ok (.iload_n 1, 1) := by decide +kernel
theorem dJ9_min_7cf53_10 : decode cJ9_min_7cf53 10 = .ok (.ireturn, 1) := by decide +kernel
theorem dJ7_fill_d0a16_0 : decode cJ7_fill_d0a16 0 = .ok (.iconst 0, 1) := by decide +kernel
theorem dJ7_fill_d0a16_1 : decode cJ7_fill_d0a16 1 = .ok (.istore_n 3, 1) := by decide +kernel
theorem dJ7_fill_d0a16_2 : decode cJ7_fill_d0a16 2 = .ok (.aload_n 0, 1) := by decide +kernel
theorem dJ7_fill_d0a16_3 : decode cJ7_fill_d0a16 3 = .ok (.arraylength, 1) := by decide +kernel
theorem dJ7_fill_d0a16_4 : decode cJ7_fill_d0a16 4 = .ok (.istore 4, 2) := by decide +kernel
theorem dJ7_fill_d0a16_6 : decode cJ7_fill_d0a16 6 = .ok (.iload_n 3, 1) := by decide +kernel
theorem dJ7_fill_d0a16_7 : decode cJ7_fill_d0a16 7 = .ok (.iload 4, 2) := by decide +kernel
theorem dJ7_fill_d0a16_9 : decode cJ7_fill_d0a16 9 = .ok (.if_icmp .ge 13, 3) := by decide +kernel
theorem dJ7_fill_d0a16_12 : decode cJ7_fill_d0a16 12 = .ok (.aload_n 0, 1) := by decide +kernel
theorem dJ7_fill_d0a16_13 : decode cJ7_fill_d0a16 13 = .ok (.iload_n 3, 1) := by decide +kernel
theorem dJ7_fill_d0a16_14 : decode cJ7_fill_d0a16 14 = .ok (.lload_n 1, 1) := by decide +kernel
theorem dJ7_fill_d0a16_15 : decode cJ7_fill_d0a16 15 = .ok (.lastore, 1) := by decide +kernel
theorem dJ7_fill_d0a16_16 : decode cJ7_fill_d0a16 16 = .ok (.iinc 3 1, 3) := by decide +kernel
theorem dJ7_fill_d0a16_19 : decode cJ7_fill_d0a16 19 = .ok (.goto (-13), 3) := by decide +kernel
theorem dJ7_fill_d0a16_22 : decode cJ7_fill_d0a16 22 = .ok (.return_, 1) := by decide +kernel
end
section
theorem dX12_init_0 : decode cX12_init 0 = .ok (.aload_n 0, 1) := by decide +kernel
theorem dX12_init_1 : decode cX12_init 1 = .ok (.invokespecial 1, 3) := by decide +kernel
theorem dX12_init_4 : decode cX12_init 4 = .ok (.aload_n 0, 1) := by decide +kernel
theorem dX12_init_5 : decode cX12_init 5 = .ok (.bipush 6, 2) := by decide +kernel
theorem dX12_init_7 : decode cX12_init 7 = .ok (.newarray .int, 2) := by decide +kernel
theorem dX12_init_9 : decode cX12_init 9 = .ok (.putfield 7, 3) := by decide +kernel
theorem dX12_init_12 : decode cX12_init 12 = .ok (.aload_n 0, 1) := by decide +kernel
theorem dX12_init_13 : decode cX12_init 13 = .ok (.bipush 6, 2) := by decide +kernel
theorem dX12_init_15 : decode cX12_init 15 = .ok (.newarray .int, 2) := by decide +kernel
theorem dX12_init_17 : decode cX12_init 17 = .ok (.putfield 13, 3) := by decide +kernel
theorem dX12_init_20 : decode cX12_init 20 = .ok (.aload_n 0, 1) := by decide +kernel
theorem dX12_init_21 : decode cX12_init 21 = .ok (.bipush 6, 2) := by decide +kernel
theorem dX12_init_23 : decode cX12_init 23 = .ok (.newarray .long, 2) := by decide +kernel
theorem dX12_init_25 : decode cX12_init 25 = .ok (.putfield 16, 3) := by decide +kernel
theorem dX12_init_28 : decode cX12_init 28 = .ok (.aload_n 0, 1) := by decide +kernel
theorem dX12_init_29 : decode cX12_init 29 = .ok (.bipush 72, 2) := by decide +kernel
theorem dX12_init_31 : decode cX12_init 31 = .ok (.newarray .long, 2) := by decide +kernel
theorem dX12_init_33 : decode cX12_init 33 = .ok (.putfield 20, 3) := by decide +kernel
theorem dX12_init_36 : decode cX12_init 36 = .ok (.aload_n 0, 1) := by decide +kernel
theorem dX12_init_37 : decode cX12_init 37 = .ok (.bipush 9, 2) := by decide +kernel
theorem dX12_init_39 : decode cX12_init 39 = .ok (.newarray .int, 2) := by decide +kernel
theorem dX12_init_41 : decode cX12_init 41 = .ok (.putfield 23, 3) := by decide +kernel
theorem dX12_init_44 : decode cX12_init 44 = .ok (.aload_n 0, 1) := by decide +kernel
theorem dX12_init_45 : decode cX12_init 45 = .ok (.bipush 20, 2) := by decide +kernel
theorem dX12_init_47 : decode cX12_init 47 = .ok (.newarray .int, 2) := by decide +kernel
theorem dX12_init_49 : decode cX12_init 49 = .ok (.putfield 26, 3) := by decide +kernel
theorem dX12_init_52 : decode cX12_init 52 = .ok (.aload_n 0, 1) := by decide +kernel
theorem dX12_init_53 : decode cX12_init 53 = .ok (.bipush 20, 2) := by decide +kernel
theorem dX12_init_55 : decode cX12_init 55 = .ok (.newarray .int, 2) := by decide +kernel
theorem dX12_init_57 : decode cX12_init 57 = .ok (.putfield 29, 3) := by decide +kernel
theorem dX12_init_60 : decode cX12_init 60 = .ok (.aload_n 0, 1) := by decide +kernel
theorem dX12_init_61 : decode cX12_init 61 = .ok (.bipush 20, 2) := by decide +kernel
theorem dX12_init_63 : decode cX12_init 63 = .ok (.newarray .int, 2) := by decide +kernel
theorem dX12_init_65 : decode cX12_init 65 = .ok (.putfield 32, 3) := by decide +kernel
theorem dX12_init_68 : decode cX12_init 68 = .ok (.aload_n 0, 1) := by decide +kernel
theorem dX12_init_69 : decode cX12_init 69 = .ok (.bipush 20, 2) := by decide +kernel
theorem dX12_init_71 : decode cX12_init 71 = .ok (.newarray .long, 2) := by decide +kernel
theorem dX12_init_73 : decode cX12_init 73 = .ok (.putfield 35, 3) := by decide +kernel
theorem dX12_init_76 : decode cX12_init 76 = .ok (.aload_n 0, 1) := by decide +kernel
theorem dX12_init_77 : decode cX12_init 77 = .ok (.bipush 20, 2) := by decide +kernel
theorem dX12_init_79 : decode cX12_init 79 = .ok (.newarray .int, 2) := by decide +kernel
theorem dX12_init_81 : decode cX12_init 81 = .ok (.putfield 38, 3) := by decide +kernel
theorem dX12_init_84 : decode cX12_init 84 = .ok (.aload_n 0, 1) := by decide +kernel
theorem dX12_init_85 : decode cX12_init 85 = .ok (.bipush 20, 2) := by decide +kernel
theorem dX12_init_87 : decode cX12_init 87 = .ok (.newarray .int, 2) := by decide +kernel
theorem dX12_init_89 : decode cX12_init 89 = .ok (.putfield 41, 3) := by decide +kernel
theorem dX12_init_92 : decode cX12_init 92 = .ok (.aload_n 0, 1) := by decide +kernel
theorem dX12_init_93 : decode cX12_init 93 = .ok (.bipush 20, 2) := by decide +kernel
theorem dX12_init_95 : decode cX12_init 95 = .ok (.newarray .int, 2) := by decide +kernel
theorem dX12_init_97 : decode cX12_init 97 = .ok (.putfield 44, 3) := by decide +kernel
theorem dX12_init_100 : decode cX12_init 100 = .ok (.aload_n 0, 1) := by decide +kernel
theorem dX12_init_101 : decode cX12_init 101 = .ok (.bipush 20, 2) := by decide +kernel
theorem dX12_init_103 : decode cX12_init 103 = .ok (.newarray .int, 2) := by decide +kernel
theorem dX12_init_105 : decode cX12_init 105 = .ok (.putfield 47, 3) := by decide +kernel
theorem dX12_init_108 : decode cX12_init 108 = .ok (.aload_n 0, 1) := by decide +kernel
theorem dX12_init_109 : decode cX12_init 109 = .ok (.bipush 20, 2) := by decide +kernel
theorem dX12_init_111 : decode cX12_init 111 = .ok (.newarray .int, 2) := by decide +kernel
theorem dX12_init_113 : decode cX12_init 113 = .ok (.putfield 50, 3) := by decide +kernel
theorem dX12_init_116 : decode cX12_init 116 = .ok (.aload_n 0, 1) := by decide +kernel
theorem dX12_init_117 : decode cX12_init 117 = .ok (.bipush 20, 2) := by decide +kernel
theorem dX12_init_119 : decode cX12_init 119 = .ok (.newarray .int, 2) := by decide +kernel
theorem dX12_init_121 : decode cX12_init 121 = .ok (.putfield 53, 3) := by decide +kernel
theorem dX12_init_124 : decode cX12_init 124 = .ok (.aload_n 0, 1) := by decide +kernel
theorem dX12_init_125 : decode cX12_init 125 = .ok (.bipush 20, 2) := by decide +kernel
theorem dX12_init_127 : decode cX12_init 127 = .ok (.newarray .int, 2) := by decide +kernel
theorem dX12_init_129 : decode cX12_init 129 = .ok (.putfield 56, 3) := by decide +kernel
theorem dX12_init_132 : decode cX12_init 132 = .ok (.aload_n 0, 1) := by decide +kernel
theorem dX12_init_133 : decode cX12_init 133 = .ok (.bipush 20, 2) := by decide +kernel
theorem dX12_init_135 : decode cX12_init 135 = .ok (.newarray .long, 2) := by decide +kernel
theorem dX12_init_137 : decode cX12_init 137 = .ok (.putfield 59, 3) := by decide +kernel
theorem dX12_init_140 : decode cX12_init 140 = .ok (.aload_n 0, 1) := by decide +kernel
theorem dX12_init_141 : decode cX12_init 141 = .ok (.bipush 20, 2) := by decide +kernel
theorem dX12_init_143 : decode cX12_init 143 = .ok (.newarray .int, 2) := by decide +kernel
theorem dX12_init_145 : decode cX12_init 145 = .ok (.putfield 62, 3) := by decide +kernel
theorem dX12_init_148 : decode cX12_init 148 = .ok (.aload_n 0, 1) := by decide +kernel
theorem dX12_init_149 : decode cX12_init 149 = .ok (.bipush 20, 2) := by decide +kernel
theorem dX12_init_151 : decode cX12_init 151 = .ok (.newarray .boolean, 2) := by decide +kernel
theorem dX12_init_153 : decode cX12_init 153 = .ok (.putfield 65, 3) := by decide +kernel
theorem dX12_init_156 : decode cX12_init 156 = .ok (.aload_n 0, 1) := by decide +kernel
theorem dX12_init_157 : decode cX12_init 157 = .ok (.bipush 20, 2) := by decide +kernel
theorem dX12_init_159 : decode cX12_init 159 = .ok (.newarray .long, 2) := by decide +kernel
theorem dX12_init_161 : decode cX12_init 161 = .ok (.putfield 69, 3) := by decide +kernel
theorem dX12_init_164 : decode cX12_init 164 = .ok (.aload_n 0, 1) := by decide +kernel
theorem dX12_init_165 : decode cX12_init 165 = .ok (.bipush 20, 2) := by decide +kernel
theorem dX12_init_167 : decode cX12_init 167 = .ok (.newarray .long, 2) := by decide +kernel
theorem dX12_init_169 : decode cX12_init 169 = .ok (.putfield 72, 3) := by decide +kernel
theorem dX12_init_172 : decode cX12_init 172 = .ok (.aload_n 0, 1) := by decide +kernel
theorem dX12_init_173 : decode cX12_init 173 = .ok (.bipush 20, 2) := by decide +kernel
theorem dX12_init_175 : decode cX12_init 175 = .ok (.newarray .long, 2) := by decide +kernel
theorem dX12_init_177 : decode cX12_init 177 = .ok (.putfield 75, 3) := by decide +kernel
theorem dX12_init_180 : decode cX12_init 180 = .ok (.aload_n 0, 1) := by decide +kernel
theorem dX12_init_181 : decode cX12_init 181 = .ok (.sipush 240, 3) := by decide +kernel
theorem dX12_init_184 : decode cX12_init 184 = .ok (.newarray .long, 2) := by decide +kernel
theorem dX12_init_186 : decode cX12_init 186 = .ok (.putfield 78, 3) := by decide +kernel
theorem dX12_init_189 : decode cX12_init 189 = .ok (.aload_n 0, 1) := by decide +kernel
theorem dX12_init_190 : decode cX12_init 190 = .ok (.sipush 3216, 3) := by decide +kernel
theorem dX12_init_193 : decode cX12_init 193 = .ok (.newarray .long, 2) := by decide +kernel
theorem dX12_init_195 : decode cX12_init 195 = .ok (.putfield 81, 3) := by decide +kernel
theorem dX12_init_198 : decode cX12_init 198 = .ok (.aload_n 0, 1) := by decide +kernel
theorem dX12_init_199 : decode cX12_init 199 = .ok (.bipush 16, 2) := by decide +kernel
theorem dX12_init_201 : decode cX12_init 201 = .ok (.newarray .int, 2) := by decide +kernel
theorem dX12_init_203 : decode cX12_init 203 = .ok (.putfield 84, 3) := by decide +kernel
theorem dX12_init_206 : decode cX12_init 206 = .ok (.aload_n 0, 1) := by decide +kernel
theorem dX12_init_207 : decode cX12_init 207 = .ok (.bipush 24, 2) := by decide +kernel
theorem dX12_init_209 : decode cX12_init 209 = .ok (.newarray .long, 2) := by decide +kernel
theorem dX12_init_211 : decode cX12_init 211 = .ok (.putfield 87, 3) := by decide +kernel
theorem dX12_init_214 : decode cX12_init 214 = .ok (.aload_n 0, 1) := by decide +kernel
theorem dX12_init_215 : decode cX12_init 215 = .ok (.bipush 24, 2) := by decide +kernel
theorem dX12_init_217 : decode cX12_init 217 = .ok (.newarray .int, 2) := by decide +kernel
theorem dX12_init_219 : decode cX12_init 219 = .ok (.putfield 90, 3) := by decide +kernel
theorem dX12_init_222 : decode cX12_init 222 = .ok (.aload_n 0, 1) := by decide +kernel
theorem dX12_init_223 : decode cX12_init 223 = .ok (.bipush 24, 2) := by decide +kernel
theorem dX12_init_225 : decode cX12_init 225 = .ok (.newarray .int, 2) := by decide +kernel
theorem dX12_init_227 : decode cX12_init 227 = .ok (.putfield 93, 3) := by decide +kernel
theorem dX12_init_230 : decode cX12_init 230 = .ok (.aload_n 0, 1) := by decide +kernel
theorem dX12_init_231 : decode cX12_init 231 = .ok (.sipush 200, 3) := by decide +kernel
theorem dX12_init_234 : decode cX12_init 234 = .ok (.newarray .long, 2) := by decide +kernel
theorem dX12_init_236 : decode cX12_init 236 = .ok (.putfield 96, 3) := by decide +kernel
theorem dX12_init_239 : decode cX12_init 239 = .ok (.return_, 1) := by decide +kernel
theorem dX12_thrown_0 : decode cX12_thrown 0 = .ok (.aload_n 0, 1) := by decide +kernel
theorem dX12_thrown_1 : decode cX12_thrown 1 = .ok (.getfield 99, 3) := by decide +kernel
theorem dX12_thrown_4 : decode cX12_thrown 4 = .ok (.ireturn, 1) := by decide +kernel
theorem dX12_shelf_0 : decode cX12_shelf 0 = .ok (.aload_n 0, 1) := by decide +kernel
theorem dX12_shelf_1 : decode cX12_shelf 1 = .ok (.iconst 0, 1) := by decide +kernel
theorem dX12_shelf_2 : decode cX12_shelf 2 = .ok (.putfield 99, 3) := by decide +kernel
theorem dX12_shelf_5 : decode cX12_shelf 5 = .ok (.iload_n 1, 1) := by decide +kernel
theorem dX12_shelf_6 : decode cX12_shelf 6 = .ok (.ifCond .lt 8, 3) := by decide +kernel
theorem dX12_shelf_9 : decode cX12_shelf 9 = .ok (.iload_n 1, 1) := by decide +kernel
theorem dX12_shelf_10 : decode cX12_shelf 10 = .ok (.iconst 5, 1) := by decide +kernel
theorem dX12_shelf_11 : decode cX12_shelf 11 = .ok (.if_icmp .le 5, 3) := by decide +kernel
theorem dX12_shelf_14 : decode cX12_shelf 14 = .ok (.iconst (-1), 1) := by decide +kernel
theorem dX12_shelf_15 : decode cX12_shelf 15 = .ok (.ireturn, 1) := by decide +kernel
theorem dX12_shelf_16 : decode cX12_shelf 16 = .ok (.iload_n 2, 1) := by decide +kernel
theorem dX12_shelf_17 : decode cX12_shelf 17 = .ok (.ifCond .lt 28, 3) := by decide +kernel
theorem dX12_shelf_20 : decode cX12_shelf 20 = .ok (.iload_n 2, 1) := by decide +kernel
theorem dX12_shelf_21 : decode cX12_shelf 21 = .ok (.iconst 3, 1) := by decide +kernel
theorem dX12_shelf_22 : decode cX12_shelf 22 = .ok (.if_icmp .gt 23, 3) := by decide +kernel
theorem dX12_shelf_25 : decode cX12_shelf 25 = .ok (.iload_n 2, 1) := by decide +kernel
theorem dX12_shelf_26 : decode cX12_shelf 26 = .ok (.iconst 1, 1) := by decide +kernel
theorem dX12_shelf_27 : decode cX12_shelf 27 = .ok (.if_icmp .eq 8, 3) := by decide +kernel
theorem dX12_shelf_30 : decode cX12_shelf 30 = .ok (.iload_n 2, 1) := by decide +kernel
theorem dX12_shelf_31 : decode cX12_shelf 31 = .ok (.iconst 2, 1) := by decide +kernel
theorem dX12_shelf_32 : decode cX12_shelf 32 = .ok (.if_icmp .ne 16, 3) := by decide +kernel
theorem dX12_shelf_35 : decode cX12_shelf 35 = .ok (.iload_n 3, 1) := by decide +kernel
theorem dX12_shelf_36 : decode cX12_shelf 36 = .ok (.ifCond .lt 9, 3) := by decide +kernel
theorem dX12_shelf_39 : decode cX12_shelf 39 = .ok (.iload_n 3, 1) := by decide +kernel
theorem dX12_shelf_40 : decode cX12_shelf 40 = .ok (.bipush 12, 2) := by decide +kernel
theorem dX12_shelf_42 : decode cX12_shelf 42 = .ok (.if_icmp .le 6, 3) := by decide +kernel
theorem dX12_shelf_45 : decode cX12_shelf 45 = .ok (.bipush (-2), 2) := by decide +kernel
theorem dX12_shelf_47 : decode cX12_shelf 47 = .ok (.ireturn, 1) := by decide +kernel
theorem dX12_shelf_48 : decode cX12_shelf 48 = .ok (.aload_n 0, 1) := by decide +kernel
theorem dX12_shelf_49 : decode cX12_shelf 49 = .ok (.getfield 7, 3) := by decide +kernel
theorem dX12_shelf_52 : decode cX12_shelf 52 = .ok (.iload_n 1, 1) := by decide +kernel
theorem dX12_shelf_53 : decode cX12_shelf 53 = .ok (.iload_n 2, 1) := by decide +kernel
theorem dX12_shelf_54 : decode cX12_shelf 54 = .ok (.iastore, 1) := by decide +kernel
theorem dX12_shelf_55 : decode cX12_shelf 55 = .ok (.aload_n 0, 1) := by decide +kernel
theorem dX12_shelf_56 : decode cX12_shelf 56 = .ok (.getfield 13, 3) := by decide +kernel
theorem dX12_shelf_59 : decode cX12_shelf 59 = .ok (.iload_n 1, 1) := by decide +kernel
theorem dX12_shelf_60 : decode cX12_shelf 60 = .ok (.iload_n 2, 1) := by decide +kernel
theorem dX12_shelf_61 : decode cX12_shelf 61 = .ok (.iconst 1, 1) := by decide +kernel
theorem dX12_shelf_62 : decode cX12_shelf 62 = .ok (.if_icmp .eq 8, 3) := by decide +kernel
theorem dX12_shelf_65 : decode cX12_shelf 65 = .ok (.iload_n 2, 1) := by decide +kernel
theorem dX12_shelf_66 : decode cX12_shelf 66 = .ok (.iconst 2, 1) := by decide +kernel
theorem dX12_shelf_67 : decode cX12_shelf 67 = .ok (.if_icmp .ne 7, 3) := by decide +kernel
theorem dX12_shelf_70 : decode cX12_shelf 70 = .ok (.iload_n 3, 1) := by decide +kernel
theorem dX12_shelf_71 : decode cX12_shelf 71 = .ok (.goto 4, 3) := by decide +kernel
theorem dX12_shelf_74 : decode cX12_shelf 74 = .ok (.iconst 0, 1) := by decide +kernel
theorem dX12_shelf_75 : decode cX12_shelf 75 = .ok (.iastore, 1) := by decide +kernel
theorem dX12_shelf_76 : decode cX12_shelf 76 = .ok (.aload_n 0, 1) := by decide +kernel
theorem dX12_shelf_77 : decode cX12_shelf 77 = .ok (.getfield 16, 3) := by decide +kernel
theorem dX12_shelf_80 : decode cX12_shelf 80 = .ok (.iload_n 1, 1) := by decide +kernel
theorem dX12_shelf_81 : decode cX12_shelf 81 = .ok (.iload_n 3, 1) := by decide +kernel
theorem dX12_shelf_82 : decode cX12_shelf 82 = .ok (.i2l, 1) := by decide +kernel
theorem dX12_shelf_83 : decode cX12_shelf 83 = .ok (.lastore, 1) := by decide +kernel
theorem dX12_shelf_84 : decode cX12_shelf 84 = .ok (.iconst 0, 1) := by decide +kernel
theorem dX12_shelf_85 : decode cX12_shelf 85 = .ok (.istore 4, 2) := by decide +kernel
theorem dX12_shelf_87 : decode cX12_shelf 87 = .ok (.iload 4, 2) := by decide +kernel
theorem dX12_shelf_89 : decode cX12_shelf 89 = .ok (.bipush 12, 2) := by decide +kernel
theorem dX12_shelf_91 : decode cX12_shelf 91 = .ok (.if_icmp .ge 22, 3) := by decide +kernel
theorem dX12_shelf_94 : decode cX12_shelf 94 = .ok (.aload_n 0, 1) := by decide +kernel
theorem dX12_shelf_95 : decode cX12_shelf 95 = .ok (.getfield 20, 3) := by decide +kernel
theorem dX12_shelf_98 : decode cX12_shelf 98 = .ok (.bipush 12, 2) := by decide +kernel
theorem dX12_shelf_100 : decode cX12_shelf 100 = .ok (.iload_n 1, 1) := by decide +kernel
theorem dX12_shelf_101 : decode cX12_shelf 101 = .ok (.imul, 1) := by decide +kernel
theorem dX12_shelf_102 : decode cX12_shelf 102 = .ok (.iload 4, 2) := by decide +kernel
theorem dX12_shelf_104 : decode cX12_shelf 104 = .ok (.iadd, 1) := by decide +kernel
theorem dX12_shelf_105 : decode cX12_shelf 105 = .ok (.lconst 0, 1) := by decide +kernel
theorem dX12_shelf_106 : decode cX12_shelf 106 = .ok (.lastore, 1) := by decide +kernel
theorem dX12_shelf_107 : decode cX12_shelf 107 = .ok (.iinc 4 1, 3) := by decide +kernel
theorem dX12_shelf_110 : decode cX12_shelf 110 = .ok (.goto (-23), 3) := by decide +kernel
theorem dX12_shelf_113 : decode cX12_shelf 113 = .ok (.iconst 1, 1) := by decide +kernel
theorem dX12_shelf_114 : decode cX12_shelf 114 = .ok (.ireturn, 1) := by decide +kernel
theorem dX12_item_0 : decode cX12_item 0 = .ok (.aload_n 0, 1) := by decide +kernel
theorem dX12_item_1 : decode cX12_item 1 = .ok (.iconst 0, 1) := by decide +kernel
theorem dX12_item_2 : decode cX12_item 2 = .ok (.putfield 99, 3) := by decide +kernel
theorem dX12_item_5 : decode cX12_item 5 = .ok (.iload_n 1, 1) := by decide +kernel
theorem dX12_item_6 : decode cX12_item 6 = .ok (.ifCond .lt 8, 3) := by decide +kernel
theorem dX12_item_9 : decode cX12_item 9 = .ok (.iload_n 1, 1) := by decide +kernel
theorem dX12_item_10 : decode cX12_item 10 = .ok (.iconst 5, 1) := by decide +kernel
theorem dX12_item_11 : decode cX12_item 11 = .ok (.if_icmp .le 5, 3) := by decide +kernel
theorem dX12_item_14 : decode cX12_item 14 = .ok (.iconst (-1), 1) := by decide +kernel
theorem dX12_item_15 : decode cX12_item 15 = .ok (.ireturn, 1) := by decide +kernel
theorem dX12_item_16 : decode cX12_item 16 = .ok (.aload_n 0, 1) := by decide +kernel
theorem dX12_item_17 : decode cX12_item 17 = .ok (.getfield 7, 3) := by decide +kernel
theorem dX12_item_20 : decode cX12_item 20 = .ok (.iload_n 1, 1) := by decide +kernel
theorem dX12_item_21 : decode cX12_item 21 = .ok (.iaload, 1) := by decide +kernel
theorem dX12_item_22 : decode cX12_item 22 = .ok (.ifCond .ne 6, 3) := by decide +kernel
theorem dX12_item_25 : decode cX12_item 25 = .ok (.bipush (-11), 2) := by decide +kernel
theorem dX12_item_27 : decode cX12_item 27 = .ok (.ireturn, 1) := by decide +kernel
theorem dX12_item_28 : decode cX12_item 28 = .ok (.aload_n 0, 1) := by decide +kernel
theorem dX12_item_29 : decode cX12_item 29 = .ok (.getfield 7, 3) := by decide +kernel
theorem dX12_item_32 : decode cX12_item 32 = .ok (.iload_n 1, 1) := by decide +kernel
theorem dX12_item_33 : decode cX12_item 33 = .ok (.iaload, 1) := by decide +kernel
theorem dX12_item_34 : decode cX12_item 34 = .ok (.iconst 3, 1) := by decide +kernel
theorem dX12_item_35 : decode cX12_item 35 = .ok (.if_icmp .ne 6, 3) := by decide +kernel
theorem dX12_item_38 : decode cX12_item 38 = .ok (.bipush (-15), 2) := by decide +kernel
theorem dX12_item_40 : decode cX12_item 40 = .ok (.ireturn, 1) := by decide +kernel
theorem dX12_item_41 : decode cX12_item 41 = .ok (.iload_n 2, 1) := by decide +kernel
theorem dX12_item_42 : decode cX12_item 42 = .ok (.ifCond .lt 13, 3) := by decide +kernel
theorem dX12_item_45 : decode cX12_item 45 = .ok (.iload_n 2, 1) := by decide +kernel
theorem dX12_item_46 : decode cX12_item 46 = .ok (.aload_n 0, 1) := by decide +kernel
theorem dX12_item_47 : decode cX12_item 47 = .ok (.getfield 13, 3) := by decide +kernel
theorem dX12_item_50 : decode cX12_item 50 = .ok (.iload_n 1, 1) := by decide +kernel
theorem dX12_item_51 : decode cX12_item 51 = .ok (.iaload, 1) := by decide +kernel
theorem dX12_item_52 : decode cX12_item 52 = .ok (.if_icmp .lt 6, 3) := by decide +kernel
theorem dX12_item_55 : decode cX12_item 55 = .ok (.bipush (-12), 2) := by decide +kernel
theorem dX12_item_57 : decode cX12_item 57 = .ok (.ireturn, 1) := by decide +kernel
theorem dX12_item_58 : decode cX12_item 58 = .ok (.aload_n 0, 1) := by decide +kernel
theorem dX12_item_59 : decode cX12_item 59 = .ok (.getfield 20, 3) := by decide +kernel
theorem dX12_item_62 : decode cX12_item 62 = .ok (.bipush 12, 2) := by decide +kernel
theorem dX12_item_64 : decode cX12_item 64 = .ok (.iload_n 1, 1) := by decide +kernel
theorem dX12_item_65 : decode cX12_item 65 = .ok (.imul, 1) := by decide +kernel
theorem dX12_item_66 : decode cX12_item 66 = .ok (.iload_n 2, 1) := by decide +kernel
theorem dX12_item_67 : decode cX12_item 67 = .ok (.iadd, 1) := by decide +kernel
theorem dX12_item_68 : decode cX12_item 68 = .ok (.aload_n 0, 1) := by decide +kernel
theorem dX12_item_69 : decode cX12_item 69 = .ok (.getfield 7, 3) := by decide +kernel
theorem dX12_item_72 : decode cX12_item 72 = .ok (.iload_n 1, 1) := by decide +kernel
theorem dX12_item_73 : decode cX12_item 73 = .ok (.iaload, 1) := by decide +kernel
theorem dX12_item_74 : decode cX12_item 74 = .ok (.iconst 2, 1) := by decide +kernel
theorem dX12_item_75 : decode cX12_item 75 = .ok (.if_icmp .ne 9, 3) := by decide +kernel
theorem dX12_item_78 : decode cX12_item 78 = .ok (.lload_n 3, 1) := by decide +kernel
theorem dX12_item_79 : decode cX12_item 79 = .ok (.l2i, 1) := by decide +kernel
theorem dX12_item_80 : decode cX12_item 80 = .ok (.i2l, 1) := by decide +kernel
theorem dX12_item_81 : decode cX12_item 81 = .ok (.goto 4, 3) := by decide +kernel
theorem dX12_item_84 : decode cX12_item 84 = .ok (.lload_n 3, 1) := by decide +kernel
theorem dX12_item_85 : decode cX12_item 85 = .ok (.lastore, 1) := by decide +kernel
theorem dX12_item_86 : decode cX12_item 86 = .ok (.iconst 1, 1) := by decide +kernel
theorem dX12_item_87 : decode cX12_item 87 = .ok (.ireturn, 1) := by decide +kernel
theorem dX12_box_0 : decode cX12_box 0 = .ok (.aload_n 0, 1) := by decide +kernel
theorem dX12_box_1 : decode cX12_box 1 = .ok (.iconst 0, 1) := by decide +kernel
theorem dX12_box_2 : decode cX12_box 2 = .ok (.putfield 99, 3) := by decide +kernel
theorem dX12_box_5 : decode cX12_box 5 = .ok (.iload_n 1, 1) := by decide +kernel
theorem dX12_box_6 : decode cX12_box 6 = .ok (.ifCond .lt 17, 3) := by decide +kernel
theorem dX12_box_9 : decode cX12_box 9 = .ok (.iload_n 1, 1) := by decide +kernel
theorem dX12_box_10 : decode cX12_box 10 = .ok (.iconst 2, 1) := by decide +kernel
theorem dX12_box_11 : decode cX12_box 11 = .ok (.if_icmp .gt 12, 3) := by decide +kernel
theorem dX12_box_14 : decode cX12_box 14 = .ok (.iload_n 2, 1) := by decide +kernel
theorem dX12_box_15 : decode cX12_box 15 = .ok (.ifCond .lt 8, 3) := by decide +kernel
theorem dX12_box_18 : decode cX12_box 18 = .ok (.iload_n 2, 1) := by decide +kernel
theorem dX12_box_19 : decode cX12_box 19 = .ok (.iconst 2, 1) := by decide +kernel
theorem dX12_box_20 : decode cX12_box 20 = .ok (.if_icmp .le 7, 3) := by decide +kernel
theorem dX12_box_23 : decode cX12_box 23 = .ok (.iconst (-1), 1) := by decide +kernel
theorem dX12_box_24 : decode cX12_box 24 = .ok (.goto 13, 3) := by decide +kernel
theorem dX12_box_27 : decode cX12_box 27 = .ok (.aload_n 0, 1) := by decide +kernel
theorem dX12_box_28 : decode cX12_box 28 = .ok (.getfield 23, 3) := by decide +kernel
theorem dX12_box_31 : decode cX12_box 31 = .ok (.iconst 3, 1) := by decide +kernel
theorem dX12_box_32 : decode cX12_box 32 = .ok (.iload_n 1, 1) := by decide +kernel
theorem dX12_box_33 : decode cX12_box 33 = .ok (.imul, 1) := by decide +kernel
theorem dX12_box_34 : decode cX12_box 34 = .ok (.iload_n 2, 1) := by decide +kernel
theorem dX12_box_35 : decode cX12_box 35 = .ok (.iadd, 1) := by decide +kernel
theorem dX12_box_36 : decode cX12_box 36 = .ok (.iaload, 1) := by decide +kernel
theorem dX12_box_37 : decode cX12_box 37 = .ok (.ireturn, 1) := by decide +kernel
theorem dX12_isFilter_0 : decode cX12_isFilter 0 = .ok (.iload_n 1, 1) := by decide +kernel
theorem dX12_isFilter_1 : decode cX12_isFilter 1 = .ok (.ifCond .lt 15, 3) := by decide +kernel
theorem dX12_isFilter_4 : decode cX12_isFilter 4 = .ok (.iload_n 1, 1) := by decide +kernel
theorem dX12_isFilter_5 : decode cX12_isFilter 5 = .ok (.aload_n 0, 1) := by decide +kernel
theorem dX12_isFilter_6 : decode cX12_isFilter 6 = .ok (.getfield 103, 3) := by decide +kernel
theorem dX12_isFilter_9 : decode cX12_isFilter 9 = .ok (.if_icmp .ge 7, 3) := by decide +kernel
theorem dX12_isFilter_12 : decode cX12_isFilter 12 = .ok (.iconst 1, 1) := by decide +kernel
theorem dX12_isFilter_13 : decode cX12_isFilter 13 = .ok (.goto 4, 3) := by decide +kernel
theorem dX12_isFilter_16 : decode cX12_isFilter 16 = .ok (.iconst 0, 1) := by decide +kernel
theorem dX12_isFilter_17 : decode cX12_isFilter 17 = .ok (.ireturn, 1) := by decide +kernel
theorem dX12_filter_0 : decode cX12_filter 0 = .ok (.aload_n 0, 1) := by decide +kernel
theorem dX12_filter_1 : decode cX12_filter 1 = .ok (.iconst 0, 1) := by decide +kernel
theorem dX12_filter_2 : decode cX12_filter 2 = .ok (.putfield 99, 3) := by decide +kernel
theorem dX12_filter_5 : decode cX12_filter 5 = .ok (.iload_n 1, 1) := by decide +kernel
theorem dX12_filter_6 : decode cX12_filter 6 = .ok (.ifCond .lt 9, 3) := by decide +kernel
theorem dX12_filter_9 : decode cX12_filter 9 = .ok (.iload_n 1, 1) := by decide +kernel
theorem dX12_filter_10 : decode cX12_filter 10 = .ok (.bipush 12, 2) := by decide +kernel
theorem dX12_filter_12 : decode cX12_filter 12 = .ok (.if_icmp .le 6, 3) := by decide +kernel
theorem dX12_filter_15 : decode cX12_filter 15 = .ok (.bipush (-2), 2) := by decide +kernel
theorem dX12_filter_17 : decode cX12_filter 17 = .ok (.ireturn, 1) := by decide +kernel
theorem dX12_filter_18 : decode cX12_filter 18 = .ok (.iload_n 1, 1) := by decide +kernel
theorem dX12_filter_19 : decode cX12_filter 19 = .ok (.iconst 3, 1) := by decide +kernel
theorem dX12_filter_20 : decode cX12_filter 20 = .ok (.if_icmp .eq 9, 3) := by decide +kernel
theorem dX12_filter_23 : decode cX12_filter 23 = .ok (.iload_n 1, 1) := by decide +kernel
theorem dX12_filter_24 : decode cX12_filter 24 = .ok (.bipush 12, 2) := by decide +kernel
theorem dX12_filter_26 : decode cX12_filter 26 = .ok (.if_icmp .ne 12, 3) := by decide +kernel
theorem dX12_filter_29 : decode cX12_filter 29 = .ok (.iload_n 2, 1) := by decide +kernel
theorem dX12_filter_30 : decode cX12_filter 30 = .ok (.ifCond .lt 22, 3) := by decide +kernel
theorem dX12_filter_33 : decode cX12_filter 33 = .ok (.iload_n 2, 1) := by decide +kernel
theorem dX12_filter_34 : decode cX12_filter 34 = .ok (.iconst 5, 1) := by decide +kernel
theorem dX12_filter_35 : decode cX12_filter 35 = .ok (.if_icmp .gt 17, 3) := by decide +kernel
theorem dX12_filter_38 : decode cX12_filter 38 = .ok (.iload_n 1, 1) := by decide +kernel
theorem dX12_filter_39 : decode cX12_filter 39 = .ok (.iconst 5, 1) := by decide +kernel
theorem dX12_filter_40 : decode cX12_filter 40 = .ok (.if_icmp .ne 15, 3) := by decide +kernel
theorem dX12_filter_43 : decode cX12_filter 43 = .ok (.iload_n 2, 1) := by decide +kernel
theorem dX12_filter_44 : decode cX12_filter 44 = .ok (.ifCond .lt 8, 3) := by decide +kernel
theorem dX12_filter_47 : decode cX12_filter 47 = .ok (.iload_n 2, 1) := by decide +kernel
theorem dX12_filter_48 : decode cX12_filter 48 = .ok (.iconst 2, 1) := by decide +kernel
theorem dX12_filter_49 : decode cX12_filter 49 = .ok (.if_icmp .le 6, 3) := by decide +kernel
theorem dX12_filter_52 : decode cX12_filter 52 = .ok (.bipush (-2), 2) := by decide +kernel
theorem dX12_filter_54 : decode cX12_filter 54 = .ok (.ireturn, 1) := by decide +kernel
theorem dX12_filter_55 : decode cX12_filter 55 = .ok (.iload_n 1, 1) := by decide +kernel
theorem dX12_filter_56 : decode cX12_filter 56 = .ok (.bipush 7, 2) := by decide +kernel
theorem dX12_filter_58 : decode cX12_filter 58 = .ok (.if_icmp .lt 13, 3) := by decide +kernel
theorem dX12_filter_61 : decode cX12_filter 61 = .ok (.iload_n 1, 1) := by decide +kernel
theorem dX12_filter_62 : decode cX12_filter 62 = .ok (.bipush 11, 2) := by decide +kernel
theorem dX12_filter_64 : decode cX12_filter 64 = .ok (.if_icmp .gt 7, 3) := by decide +kernel
theorem dX12_filter_67 : decode cX12_filter 67 = .ok (.iconst 1, 1) := by decide +kernel
theorem dX12_filter_68 : decode cX12_filter 68 = .ok (.goto 4, 3) := by decide +kernel
theorem dX12_filter_71 : decode cX12_filter 71 = .ok (.iconst 0, 1) := by decide +kernel
theorem dX12_filter_72 : decode cX12_filter 72 = .ok (.istore 6, 2) := by decide +kernel
theorem dX12_filter_74 : decode cX12_filter 74 = .ok (.iload_n 1, 1) := by decide +kernel
theorem dX12_filter_75 : decode cX12_filter 75 = .ok (.bipush 8, 2) := by decide +kernel
theorem dX12_filter_77 : decode cX12_filter 77 = .ok (.if_icmp .lt 13, 3) := by decide +kernel
theorem dX12_filter_80 : decode cX12_filter 80 = .ok (.iload_n 1, 1) := by decide +kernel
theorem dX12_filter_81 : decode cX12_filter 81 = .ok (.bipush 10, 2) := by decide +kernel
theorem dX12_filter_83 : decode cX12_filter 83 = .ok (.if_icmp .gt 7, 3) := by decide +kernel
theorem dX12_filter_86 : decode cX12_filter 86 = .ok (.iconst 1, 1) := by decide +kernel
theorem dX12_filter_87 : decode cX12_filter 87 = .ok (.goto 4, 3) := by decide +kernel
theorem dX12_filter_90 : decode cX12_filter 90 = .ok (.iconst 0, 1) := by decide +kernel
theorem dX12_filter_91 : decode cX12_filter 91 = .ok (.istore 7, 2) := by decide +kernel
theorem dX12_filter_93 : decode cX12_filter 93 = .ok (.iload 6, 2) := by decide +kernel
theorem dX12_filter_95 : decode cX12_filter 95 = .ok (.ifCond .eq 11, 3) := by decide +kernel
theorem dX12_filter_98 : decode cX12_filter 98 = .ok (.aload_n 0, 1) := by decide +kernel
theorem dX12_filter_99 : decode cX12_filter 99 = .ok (.iload_n 2, 1) := by decide +kernel
theorem dX12_filter_100 : decode cX12_filter 100 = .ok (.invokevirtual 106, 3) := by decide +kernel
theorem dX12_filter_103 : decode cX12_filter 103 = .ok (.ifCond .eq 16, 3) := by decide +kernel
theorem dX12_filter_106 : decode cX12_filter 106 = .ok (.iload 7, 2) := by decide +kernel
theorem dX12_filter_108 : decode cX12_filter 108 = .ok (.ifCond .eq 13, 3) := by decide +kernel
theorem dX12_filter_111 : decode cX12_filter 111 = .ok (.aload_n 0, 1) := by decide +kernel
theorem dX12_filter_112 : decode cX12_filter 112 = .ok (.iload_n 3, 1) := by decide +kernel
theorem dX12_filter_113 : decode cX12_filter 113 = .ok (.invokevirtual 106, 3) := by decide +kernel
theorem dX12_filter_116 : decode cX12_filter 116 = .ok (.ifCond .ne 5, 3) := by decide +kernel
theorem dX12_filter_119 : decode cX12_filter 119 = .ok (.iconst (-1), 1) := by decide +kernel
theorem dX12_filter_120 : decode cX12_filter 120 = .ok (.ireturn, 1) := by decide +kernel
theorem dX12_filter_121 : decode cX12_filter 121 = .ok (.iconst 1, 1) := by decide +kernel
theorem dX12_filter_122 : decode cX12_filter 122 = .ok (.istore 8, 2) := by decide +kernel
theorem dX12_filter_124 : decode cX12_filter 124 = .ok (.iload 6, 2) := by decide +kernel
theorem dX12_filter_126 : decode cX12_filter 126 = .ok (.ifCond .eq 13, 3) := by decide +kernel
theorem dX12_filter_129 : decode cX12_filter 129 = .ok (.aload_n 0, 1) := by decide +kernel
theorem dX12_filter_130 : decode cX12_filter 130 = .ok (.getfield 38, 3) := by decide +kernel
theorem dX12_filter_133 : decode cX12_filter 133 = .ok (.iload_n 2, 1) := by decide +kernel
theorem dX12_filter_134 : decode cX12_filter 134 = .ok (.iaload, 1) := by decide +kernel
theorem dX12_filter_135 : decode cX12_filter 135 = .ok (.iconst 1, 1) := by decide +kernel
theorem dX12_filter_136 : decode cX12_filter 136 = .ok (.iadd, 1) := by decide +kernel
theorem dX12_filter_137 : decode cX12_filter 137 = .ok (.istore 8, 2) := by decide +kernel
theorem dX12_filter_139 : decode cX12_filter 139 = .ok (.iload 7, 2) := by decide +kernel
theorem dX12_filter_141 : decode cX12_filter 141 = .ok (.ifCond .eq 26, 3) := by decide +kernel
theorem dX12_filter_144 : decode cX12_filter 144 = .ok (.aload_n 0, 1) := by decide +kernel
theorem dX12_filter_145 : decode cX12_filter 145 = .ok (.getfield 38, 3) := by decide +kernel
theorem dX12_filter_148 : decode cX12_filter 148 = .ok (.iload_n 3, 1) := by decide +kernel
theorem dX12_filter_149 : decode cX12_filter 149 = .ok (.iaload, 1) := by decide +kernel
theorem dX12_filter_150 : decode cX12_filter 150 = .ok (.iconst 1, 1) := by decide +kernel
theorem dX12_filter_151 : decode cX12_filter 151 = .ok (.iadd, 1) := by decide +kernel
theorem dX12_filter_152 : decode cX12_filter 152 = .ok (.iload 8, 2) := by decide +kernel
theorem dX12_filter_154 : decode cX12_filter 154 = .ok (.if_icmp .le 13, 3) := by decide +kernel
theorem dX12_filter_157 : decode cX12_filter 157 = .ok (.aload_n 0, 1) := by decide +kernel
theorem dX12_filter_158 : decode cX12_filter 158 = .ok (.getfield 38, 3) := by decide +kernel
theorem dX12_filter_161 : decode cX12_filter 161 = .ok (.iload_n 3, 1) := by decide +kernel
theorem dX12_filter_162 : decode cX12_filter 162 = .ok (.iaload, 1) := by decide +kernel
theorem dX12_filter_163 : decode cX12_filter 163 = .ok (.iconst 1, 1) := by decide +kernel
theorem dX12_filter_164 : decode cX12_filter 164 = .ok (.iadd, 1) := by decide +kernel
theorem dX12_filter_165 : decode cX12_filter 165 = .ok (.istore 8, 2) := by decide +kernel
theorem dX12_filter_167 : decode cX12_filter 167 = .ok (.aload_n 0, 1) := by decide +kernel
theorem dX12_filter_168 : decode cX12_filter 168 = .ok (.getfield 103, 3) := by decide +kernel
theorem dX12_filter_171 : decode cX12_filter 171 = .ok (.bipush 20, 2) := by decide +kernel
theorem dX12_filter_173 : decode cX12_filter 173 = .ok (.if_icmp .eq 10, 3) := by decide +kernel
theorem dX12_filter_176 : decode cX12_filter 176 = .ok (.iload 8, 2) := by decide +kernel
theorem dX12_filter_178 : decode cX12_filter 178 = .ok (.bipush 6, 2) := by decide +kernel
theorem dX12_filter_180 : decode cX12_filter 180 = .ok (.if_icmp .le 6, 3) := by decide +kernel
theorem dX12_filter_183 : decode cX12_filter 183 = .ok (.bipush (-3), 2) := by decide +kernel
theorem dX12_filter_185 : decode cX12_filter 185 = .ok (.ireturn, 1) := by decide +kernel
theorem dX12_filter_186 : decode cX12_filter 186 = .ok (.aload_n 0, 1) := by decide +kernel
theorem dX12_filter_187 : decode cX12_filter 187 = .ok (.getfield 26, 3) := by decide +kernel
theorem dX12_filter_190 : decode cX12_filter 190 = .ok (.aload_n 0, 1) := by decide +kernel
theorem dX12_filter_191 : decode cX12_filter 191 = .ok (.getfield 103, 3) := by decide +kernel
theorem dX12_filter_194 : decode cX12_filter 194 = .ok (.iload_n 1, 1) := by decide +kernel
theorem dX12_filter_195 : decode cX12_filter 195 = .ok (.iastore, 1) := by decide +kernel
theorem dX12_filter_196 : decode cX12_filter 196 = .ok (.aload_n 0, 1) := by decide +kernel
theorem dX12_filter_197 : decode cX12_filter 197 = .ok (.getfield 29, 3) := by decide +kernel
theorem dX12_filter_200 : decode cX12_filter 200 = .ok (.aload_n 0, 1) := by decide +kernel
theorem dX12_filter_201 : decode cX12_filter 201 = .ok (.getfield 103, 3) := by decide +kernel
theorem dX12_filter_204 : decode cX12_filter 204 = .ok (.iload_n 2, 1) := by decide +kernel
theorem dX12_filter_205 : decode cX12_filter 205 = .ok (.iastore, 1) := by decide +kernel
theorem dX12_filter_206 : decode cX12_filter 206 = .ok (.aload_n 0, 1) := by decide +kernel
theorem dX12_filter_207 : decode cX12_filter 207 = .ok (.getfield 32, 3) := by decide +kernel
theorem dX12_filter_210 : decode cX12_filter 210 = .ok (.aload_n 0, 1) := by decide +kernel
theorem dX12_filter_211 : decode cX12_filter 211 = .ok (.getfield 103, 3) := by decide +kernel
theorem dX12_filter_214 : decode cX12_filter 214 = .ok (.iload_n 3, 1) := by decide +kernel
theorem dX12_filter_215 : decode cX12_filter 215 = .ok (.iastore, 1) := by decide +kernel
theorem dX12_filter_216 : decode cX12_filter 216 = .ok (.aload_n 0, 1) := by decide +kernel
theorem dX12_filter_217 : decode cX12_filter 217 = .ok (.getfield 35, 3) := by decide +kernel
theorem dX12_filter_220 : decode cX12_filter 220 = .ok (.aload_n 0, 1) := by decide +kernel
theorem dX12_filter_221 : decode cX12_filter 221 = .ok (.getfield 103, 3) := by decide +kernel
theorem dX12_filter_224 : decode cX12_filter 224 = .ok (.lload 4, 2) := by decide +kernel
theorem dX12_filter_226 : decode cX12_filter 226 = .ok (.lastore, 1) := by decide +kernel
theorem dX12_filter_227 : decode cX12_filter 227 = .ok (.aload_n 0, 1) := by decide +kernel
theorem dX12_filter_228 : decode cX12_filter 228 = .ok (.getfield 38, 3) := by decide +kernel
theorem dX12_filter_231 : decode cX12_filter 231 = .ok (.aload_n 0, 1) := by decide +kernel
theorem dX12_filter_232 : decode cX12_filter 232 = .ok (.getfield 103, 3) := by decide +kernel
theorem dX12_filter_235 : decode cX12_filter 235 = .ok (.iload 8, 2) := by decide +kernel
theorem dX12_filter_237 : decode cX12_filter 237 = .ok (.iastore, 1) := by decide +kernel
theorem dX12_filter_238 : decode cX12_filter 238 = .ok (.aload_n 0, 1) := by decide +kernel
theorem dX12_filter_239 : decode cX12_filter 239 = .ok (.getfield 41, 3) := by decide +kernel
theorem dX12_filter_242 : decode cX12_filter 242 = .ok (.aload_n 0, 1) := by decide +kernel
theorem dX12_filter_243 : decode cX12_filter 243 = .ok (.getfield 103, 3) := by decide +kernel
theorem dX12_filter_246 : decode cX12_filter 246 = .ok (.iconst 0, 1) := by decide +kernel
theorem dX12_filter_247 : decode cX12_filter 247 = .ok (.iastore, 1) := by decide +kernel
theorem dX12_filter_248 : decode cX12_filter 248 = .ok (.aload_n 0, 1) := by decide +kernel
theorem dX12_filter_249 : decode cX12_filter 249 = .ok (.dup, 1) := by decide +kernel
theorem dX12_filter_250 : decode cX12_filter 250 = .ok (.getfield 103, 3) := by decide +kernel
theorem dX12_filter_253 : decode cX12_filter 253 = .ok (.iconst 1, 1) := by decide +kernel
theorem dX12_filter_254 : decode cX12_filter 254 = .ok (.iadd, 1) := by decide +kernel
theorem dX12_filter_255 : decode cX12_filter 255 = .ok (.putfield 103, 3) := by decide +kernel
theorem dX12_filter_258 : decode cX12_filter 258 = .ok (.aload_n 0, 1) := by decide +kernel
theorem dX12_filter_259 : decode cX12_filter 259 = .ok (.getfield 103, 3) := by decide +kernel
theorem dX12_filter_262 : decode cX12_filter 262 = .ok (.iconst 1, 1) := by decide +kernel
theorem dX12_filter_263 : decode cX12_filter 263 = .ok (.isub, 1) := by decide +kernel
theorem dX12_filter_264 : decode cX12_filter 264 = .ok (.ireturn, 1) := by decide +kernel
theorem dX12_fails_0 : decode cX12_fails 0 = .ok (.aload_n 0, 1) := by decide +kernel
theorem dX12_fails_1 : decode cX12_fails 1 = .ok (.getfield 110, 3) := by decide +kernel
theorem dX12_fails_4 : decode cX12_fails 4 = .ok (.bipush 20, 2) := by decide +kernel
theorem dX12_fails_6 : decode cX12_fails 6 = .ok (.if_icmp .ne 12, 3) := by decide +kernel
theorem dX12_fails_9 : decode cX12_fails 9 = .ok (.aload_n 0, 1) := by decide +kernel
theorem dX12_fails_10 : decode cX12_fails 10 = .ok (.bipush 8, 2) := by decide +kernel
theorem dX12_fails_12 : decode cX12_fails 12 = .ok (.putfield 113, 3) := by decide +kernel
theorem dX12_fails_15 : decode cX12_fails 15 = .ok (.goto 18, 3) := by decide +kernel
theorem dX12_fails_18 : decode cX12_fails 18 = .ok (.aload_n 0, 1) := by decide +kernel
theorem dX12_fails_19 : decode cX12_fails 19 = .ok (.dup, 1) := by decide +kernel
theorem dX12_fails_20 : decode cX12_fails 20 = .ok (.getfield 110, 3) := by decide +kernel
theorem dX12_fails_23 : decode cX12_fails 23 = .ok (.iconst 1, 1) := by decide +kernel
theorem dX12_fails_24 : decode cX12_fails 24 = .ok (.iadd, 1) := by decide +kernel
theorem dX12_fails_25 : decode cX12_fails 25 = .ok (.putfield 110, 3) := by decide +kernel
theorem dX12_fails_28 : decode cX12_fails 28 = .ok (.aload_n 0, 1) := by decide +kernel
theorem dX12_fails_29 : decode cX12_fails 29 = .ok (.iload_n 1, 1) := by decide +kernel
theorem dX12_fails_30 : decode cX12_fails 30 = .ok (.putfield 113, 3) := by decide +kernel
theorem dX12_fails_33 : decode cX12_fails 33 = .ok (.aload_n 0, 1) := by decide +kernel
theorem dX12_fails_34 : decode cX12_fails 34 = .ok (.iload_n 2, 1) := by decide +kernel
theorem dX12_fails_35 : decode cX12_fails 35 = .ok (.putfield 116, 3) := by decide +kernel
theorem dX12_fails_38 : decode cX12_fails 38 = .ok (.iconst 0, 1) := by decide +kernel
theorem dX12_fails_39 : decode cX12_fails 39 = .ok (.ireturn, 1) := by decide +kernel
theorem dX12_passes_0 : decode cX12_passes 0 = .ok (.aload_n 0, 1) := by decide +kernel
theorem dX12_passes_1 : decode cX12_passes 1 = .ok (.getfield 29, 3) := by decide +kernel
theorem dX12_passes_4 : decode cX12_passes 4 = .ok (.iload_n 1, 1) := by decide +kernel
theorem dX12_passes_5 : decode cX12_passes 5 = .ok (.iaload, 1) := by decide +kernel
theorem dX12_passes_6 : decode cX12_passes 6 = .ok (.istore 4, 2) := by decide +kernel
theorem dX12_passes_8 : decode cX12_passes 8 = .ok (.aload_n 0, 1) := by decide +kernel
theorem dX12_passes_9 : decode cX12_passes 9 = .ok (.getfield 35, 3) := by decide +kernel
theorem dX12_passes_12 : decode cX12_passes 12 = .ok (.iload_n 1, 1) := by decide +kernel
theorem dX12_passes_13 : decode cX12_passes 13 = .ok (.laload, 1) := by decide +kernel
theorem dX12_passes_14 : decode cX12_passes 14 = .ok (.lstore 5, 2) := by decide +kernel
theorem dX12_passes_16 : decode cX12_passes 16 = .ok (.aload_n 0, 1) := by decide +kernel
theorem dX12_passes_17 : decode cX12_passes 17 = .ok (.getfield 26, 3) := by decide +kernel
theorem dX12_passes_20 : decode cX12_passes 20 = .ok (.iload_n 1, 1) := by decide +kernel
theorem dX12_passes_21 : decode cX12_passes 21 = .ok (.iaload, 1) := by decide +kernel
theorem dX12_passes_22 : decode cX12_passes 22 = .ok (.tableswitch 522 0 11 #[62, 75, 131, 176, 275, 320, 331, 350, 377, 418, 459, 504], 62) := by decide +kernel
theorem dX12_passes_84 : decode cX12_passes 84 = .ok (.lload_n 2, 1) := by decide +kernel
theorem dX12_passes_85 : decode cX12_passes 85 = .ok (.lload 5, 2) := by decide +kernel
theorem dX12_passes_87 : decode cX12_passes 87 = .ok (.lcmp, 1) := by decide +kernel
theorem dX12_passes_88 : decode cX12_passes 88 = .ok (.ifCond .ge 7, 3) := by decide +kernel
theorem dX12_passes_91 : decode cX12_passes 91 = .ok (.iconst 1, 1) := by decide +kernel
theorem dX12_passes_92 : decode cX12_passes 92 = .ok (.goto 4, 3) := by decide +kernel
theorem dX12_passes_95 : decode cX12_passes 95 = .ok (.iconst 0, 1) := by decide +kernel
theorem dX12_passes_96 : decode cX12_passes 96 = .ok (.ireturn, 1) := by decide +kernel
theorem dX12_passes_97 : decode cX12_passes 97 = .ok (.lload 5, 2) := by decide +kernel
theorem dX12_passes_99 : decode cX12_passes 99 = .ok (.lconst 0, 1) := by decide +kernel
theorem dX12_passes_100 : decode cX12_passes 100 = .ok (.lcmp, 1) := by decide +kernel
theorem dX12_passes_101 : decode cX12_passes 101 = .ok (.ifCond .ne 13, 3) := by decide +kernel
theorem dX12_passes_104 : decode cX12_passes 104 = .ok (.aload_n 0, 1) := by decide +kernel
theorem dX12_passes_105 : decode cX12_passes 105 = .ok (.bipush 6, 2) := by decide +kernel
theorem dX12_passes_107 : decode cX12_passes 107 = .ok (.iload_n 1, 1) := by decide +kernel
theorem dX12_passes_108 : decode cX12_passes 108 = .ok (.invokevirtual 119, 3) := by decide +kernel
theorem dX12_passes_111 : decode cX12_passes 111 = .ok (.goto 41, 3) := by decide +kernel
theorem dX12_passes_114 : decode cX12_passes 114 = .ok (.lload 5, 2) := by decide +kernel
theorem dX12_passes_116 : decode cX12_passes 116 = .ok (.ldc2_w 123, 3) := by decide +kernel
theorem dX12_passes_119 : decode cX12_passes 119 = .ok (.lcmp, 1) := by decide +kernel
theorem dX12_passes_120 : decode cX12_passes 120 = .ok (.ifCond .ne 16, 3) := by decide +kernel
theorem dX12_passes_123 : decode cX12_passes 123 = .ok (.iload 4, 2) := by decide +kernel
theorem dX12_passes_125 : decode cX12_passes 125 = .ok (.ifCond .ne 7, 3) := by decide +kernel
theorem dX12_passes_128 : decode cX12_passes 128 = .ok (.iconst 1, 1) := by decide +kernel
theorem dX12_passes_129 : decode cX12_passes 129 = .ok (.goto 23, 3) := by decide +kernel
theorem dX12_passes_132 : decode cX12_passes 132 = .ok (.iconst 0, 1) := by decide +kernel
theorem dX12_passes_133 : decode cX12_passes 133 = .ok (.goto 19, 3) := by decide +kernel
theorem dX12_passes_136 : decode cX12_passes 136 = .ok (.lload_n 2, 1) := by decide +kernel
theorem dX12_passes_137 : decode cX12_passes 137 = .ok (.lload 5, 2) := by decide +kernel
theorem dX12_passes_139 : decode cX12_passes 139 = .ok (.lrem, 1) := by decide +kernel
theorem dX12_passes_140 : decode cX12_passes 140 = .ok (.iload 4, 2) := by decide +kernel
theorem dX12_passes_142 : decode cX12_passes 142 = .ok (.i2l, 1) := by decide +kernel
theorem dX12_passes_143 : decode cX12_passes 143 = .ok (.lcmp, 1) := by decide +kernel
theorem dX12_passes_144 : decode cX12_passes 144 = .ok (.ifCond .ne 7, 3) := by decide +kernel
theorem dX12_passes_147 : decode cX12_passes 147 = .ok (.iconst 1, 1) := by decide +kernel
theorem dX12_passes_148 : decode cX12_passes 148 = .ok (.goto 4, 3) := by decide +kernel
theorem dX12_passes_151 : decode cX12_passes 151 = .ok (.iconst 0, 1) := by decide +kernel
theorem dX12_passes_152 : decode cX12_passes 152 = .ok (.ireturn, 1) := by decide +kernel
theorem dX12_passes_153 : decode cX12_passes 153 = .ok (.lload_n 2, 1) := by decide +kernel
theorem dX12_passes_154 : decode cX12_passes 154 = .ok (.lconst 0, 1) := by decide +kernel
theorem dX12_passes_155 : decode cX12_passes 155 = .ok (.lcmp, 1) := by decide +kernel
theorem dX12_passes_156 : decode cX12_passes 156 = .ok (.ifCond .ne 11, 3) := by decide +kernel
theorem dX12_passes_159 : decode cX12_passes 159 = .ok (.aload_n 0, 1) := by decide +kernel
theorem dX12_passes_160 : decode cX12_passes 160 = .ok (.bipush 6, 2) := by decide +kernel
theorem dX12_passes_162 : decode cX12_passes 162 = .ok (.iload_n 1, 1) := by decide +kernel
theorem dX12_passes_163 : decode cX12_passes 163 = .ok (.invokevirtual 119, 3) := by decide +kernel
theorem dX12_passes_166 : decode cX12_passes 166 = .ok (.ireturn, 1) := by decide +kernel
theorem dX12_passes_167 : decode cX12_passes 167 = .ok (.lload_n 2, 1) := by decide +kernel
theorem dX12_passes_168 : decode cX12_passes 168 = .ok (.ldc2_w 123, 3) := by decide +kernel
theorem dX12_passes_171 : decode cX12_passes 171 = .ok (.lcmp, 1) := by decide +kernel
theorem dX12_passes_172 : decode cX12_passes 172 = .ok (.ifCond .ne 9, 3) := by decide +kernel
theorem dX12_passes_175 : decode cX12_passes 175 = .ok (.lload 5, 2) := by decide +kernel
theorem dX12_passes_177 : decode cX12_passes 177 = .ok (.lneg, 1) := by decide +kernel
theorem dX12_passes_178 : decode cX12_passes 178 = .ok (.goto 7, 3) := by decide +kernel
theorem dX12_passes_181 : decode cX12_passes 181 = .ok (.lload 5, 2) := by decide +kernel
theorem dX12_passes_183 : decode cX12_passes 183 = .ok (.lload_n 2, 1) := by decide +kernel
theorem dX12_passes_184 : decode cX12_passes 184 = .ok (.ldiv, 1) := by decide +kernel
theorem dX12_passes_185 : decode cX12_passes 185 = .ok (.iload 4, 2) := by decide +kernel
theorem dX12_passes_187 : decode cX12_passes 187 = .ok (.i2l, 1) := by decide +kernel
theorem dX12_passes_188 : decode cX12_passes 188 = .ok (.lcmp, 1) := by decide +kernel
theorem dX12_passes_189 : decode cX12_passes 189 = .ok (.ifCond .le 7, 3) := by decide +kernel
theorem dX12_passes_192 : decode cX12_passes 192 = .ok (.iconst 1, 1) := by decide +kernel
theorem dX12_passes_193 : decode cX12_passes 193 = .ok (.goto 4, 3) := by decide +kernel
theorem dX12_passes_196 : decode cX12_passes 196 = .ok (.iconst 0, 1) := by decide +kernel
theorem dX12_passes_197 : decode cX12_passes 197 = .ok (.ireturn, 1) := by decide +kernel
theorem dX12_passes_198 : decode cX12_passes 198 = .ok (.aload_n 0, 1) := by decide +kernel
theorem dX12_passes_199 : decode cX12_passes 199 = .ok (.getfield 7, 3) := by decide +kernel
theorem dX12_passes_202 : decode cX12_passes 202 = .ok (.iload 4, 2) := by decide +kernel
theorem dX12_passes_204 : decode cX12_passes 204 = .ok (.iaload, 1) := by decide +kernel
theorem dX12_passes_205 : decode cX12_passes 205 = .ok (.iconst 2, 1) := by decide +kernel
theorem dX12_passes_206 : decode cX12_passes 206 = .ok (.if_icmp .eq 14, 3) := by decide +kernel
theorem dX12_passes_209 : decode cX12_passes 209 = .ok (.aload_n 0, 1) := by decide +kernel
theorem dX12_passes_210 : decode cX12_passes 210 = .ok (.getfield 7, 3) := by decide +kernel
theorem dX12_passes_213 : decode cX12_passes 213 = .ok (.iload 4, 2) := by decide +kernel
theorem dX12_passes_215 : decode cX12_passes 215 = .ok (.iaload, 1) := by decide +kernel
theorem dX12_passes_216 : decode cX12_passes 216 = .ok (.iconst 3, 1) := by decide +kernel
theorem dX12_passes_217 : decode cX12_passes 217 = .ok (.if_icmp .ne 10, 3) := by decide +kernel
theorem dX12_passes_220 : decode cX12_passes 220 = .ok (.aload_n 0, 1) := by decide +kernel
theorem dX12_passes_221 : decode cX12_passes 221 = .ok (.iconst 5, 1) := by decide +kernel
theorem dX12_passes_222 : decode cX12_passes 222 = .ok (.iload_n 1, 1) := by decide +kernel
theorem dX12_passes_223 : decode cX12_passes 223 = .ok (.invokevirtual 119, 3) := by decide +kernel
theorem dX12_passes_226 : decode cX12_passes 226 = .ok (.ireturn, 1) := by decide +kernel
theorem dX12_passes_227 : decode cX12_passes 227 = .ok (.aload_n 0, 1) := by decide +kernel
theorem dX12_passes_228 : decode cX12_passes 228 = .ok (.getfield 7, 3) := by decide +kernel
theorem dX12_passes_231 : decode cX12_passes 231 = .ok (.iload 4, 2) := by decide +kernel
theorem dX12_passes_233 : decode cX12_passes 233 = .ok (.iaload, 1) := by decide +kernel
theorem dX12_passes_234 : decode cX12_passes 234 = .ok (.ifCond .ne 10, 3) := by decide +kernel
theorem dX12_passes_237 : decode cX12_passes 237 = .ok (.aload_n 0, 1) := by decide +kernel
theorem dX12_passes_238 : decode cX12_passes 238 = .ok (.iconst 1, 1) := by decide +kernel
theorem dX12_passes_239 : decode cX12_passes 239 = .ok (.iload_n 1, 1) := by decide +kernel
theorem dX12_passes_240 : decode cX12_passes 240 = .ok (.invokevirtual 119, 3) := by decide +kernel
theorem dX12_passes_243 : decode cX12_passes 243 = .ok (.ireturn, 1) := by decide +kernel
theorem dX12_passes_244 : decode cX12_passes 244 = .ok (.lload_n 2, 1) := by decide +kernel
theorem dX12_passes_245 : decode cX12_passes 245 = .ok (.lconst 0, 1) := by decide +kernel
theorem dX12_passes_246 : decode cX12_passes 246 = .ok (.lcmp, 1) := by decide +kernel
theorem dX12_passes_247 : decode cX12_passes 247 = .ok (.ifCond .lt 16, 3) := by decide +kernel
theorem dX12_passes_250 : decode cX12_passes 250 = .ok (.lload_n 2, 1) := by decide +kernel
theorem dX12_passes_251 : decode cX12_passes 251 = .ok (.aload_n 0, 1) := by decide +kernel
theorem dX12_passes_252 : decode cX12_passes 252 = .ok (.getfield 13, 3) := by decide +kernel
theorem dX12_passes_255 : decode cX12_passes 255 = .ok (.iload 4, 2) := by decide +kernel
theorem dX12_passes_257 : decode cX12_passes 257 = .ok (.iaload, 1) := by decide +kernel
theorem dX12_passes_258 : decode cX12_passes 258 = .ok (.i2l, 1) := by decide +kernel
theorem dX12_passes_259 : decode cX12_passes 259 = .ok (.lcmp, 1) := by decide +kernel
theorem dX12_passes_260 : decode cX12_passes 260 = .ok (.ifCond .lt 12, 3) := by decide +kernel
theorem dX12_passes_263 : decode cX12_passes 263 = .ok (.aload_n 0, 1) := by decide +kernel
theorem dX12_passes_264 : decode cX12_passes 264 = .ok (.iconst 2, 1) := by decide +kernel
theorem dX12_passes_265 : decode cX12_passes 265 = .ok (.iload_n 1, 1) := by decide +kernel
theorem dX12_passes_266 : decode cX12_passes 266 = .ok (.invokevirtual 119, 3) := by decide +kernel
theorem dX12_passes_269 : decode cX12_passes 269 = .ok (.goto 27, 3) := by decide +kernel
theorem dX12_passes_272 : decode cX12_passes 272 = .ok (.aload_n 0, 1) := by decide +kernel
theorem dX12_passes_273 : decode cX12_passes 273 = .ok (.getfield 20, 3) := by decide +kernel
theorem dX12_passes_276 : decode cX12_passes 276 = .ok (.bipush 12, 2) := by decide +kernel
theorem dX12_passes_278 : decode cX12_passes 278 = .ok (.iload 4, 2) := by decide +kernel
theorem dX12_passes_280 : decode cX12_passes 280 = .ok (.imul, 1) := by decide +kernel
theorem dX12_passes_281 : decode cX12_passes 281 = .ok (.lload_n 2, 1) := by decide +kernel
theorem dX12_passes_282 : decode cX12_passes 282 = .ok (.l2i, 1) := by decide +kernel
theorem dX12_passes_283 : decode cX12_passes 283 = .ok (.iadd, 1) := by decide +kernel
theorem dX12_passes_284 : decode cX12_passes 284 = .ok (.laload, 1) := by decide +kernel
theorem dX12_passes_285 : decode cX12_passes 285 = .ok (.lload 5, 2) := by decide +kernel
theorem dX12_passes_287 : decode cX12_passes 287 = .ok (.lcmp, 1) := by decide +kernel
theorem dX12_passes_288 : decode cX12_passes 288 = .ok (.ifCond .le 7, 3) := by decide +kernel
theorem dX12_passes_291 : decode cX12_passes 291 = .ok (.iconst 1, 1) := by decide +kernel
theorem dX12_passes_292 : decode cX12_passes 292 = .ok (.goto 4, 3) := by decide +kernel
theorem dX12_passes_295 : decode cX12_passes 295 = .ok (.iconst 0, 1) := by decide +kernel
theorem dX12_passes_296 : decode cX12_passes 296 = .ok (.ireturn, 1) := by decide +kernel
theorem dX12_passes_297 : decode cX12_passes 297 = .ok (.lload_n 2, 1) := by decide +kernel
theorem dX12_passes_298 : decode cX12_passes 298 = .ok (.ldc2_w 125, 3) := by decide +kernel
theorem dX12_passes_301 : decode cX12_passes 301 = .ok (.lcmp, 1) := by decide +kernel
theorem dX12_passes_302 : decode cX12_passes 302 = .ok (.ifCond .gt 9, 3) := by decide +kernel
theorem dX12_passes_305 : decode cX12_passes 305 = .ok (.lload_n 2, 1) := by decide +kernel
theorem dX12_passes_306 : decode cX12_passes 306 = .ok (.lconst 0, 1) := by decide +kernel
theorem dX12_passes_307 : decode cX12_passes 307 = .ok (.lcmp, 1) := by decide +kernel
theorem dX12_passes_308 : decode cX12_passes 308 = .ok (.ifCond .ge 21, 3) := by decide +kernel
theorem dX12_passes_311 : decode cX12_passes 311 = .ok (.aload_n 0, 1) := by decide +kernel
theorem dX12_passes_312 : decode cX12_passes 312 = .ok (.lload_n 2, 1) := by decide +kernel
theorem dX12_passes_313 : decode cX12_passes 313 = .ok (.lconst 0, 1) := by decide +kernel
theorem dX12_passes_314 : decode cX12_passes 314 = .ok (.lcmp, 1) := by decide +kernel
theorem dX12_passes_315 : decode cX12_passes 315 = .ok (.ifCond .ge 7, 3) := by decide +kernel
theorem dX12_passes_318 : decode cX12_passes 318 = .ok (.iconst 3, 1) := by decide +kernel
theorem dX12_passes_319 : decode cX12_passes 319 = .ok (.goto 5, 3) := by decide +kernel
theorem dX12_passes_322 : decode cX12_passes 322 = .ok (.bipush 7, 2) := by decide +kernel
theorem dX12_passes_324 : decode cX12_passes 324 = .ok (.iload_n 1, 1) := by decide +kernel
theorem dX12_passes_325 : decode cX12_passes 325 = .ok (.invokevirtual 119, 3) := by decide +kernel
theorem dX12_passes_328 : decode cX12_passes 328 = .ok (.ireturn, 1) := by decide +kernel
theorem dX12_passes_329 : decode cX12_passes 329 = .ok (.lload_n 2, 1) := by decide +kernel
theorem dX12_passes_330 : decode cX12_passes 330 = .ok (.lload 5, 2) := by decide +kernel
theorem dX12_passes_332 : decode cX12_passes 332 = .ok (.lcmp, 1) := by decide +kernel
theorem dX12_passes_333 : decode cX12_passes 333 = .ok (.ifCond .lt 7, 3) := by decide +kernel
theorem dX12_passes_336 : decode cX12_passes 336 = .ok (.iconst 1, 1) := by decide +kernel
theorem dX12_passes_337 : decode cX12_passes 337 = .ok (.goto 4, 3) := by decide +kernel
theorem dX12_passes_340 : decode cX12_passes 340 = .ok (.iconst 0, 1) := by decide +kernel
theorem dX12_passes_341 : decode cX12_passes 341 = .ok (.ireturn, 1) := by decide +kernel
theorem dX12_passes_342 : decode cX12_passes 342 = .ok (.aload_n 0, 1) := by decide +kernel
theorem dX12_passes_343 : decode cX12_passes 343 = .ok (.iload_n 1, 1) := by decide +kernel
theorem dX12_passes_344 : decode cX12_passes 344 = .ok (.iload 4, 2) := by decide +kernel
theorem dX12_passes_346 : decode cX12_passes 346 = .ok (.lload_n 2, 1) := by decide +kernel
theorem dX12_passes_347 : decode cX12_passes 347 = .ok (.lload 5, 2) := by decide +kernel
theorem dX12_passes_349 : decode cX12_passes 349 = .ok (.invokevirtual 127, 3) := by decide +kernel
theorem dX12_passes_352 : decode cX12_passes 352 = .ok (.ireturn, 1) := by decide +kernel
theorem dX12_passes_353 : decode cX12_passes 353 = .ok (.lload_n 2, 1) := by decide +kernel
theorem dX12_passes_354 : decode cX12_passes 354 = .ok (.lload 5, 2) := by decide +kernel
theorem dX12_passes_356 : decode cX12_passes 356 = .ok (.lcmp, 1) := by decide +kernel
theorem dX12_passes_357 : decode cX12_passes 357 = .ok (.ifCond .ne 13, 3) := by decide +kernel
theorem dX12_passes_360 : decode cX12_passes 360 = .ok (.aload_n 0, 1) := by decide +kernel
theorem dX12_passes_361 : decode cX12_passes 361 = .ok (.bipush 7, 2) := by decide +kernel
theorem dX12_passes_363 : decode cX12_passes 363 = .ok (.iload_n 1, 1) := by decide +kernel
theorem dX12_passes_364 : decode cX12_passes 364 = .ok (.invokevirtual 119, 3) := by decide +kernel
theorem dX12_passes_367 : decode cX12_passes 367 = .ok (.goto 4, 3) := by decide +kernel
theorem dX12_passes_370 : decode cX12_passes 370 = .ok (.iconst 1, 1) := by decide +kernel
theorem dX12_passes_371 : decode cX12_passes 371 = .ok (.ireturn, 1) := by decide +kernel
theorem dX12_passes_372 : decode cX12_passes 372 = .ok (.aload_n 0, 1) := by decide +kernel
theorem dX12_passes_373 : decode cX12_passes 373 = .ok (.iload 4, 2) := by decide +kernel
theorem dX12_passes_375 : decode cX12_passes 375 = .ok (.lload_n 2, 1) := by decide +kernel
theorem dX12_passes_376 : decode cX12_passes 376 = .ok (.invokevirtual 131, 3) := by decide +kernel
theorem dX12_passes_379 : decode cX12_passes 379 = .ok (.istore 7, 2) := by decide +kernel
theorem dX12_passes_381 : decode cX12_passes 381 = .ok (.aload_n 0, 1) := by decide +kernel
theorem dX12_passes_382 : decode cX12_passes 382 = .ok (.getfield 113, 3) := by decide +kernel
theorem dX12_passes_385 : decode cX12_passes 385 = .ok (.ifCond .ne 12, 3) := by decide +kernel
theorem dX12_passes_388 : decode cX12_passes 388 = .ok (.iload 7, 2) := by decide +kernel
theorem dX12_passes_390 : decode cX12_passes 390 = .ok (.ifCond .ne 7, 3) := by decide +kernel
theorem dX12_passes_393 : decode cX12_passes 393 = .ok (.iconst 1, 1) := by decide +kernel
theorem dX12_passes_394 : decode cX12_passes 394 = .ok (.goto 4, 3) := by decide +kernel
theorem dX12_passes_397 : decode cX12_passes 397 = .ok (.iconst 0, 1) := by decide +kernel
theorem dX12_passes_398 : decode cX12_passes 398 = .ok (.ireturn, 1) := by decide +kernel
theorem dX12_passes_399 : decode cX12_passes 399 = .ok (.aload_n 0, 1) := by decide +kernel
theorem dX12_passes_400 : decode cX12_passes 400 = .ok (.iload 4, 2) := by decide +kernel
theorem dX12_passes_402 : decode cX12_passes 402 = .ok (.lload_n 2, 1) := by decide +kernel
theorem dX12_passes_403 : decode cX12_passes 403 = .ok (.invokevirtual 131, 3) := by decide +kernel
theorem dX12_passes_406 : decode cX12_passes 406 = .ok (.istore 7, 2) := by decide +kernel
theorem dX12_passes_408 : decode cX12_passes 408 = .ok (.aload_n 0, 1) := by decide +kernel
theorem dX12_passes_409 : decode cX12_passes 409 = .ok (.getfield 113, 3) := by decide +kernel
theorem dX12_passes_412 : decode cX12_passes 412 = .ok (.ifCond .ne 26, 3) := by decide +kernel
theorem dX12_passes_415 : decode cX12_passes 415 = .ok (.iload 7, 2) := by decide +kernel
theorem dX12_passes_417 : decode cX12_passes 417 = .ok (.ifCond .eq 21, 3) := by decide +kernel
theorem dX12_passes_420 : decode cX12_passes 420 = .ok (.aload_n 0, 1) := by decide +kernel
theorem dX12_passes_421 : decode cX12_passes 421 = .ok (.aload_n 0, 1) := by decide +kernel
theorem dX12_passes_422 : decode cX12_passes 422 = .ok (.getfield 32, 3) := by decide +kernel
theorem dX12_passes_425 : decode cX12_passes 425 = .ok (.iload_n 1, 1) := by decide +kernel
theorem dX12_passes_426 : decode cX12_passes 426 = .ok (.iaload, 1) := by decide +kernel
theorem dX12_passes_427 : decode cX12_passes 427 = .ok (.lload_n 2, 1) := by decide +kernel
theorem dX12_passes_428 : decode cX12_passes 428 = .ok (.invokevirtual 131, 3) := by decide +kernel
theorem dX12_passes_431 : decode cX12_passes 431 = .ok (.ifCond .eq 7, 3) := by decide +kernel
theorem dX12_passes_434 : decode cX12_passes 434 = .ok (.iconst 1, 1) := by decide +kernel
theorem dX12_passes_435 : decode cX12_passes 435 = .ok (.goto 4, 3) := by decide +kernel
theorem dX12_passes_438 : decode cX12_passes 438 = .ok (.iconst 0, 1) := by decide +kernel
theorem dX12_passes_439 : decode cX12_passes 439 = .ok (.ireturn, 1) := by decide +kernel
theorem dX12_passes_440 : decode cX12_passes 440 = .ok (.aload_n 0, 1) := by decide +kernel
theorem dX12_passes_441 : decode cX12_passes 441 = .ok (.iload 4, 2) := by decide +kernel
theorem dX12_passes_443 : decode cX12_passes 443 = .ok (.lload_n 2, 1) := by decide +kernel
theorem dX12_passes_444 : decode cX12_passes 444 = .ok (.invokevirtual 131, 3) := by decide +kernel
theorem dX12_passes_447 : decode cX12_passes 447 = .ok (.istore 7, 2) := by decide +kernel
theorem dX12_passes_449 : decode cX12_passes 449 = .ok (.aload_n 0, 1) := by decide +kernel
theorem dX12_passes_450 : decode cX12_passes 450 = .ok (.getfield 113, 3) := by decide +kernel
theorem dX12_passes_453 : decode cX12_passes 453 = .ok (.ifCond .ne 26, 3) := by decide +kernel
theorem dX12_passes_456 : decode cX12_passes 456 = .ok (.iload 7, 2) := by decide +kernel
theorem dX12_passes_458 : decode cX12_passes 458 = .ok (.ifCond .ne 17, 3) := by decide +kernel
theorem dX12_passes_461 : decode cX12_passes 461 = .ok (.aload_n 0, 1) := by decide +kernel
theorem dX12_passes_462 : decode cX12_passes 462 = .ok (.aload_n 0, 1) := by decide +kernel
theorem dX12_passes_463 : decode cX12_passes 463 = .ok (.getfield 32, 3) := by decide +kernel
theorem dX12_passes_466 : decode cX12_passes 466 = .ok (.iload_n 1, 1) := by decide +kernel
theorem dX12_passes_467 : decode cX12_passes 467 = .ok (.iaload, 1) := by decide +kernel
theorem dX12_passes_468 : decode cX12_passes 468 = .ok (.lload_n 2, 1) := by decide +kernel
theorem dX12_passes_469 : decode cX12_passes 469 = .ok (.invokevirtual 131, 3) := by decide +kernel
theorem dX12_passes_472 : decode cX12_passes 472 = .ok (.ifCond .eq 7, 3) := by decide +kernel
theorem dX12_passes_475 : decode cX12_passes 475 = .ok (.iconst 1, 1) := by decide +kernel
theorem dX12_passes_476 : decode cX12_passes 476 = .ok (.goto 4, 3) := by decide +kernel
theorem dX12_passes_479 : decode cX12_passes 479 = .ok (.iconst 0, 1) := by decide +kernel
theorem dX12_passes_480 : decode cX12_passes 480 = .ok (.ireturn, 1) := by decide +kernel
theorem dX12_passes_481 : decode cX12_passes 481 = .ok (.aload_n 0, 1) := by decide +kernel
theorem dX12_passes_482 : decode cX12_passes 482 = .ok (.iload 4, 2) := by decide +kernel
theorem dX12_passes_484 : decode cX12_passes 484 = .ok (.lload_n 2, 1) := by decide +kernel
theorem dX12_passes_485 : decode cX12_passes 485 = .ok (.invokevirtual 131, 3) := by decide +kernel
theorem dX12_passes_488 : decode cX12_passes 488 = .ok (.istore 7, 2) := by decide +kernel
theorem dX12_passes_490 : decode cX12_passes 490 = .ok (.aload_n 0, 1) := by decide +kernel
theorem dX12_passes_491 : decode cX12_passes 491 = .ok (.getfield 113, 3) := by decide +kernel
theorem dX12_passes_494 : decode cX12_passes 494 = .ok (.ifCond .eq 12, 3) := by decide +kernel
theorem dX12_passes_497 : decode cX12_passes 497 = .ok (.aload_n 0, 1) := by decide +kernel
theorem dX12_passes_498 : decode cX12_passes 498 = .ok (.getfield 113, 3) := by decide +kernel
theorem dX12_passes_501 : decode cX12_passes 501 = .ok (.bipush 8, 2) := by decide +kernel
theorem dX12_passes_503 : decode cX12_passes 503 = .ok (.if_icmp .ne 6, 3) := by decide +kernel
theorem dX12_passes_506 : decode cX12_passes 506 = .ok (.iload 7, 2) := by decide +kernel
theorem dX12_passes_508 : decode cX12_passes 508 = .ok (.ireturn, 1) := by decide +kernel
theorem dX12_passes_509 : decode cX12_passes 509 = .ok (.aload_n 0, 1) := by decide +kernel
theorem dX12_passes_510 : decode cX12_passes 510 = .ok (.iconst 0, 1) := by decide +kernel
theorem dX12_passes_511 : decode cX12_passes 511 = .ok (.putfield 113, 3) := by decide +kernel
theorem dX12_passes_514 : decode cX12_passes 514 = .ok (.aload_n 0, 1) := by decide +kernel
theorem dX12_passes_515 : decode cX12_passes 515 = .ok (.aload_n 0, 1) := by decide +kernel
theorem dX12_passes_516 : decode cX12_passes 516 = .ok (.getfield 32, 3) := by decide +kernel
theorem dX12_passes_519 : decode cX12_passes 519 = .ok (.iload_n 1, 1) := by decide +kernel
theorem dX12_passes_520 : decode cX12_passes 520 = .ok (.iaload, 1) := by decide +kernel
theorem dX12_passes_521 : decode cX12_passes 521 = .ok (.lload_n 2, 1) := by decide +kernel
theorem dX12_passes_522 : decode cX12_passes 522 = .ok (.invokevirtual 131, 3) := by decide +kernel
theorem dX12_passes_525 : decode cX12_passes 525 = .ok (.ireturn, 1) := by decide +kernel
theorem dX12_passes_526 : decode cX12_passes 526 = .ok (.aload_n 0, 1) := by decide +kernel
theorem dX12_passes_527 : decode cX12_passes 527 = .ok (.getfield 41, 3) := by decide +kernel
theorem dX12_passes_530 : decode cX12_passes 530 = .ok (.iload_n 1, 1) := by decide +kernel
theorem dX12_passes_531 : decode cX12_passes 531 = .ok (.dup2, 1) := by decide +kernel
theorem dX12_passes_532 : decode cX12_passes 532 = .ok (.iaload, 1) := by decide +kernel
theorem dX12_passes_533 : decode cX12_passes 533 = .ok (.iconst 1, 1) := by decide +kernel
theorem dX12_passes_534 : decode cX12_passes 534 = .ok (.iadd, 1) := by decide +kernel
theorem dX12_passes_535 : decode cX12_passes 535 = .ok (.iastore, 1) := by decide +kernel
theorem dX12_passes_536 : decode cX12_passes 536 = .ok (.aload_n 0, 1) := by decide +kernel
theorem dX12_passes_537 : decode cX12_passes 537 = .ok (.iload 4, 2) := by decide +kernel
theorem dX12_passes_539 : decode cX12_passes 539 = .ok (.lload_n 2, 1) := by decide +kernel
theorem dX12_passes_540 : decode cX12_passes 540 = .ok (.invokevirtual 131, 3) := by decide +kernel
theorem dX12_passes_543 : decode cX12_passes 543 = .ok (.ireturn, 1) := by decide +kernel
theorem dX12_passes_544 : decode cX12_passes 544 = .ok (.aload_n 0, 1) := by decide +kernel
theorem dX12_passes_545 : decode cX12_passes 545 = .ok (.getfield 7, 3) := by decide +kernel
theorem dX12_passes_548 : decode cX12_passes 548 = .ok (.iload 4, 2) := by decide +kernel
theorem dX12_passes_550 : decode cX12_passes 550 = .ok (.iaload, 1) := by decide +kernel
theorem dX12_passes_551 : decode cX12_passes 551 = .ok (.iconst 3, 1) := by decide +kernel
theorem dX12_passes_552 : decode cX12_passes 552 = .ok (.if_icmp .eq 24, 3) := by decide +kernel
theorem dX12_passes_555 : decode cX12_passes 555 = .ok (.aload_n 0, 1) := by decide +kernel
theorem dX12_passes_556 : decode cX12_passes 556 = .ok (.aload_n 0, 1) := by decide +kernel
theorem dX12_passes_557 : decode cX12_passes 557 = .ok (.getfield 7, 3) := by decide +kernel
theorem dX12_passes_560 : decode cX12_passes 560 = .ok (.iload 4, 2) := by decide +kernel
theorem dX12_passes_562 : decode cX12_passes 562 = .ok (.iaload, 1) := by decide +kernel
theorem dX12_passes_563 : decode cX12_passes 563 = .ok (.ifCond .ne 7, 3) := by decide +kernel
theorem dX12_passes_566 : decode cX12_passes 566 = .ok (.iconst 1, 1) := by decide +kernel
theorem dX12_passes_567 : decode cX12_passes 567 = .ok (.goto 4, 3) := by decide +kernel
theorem dX12_passes_570 : decode cX12_passes 570 = .ok (.iconst 5, 1) := by decide +kernel
theorem dX12_passes_571 : decode cX12_passes 571 = .ok (.iload_n 1, 1) := by decide +kernel
theorem dX12_passes_572 : decode cX12_passes 572 = .ok (.invokevirtual 119, 3) := by decide +kernel
theorem dX12_passes_575 : decode cX12_passes 575 = .ok (.ireturn, 1) := by decide +kernel
theorem dX12_passes_576 : decode cX12_passes 576 = .ok (.lload_n 2, 1) := by decide +kernel
theorem dX12_passes_577 : decode cX12_passes 577 = .ok (.aload_n 0, 1) := by decide +kernel
theorem dX12_passes_578 : decode cX12_passes 578 = .ok (.getfield 16, 3) := by decide +kernel
theorem dX12_passes_581 : decode cX12_passes 581 = .ok (.iload 4, 2) := by decide +kernel
theorem dX12_passes_583 : decode cX12_passes 583 = .ok (.laload, 1) := by decide +kernel
theorem dX12_passes_584 : decode cX12_passes 584 = .ok (.lcmp, 1) := by decide +kernel
theorem dX12_passes_585 : decode cX12_passes 585 = .ok (.ifCond .le 7, 3) := by decide +kernel
theorem dX12_passes_588 : decode cX12_passes 588 = .ok (.iconst 1, 1) := by decide +kernel
theorem dX12_passes_589 : decode cX12_passes 589 = .ok (.goto 4, 3) := by decide +kernel
theorem dX12_passes_592 : decode cX12_passes 592 = .ok (.iconst 0, 1) := by decide +kernel
theorem dX12_passes_593 : decode cX12_passes 593 = .ok (.ireturn, 1) := by decide +kernel
theorem dX12_puts_0 : decode cX12_puts 0 = .ok (.lload_n 3, 1) := by decide +kernel
theorem dX12_puts_1 : decode cX12_puts 1 = .ok (.ldc2_w 135, 3) := by decide +kernel
theorem dX12_puts_4 : decode cX12_puts 4 = .ok (.lrem, 1) := by decide +kernel
theorem dX12_puts_5 : decode cX12_puts 5 = .ok (.l2i, 1) := by decide +kernel
theorem dX12_puts_6 : decode cX12_puts 6 = .ok (.istore 7, 2) := by decide +kernel
theorem dX12_puts_8 : decode cX12_puts 8 = .ok (.iload 7, 2) := by decide +kernel
theorem dX12_puts_10 : decode cX12_puts 10 = .ok (.ifCond .ne 7, 3) := by decide +kernel
theorem dX12_puts_13 : decode cX12_puts 13 = .ok (.iconst 2, 1) := by decide +kernel
theorem dX12_puts_14 : decode cX12_puts 14 = .ok (.goto 14, 3) := by decide +kernel
theorem dX12_puts_17 : decode cX12_puts 17 = .ok (.iload 7, 2) := by decide +kernel
theorem dX12_puts_19 : decode cX12_puts 19 = .ok (.iconst 1, 1) := by decide +kernel
theorem dX12_puts_20 : decode cX12_puts 20 = .ok (.if_icmp .ne 7, 3) := by decide +kernel
theorem dX12_puts_23 : decode cX12_puts 23 = .ok (.iconst 3, 1) := by decide +kernel
theorem dX12_puts_24 : decode cX12_puts 24 = .ok (.goto 4, 3) := by decide +kernel
theorem dX12_puts_27 : decode cX12_puts 27 = .ok (.iconst 1, 1) := by decide +kernel
theorem dX12_puts_28 : decode cX12_puts 28 = .ok (.istore 8, 2) := by decide +kernel
theorem dX12_puts_30 : decode cX12_puts 30 = .ok (.lload 5, 2) := by decide +kernel
theorem dX12_puts_32 : decode cX12_puts 32 = .ok (.ldc2_w 135, 3) := by decide +kernel
theorem dX12_puts_35 : decode cX12_puts 35 = .ok (.lrem, 1) := by decide +kernel
theorem dX12_puts_36 : decode cX12_puts 36 = .ok (.l2i, 1) := by decide +kernel
theorem dX12_puts_37 : decode cX12_puts 37 = .ok (.istore 9, 2) := by decide +kernel
theorem dX12_puts_39 : decode cX12_puts 39 = .ok (.iload 9, 2) := by decide +kernel
theorem dX12_puts_41 : decode cX12_puts 41 = .ok (.ifCond .ge 9, 3) := by decide +kernel
theorem dX12_puts_44 : decode cX12_puts 44 = .ok (.iload 9, 2) := by decide +kernel
theorem dX12_puts_46 : decode cX12_puts 46 = .ok (.ineg, 1) := by decide +kernel
theorem dX12_puts_47 : decode cX12_puts 47 = .ok (.goto 5, 3) := by decide +kernel
theorem dX12_puts_50 : decode cX12_puts 50 = .ok (.iload 9, 2) := by decide +kernel
theorem dX12_puts_52 : decode cX12_puts 52 = .ok (.istore 9, 2) := by decide +kernel
theorem dX12_puts_54 : decode cX12_puts 54 = .ok (.iload_n 2, 1) := by decide +kernel
theorem dX12_puts_55 : decode cX12_puts 55 = .ok (.ifCond .ne 9, 3) := by decide +kernel
theorem dX12_puts_58 : decode cX12_puts 58 = .ok (.iload 8, 2) := by decide +kernel
theorem dX12_puts_60 : decode cX12_puts 60 = .ok (.iconst 3, 1) := by decide +kernel
theorem dX12_puts_61 : decode cX12_puts 61 = .ok (.if_icmp .eq 14, 3) := by decide +kernel
theorem dX12_puts_64 : decode cX12_puts 64 = .ok (.iload_n 2, 1) := by decide +kernel
theorem dX12_puts_65 : decode cX12_puts 65 = .ok (.iconst 1, 1) := by decide +kernel
theorem dX12_puts_66 : decode cX12_puts 66 = .ok (.if_icmp .ne 16, 3) := by decide +kernel
theorem dX12_puts_69 : decode cX12_puts 69 = .ok (.iload 8, 2) := by decide +kernel
theorem dX12_puts_71 : decode cX12_puts 71 = .ok (.iconst 2, 1) := by decide +kernel
theorem dX12_puts_72 : decode cX12_puts 72 = .ok (.if_icmp .eq 10, 3) := by decide +kernel
theorem dX12_puts_75 : decode cX12_puts 75 = .ok (.aload_n 0, 1) := by decide +kernel
theorem dX12_puts_76 : decode cX12_puts 76 = .ok (.iconst 4, 1) := by decide +kernel
theorem dX12_puts_77 : decode cX12_puts 77 = .ok (.iload_n 1, 1) := by decide +kernel
theorem dX12_puts_78 : decode cX12_puts 78 = .ok (.invokevirtual 119, 3) := by decide +kernel
theorem dX12_puts_81 : decode cX12_puts 81 = .ok (.ireturn, 1) := by decide +kernel
theorem dX12_puts_82 : decode cX12_puts 82 = .ok (.aload_n 0, 1) := by decide +kernel
theorem dX12_puts_83 : decode cX12_puts 83 = .ok (.getfield 23, 3) := by decide +kernel
theorem dX12_puts_86 : decode cX12_puts 86 = .ok (.iconst 3, 1) := by decide +kernel
theorem dX12_puts_87 : decode cX12_puts 87 = .ok (.iload_n 2, 1) := by decide +kernel
theorem dX12_puts_88 : decode cX12_puts 88 = .ok (.imul, 1) := by decide +kernel
theorem dX12_puts_89 : decode cX12_puts 89 = .ok (.iload 9, 2) := by decide +kernel
theorem dX12_puts_91 : decode cX12_puts 91 = .ok (.iadd, 1) := by decide +kernel
theorem dX12_puts_92 : decode cX12_puts 92 = .ok (.iload 8, 2) := by decide +kernel
theorem dX12_puts_94 : decode cX12_puts 94 = .ok (.iastore, 1) := by decide +kernel
theorem dX12_puts_95 : decode cX12_puts 95 = .ok (.iconst 1, 1) := by decide +kernel
theorem dX12_puts_96 : decode cX12_puts 96 = .ok (.ireturn, 1) := by decide +kernel
theorem dX12_ask_0 : decode cX12_ask 0 = .ok (.aload_n 0, 1) := by decide +kernel
theorem dX12_ask_1 : decode cX12_ask 1 = .ok (.iconst 0, 1) := by decide +kernel
theorem dX12_ask_2 : decode cX12_ask 2 = .ok (.putfield 99, 3) := by decide +kernel
theorem dX12_ask_5 : decode cX12_ask 5 = .ok (.aload_n 0, 1) := by decide +kernel
theorem dX12_ask_6 : decode cX12_ask 6 = .ok (.iload_n 1, 1) := by decide +kernel
theorem dX12_ask_7 : decode cX12_ask 7 = .ok (.invokevirtual 106, 3) := by decide +kernel
theorem dX12_ask_10 : decode cX12_ask 10 = .ok (.ifCond .ne 5, 3) := by decide +kernel
theorem dX12_ask_13 : decode cX12_ask 13 = .ok (.iconst (-1), 1) := by decide +kernel
theorem dX12_ask_14 : decode cX12_ask 14 = .ok (.ireturn, 1) := by decide +kernel
theorem dX12_ask_15 : decode cX12_ask 15 = .ok (.aload_n 0, 1) := by decide +kernel
theorem dX12_ask_16 : decode cX12_ask 16 = .ok (.iconst 0, 1) := by decide +kernel
theorem dX12_ask_17 : decode cX12_ask 17 = .ok (.putfield 110, 3) := by decide +kernel
theorem dX12_ask_20 : decode cX12_ask 20 = .ok (.aload_n 0, 1) := by decide +kernel
theorem dX12_ask_21 : decode cX12_ask 21 = .ok (.iconst 0, 1) := by decide +kernel
theorem dX12_ask_22 : decode cX12_ask 22 = .ok (.putfield 113, 3) := by decide +kernel
theorem dX12_ask_25 : decode cX12_ask 25 = .ok (.aload_n 0, 1) := by decide +kernel
theorem dX12_ask_26 : decode cX12_ask 26 = .ok (.iload_n 1, 1) := by decide +kernel
theorem dX12_ask_27 : decode cX12_ask 27 = .ok (.lload_n 2, 1) := by decide +kernel
theorem dX12_ask_28 : decode cX12_ask 28 = .ok (.invokevirtual 131, 3) := by decide +kernel
theorem dX12_ask_31 : decode cX12_ask 31 = .ok (.istore 4, 2) := by decide +kernel
theorem dX12_ask_33 : decode cX12_ask 33 = .ok (.aload_n 0, 1) := by decide +kernel
theorem dX12_ask_34 : decode cX12_ask 34 = .ok (.getfield 113, 3) := by decide +kernel
theorem dX12_ask_37 : decode cX12_ask 37 = .ok (.ifCond .eq 13, 3) := by decide +kernel
theorem dX12_ask_40 : decode cX12_ask 40 = .ok (.bipush (-10), 2) := by decide +kernel
theorem dX12_ask_42 : decode cX12_ask 42 = .ok (.aload_n 0, 1) := by decide +kernel
theorem dX12_ask_43 : decode cX12_ask 43 = .ok (.getfield 113, 3) := by decide +kernel
theorem dX12_ask_46 : decode cX12_ask 46 = .ok (.isub, 1) := by decide +kernel
theorem dX12_ask_47 : decode cX12_ask 47 = .ok (.goto 13, 3) := by decide +kernel
theorem dX12_ask_50 : decode cX12_ask 50 = .ok (.iload 4, 2) := by decide +kernel
theorem dX12_ask_52 : decode cX12_ask 52 = .ok (.ifCond .eq 7, 3) := by decide +kernel
theorem dX12_ask_55 : decode cX12_ask 55 = .ok (.iconst 1, 1) := by decide +kernel
theorem dX12_ask_56 : decode cX12_ask 56 = .ok (.goto 4, 3) := by decide +kernel
theorem dX12_ask_59 : decode cX12_ask 59 = .ok (.iconst 0, 1) := by decide +kernel
theorem dX12_ask_60 : decode cX12_ask 60 = .ok (.ireturn, 1) := by decide +kernel
theorem dX12_asked_0 : decode cX12_asked 0 = .ok (.aload_n 0, 1) := by decide +kernel
theorem dX12_asked_1 : decode cX12_asked 1 = .ok (.iconst 0, 1) := by decide +kernel
theorem dX12_asked_2 : decode cX12_asked 2 = .ok (.putfield 99, 3) := by decide +kernel
theorem dX12_asked_5 : decode cX12_asked 5 = .ok (.aload_n 0, 1) := by decide +kernel
theorem dX12_asked_6 : decode cX12_asked 6 = .ok (.iload_n 1, 1) := by decide +kernel
theorem dX12_asked_7 : decode cX12_asked 7 = .ok (.invokevirtual 106, 3) := by decide +kernel
theorem dX12_asked_10 : decode cX12_asked 10 = .ok (.ifCond .eq 12, 3) := by decide +kernel
theorem dX12_asked_13 : decode cX12_asked 13 = .ok (.aload_n 0, 1) := by decide +kernel
theorem dX12_asked_14 : decode cX12_asked 14 = .ok (.getfield 41, 3) := by decide +kernel
theorem dX12_asked_17 : decode cX12_asked 17 = .ok (.iload_n 1, 1) := by decide +kernel
theorem dX12_asked_18 : decode cX12_asked 18 = .ok (.iaload, 1) := by decide +kernel
theorem dX12_asked_19 : decode cX12_asked 19 = .ok (.goto 4, 3) := by decide +kernel
theorem dX12_asked_22 : decode cX12_asked 22 = .ok (.iconst (-1), 1) := by decide +kernel
theorem dX12_asked_23 : decode cX12_asked 23 = .ok (.ireturn, 1) := by decide +kernel
theorem dX12_isSource_0 : decode cX12_isSource 0 = .ok (.iload_n 1, 1) := by decide +kernel
theorem dX12_isSource_1 : decode cX12_isSource 1 = .ok (.ifCond .lt 15, 3) := by decide +kernel
theorem dX12_isSource_4 : decode cX12_isSource 4 = .ok (.iload_n 1, 1) := by decide +kernel
theorem dX12_isSource_5 : decode cX12_isSource 5 = .ok (.aload_n 0, 1) := by decide +kernel
theorem dX12_isSource_6 : decode cX12_isSource 6 = .ok (.getfield 137, 3) := by decide +kernel
theorem dX12_isSource_9 : decode cX12_isSource 9 = .ok (.if_icmp .ge 7, 3) := by decide +kernel
theorem dX12_isSource_12 : decode cX12_isSource 12 = .ok (.iconst 1, 1) := by decide +kernel
theorem dX12_isSource_13 : decode cX12_isSource 13 = .ok (.goto 4, 3) := by decide +kernel
theorem dX12_isSource_16 : decode cX12_isSource 16 = .ok (.iconst 0, 1) := by decide +kernel
theorem dX12_isSource_17 : decode cX12_isSource 17 = .ok (.ireturn, 1) := by decide +kernel
theorem dX12_comes_0 : decode cX12_comes 0 = .ok (.aload_n 0, 1) := by decide +kernel
theorem dX12_comes_1 : decode cX12_comes 1 = .ok (.getfield 44, 3) := by decide +kernel
theorem dX12_comes_4 : decode cX12_comes 4 = .ok (.aload_n 0, 1) := by decide +kernel
theorem dX12_comes_5 : decode cX12_comes 5 = .ok (.getfield 137, 3) := by decide +kernel
theorem dX12_comes_8 : decode cX12_comes 8 = .ok (.iload_n 1, 1) := by decide +kernel
theorem dX12_comes_9 : decode cX12_comes 9 = .ok (.iastore, 1) := by decide +kernel
theorem dX12_comes_10 : decode cX12_comes 10 = .ok (.aload_n 0, 1) := by decide +kernel
theorem dX12_comes_11 : decode cX12_comes 11 = .ok (.getfield 65, 3) := by decide +kernel
theorem dX12_comes_14 : decode cX12_comes 14 = .ok (.aload_n 0, 1) := by decide +kernel
theorem dX12_comes_15 : decode cX12_comes 15 = .ok (.getfield 137, 3) := by decide +kernel
theorem dX12_comes_18 : decode cX12_comes 18 = .ok (.iload_n 2, 1) := by decide +kernel
theorem dX12_comes_19 : decode cX12_comes 19 = .ok (.bastore, 1) := by decide +kernel
theorem dX12_comes_20 : decode cX12_comes 20 = .ok (.aload_n 0, 1) := by decide +kernel
theorem dX12_comes_21 : decode cX12_comes 21 = .ok (.getfield 62, 3) := by decide +kernel
theorem dX12_comes_24 : decode cX12_comes 24 = .ok (.aload_n 0, 1) := by decide +kernel
theorem dX12_comes_25 : decode cX12_comes 25 = .ok (.getfield 137, 3) := by decide +kernel
theorem dX12_comes_28 : decode cX12_comes 28 = .ok (.iload_n 3, 1) := by decide +kernel
theorem dX12_comes_29 : decode cX12_comes 29 = .ok (.iastore, 1) := by decide +kernel
theorem dX12_comes_30 : decode cX12_comes 30 = .ok (.aload_n 0, 1) := by decide +kernel
theorem dX12_comes_31 : decode cX12_comes 31 = .ok (.dup, 1) := by decide +kernel
theorem dX12_comes_32 : decode cX12_comes 32 = .ok (.getfield 137, 3) := by decide +kernel
theorem dX12_comes_35 : decode cX12_comes 35 = .ok (.iconst 1, 1) := by decide +kernel
theorem dX12_comes_36 : decode cX12_comes 36 = .ok (.iadd, 1) := by decide +kernel
theorem dX12_comes_37 : decode cX12_comes 37 = .ok (.putfield 137, 3) := by decide +kernel
theorem dX12_comes_40 : decode cX12_comes 40 = .ok (.aload_n 0, 1) := by decide +kernel
theorem dX12_comes_41 : decode cX12_comes 41 = .ok (.getfield 137, 3) := by decide +kernel
theorem dX12_comes_44 : decode cX12_comes 44 = .ok (.iconst 1, 1) := by decide +kernel
theorem dX12_comes_45 : decode cX12_comes 45 = .ok (.isub, 1) := by decide +kernel
theorem dX12_comes_46 : decode cX12_comes 46 = .ok (.ireturn, 1) := by decide +kernel
theorem dX12_divided_0 : decode cX12_divided 0 = .ok (.lload_n 0, 1) := by decide +kernel
theorem dX12_divided_1 : decode cX12_divided 1 = .ok (.lconst 0, 1) := by decide +kernel
theorem dX12_divided_2 : decode cX12_divided 2 = .ok (.lcmp, 1) := by decide +kernel
theorem dX12_divided_3 : decode cX12_divided 3 = .ok (.ifCond .lt 7, 3) := by decide +kernel
theorem dX12_divided_6 : decode cX12_divided 6 = .ok (.lload_n 0, 1) := by decide +kernel
theorem dX12_divided_7 : decode cX12_divided 7 = .ok (.lload_n 2, 1) := by decide +kernel
theorem dX12_divided_8 : decode cX12_divided 8 = .ok (.ldiv, 1) := by decide +kernel
theorem dX12_divided_9 : decode cX12_divided 9 = .ok (.lreturn, 1) := by decide +kernel
theorem dX12_divided_10 : decode cX12_divided 10 = .ok (.lload_n 0, 1) := by decide +kernel
theorem dX12_divided_11 : decode cX12_divided 11 = .ok (.iconst 1, 1) := by decide +kernel
theorem dX12_divided_12 : decode cX12_divided 12 = .ok (.lushr, 1) := by decide +kernel
theorem dX12_divided_13 : decode cX12_divided 13 = .ok (.lload_n 2, 1) := by decide +kernel
theorem dX12_divided_14 : decode cX12_divided 14 = .ok (.ldiv, 1) := by decide +kernel
theorem dX12_divided_15 : decode cX12_divided 15 = .ok (.ldc2_w 140, 3) := by decide +kernel
theorem dX12_divided_18 : decode cX12_divided 18 = .ok (.lmul, 1) := by decide +kernel
theorem dX12_divided_19 : decode cX12_divided 19 = .ok (.lstore 4, 2) := by decide +kernel
theorem dX12_divided_21 : decode cX12_divided 21 = .ok (.lload_n 0, 1) := by decide +kernel
theorem dX12_divided_22 : decode cX12_divided 22 = .ok (.lload 4, 2) := by decide +kernel
theorem dX12_divided_24 : decode cX12_divided 24 = .ok (.lload_n 2, 1) := by decide +kernel
theorem dX12_divided_25 : decode cX12_divided 25 = .ok (.lmul, 1) := by decide +kernel
theorem dX12_divided_26 : decode cX12_divided 26 = .ok (.lsub, 1) := by decide +kernel
theorem dX12_divided_27 : decode cX12_divided 27 = .ok (.lstore 6, 2) := by decide +kernel
theorem dX12_divided_29 : decode cX12_divided 29 = .ok (.lload 6, 2) := by decide +kernel
theorem dX12_divided_31 : decode cX12_divided 31 = .ok (.lconst 0, 1) := by decide +kernel
theorem dX12_divided_32 : decode cX12_divided 32 = .ok (.lcmp, 1) := by decide +kernel
theorem dX12_divided_33 : decode cX12_divided 33 = .ok (.ifCond .lt 10, 3) := by decide +kernel
theorem dX12_divided_36 : decode cX12_divided 36 = .ok (.lload 6, 2) := by decide +kernel
theorem dX12_divided_38 : decode cX12_divided 38 = .ok (.lload_n 2, 1) := by decide +kernel
theorem dX12_divided_39 : decode cX12_divided 39 = .ok (.lcmp, 1) := by decide +kernel
theorem dX12_divided_40 : decode cX12_divided 40 = .ok (.ifCond .lt 10, 3) := by decide +kernel
theorem dX12_divided_43 : decode cX12_divided 43 = .ok (.lload 4, 2) := by decide +kernel
theorem dX12_divided_45 : decode cX12_divided 45 = .ok (.lconst 1, 1) := by decide +kernel
theorem dX12_divided_46 : decode cX12_divided 46 = .ok (.ladd, 1) := by decide +kernel
theorem dX12_divided_47 : decode cX12_divided 47 = .ok (.goto 5, 3) := by decide +kernel
theorem dX12_divided_50 : decode cX12_divided 50 = .ok (.lload 4, 2) := by decide +kernel
theorem dX12_divided_52 : decode cX12_divided 52 = .ok (.lreturn, 1) := by decide +kernel
theorem dX12_span_0 : decode cX12_span 0 = .ok (.aload_n 0, 1) := by decide +kernel
theorem dX12_span_1 : decode cX12_span 1 = .ok (.iconst 0, 1) := by decide +kernel
theorem dX12_span_2 : decode cX12_span 2 = .ok (.putfield 99, 3) := by decide +kernel
theorem dX12_span_5 : decode cX12_span 5 = .ok (.lload 5, 2) := by decide +kernel
theorem dX12_span_7 : decode cX12_span 7 = .ok (.lconst 1, 1) := by decide +kernel
theorem dX12_span_8 : decode cX12_span 8 = .ok (.lcmp, 1) := by decide +kernel
theorem dX12_span_9 : decode cX12_span 9 = .ok (.ifCond .ge 6, 3) := by decide +kernel
theorem dX12_span_12 : decode cX12_span 12 = .ok (.bipush (-2), 2) := by decide +kernel
theorem dX12_span_14 : decode cX12_span 14 = .ok (.ireturn, 1) := by decide +kernel
theorem dX12_span_15 : decode cX12_span 15 = .ok (.lconst 0, 1) := by decide +kernel
theorem dX12_span_16 : decode cX12_span 16 = .ok (.lstore 7, 2) := by decide +kernel
theorem dX12_span_18 : decode cX12_span 18 = .ok (.lload_n 1, 1) := by decide +kernel
theorem dX12_span_19 : decode cX12_span 19 = .ok (.lload_n 3, 1) := by decide +kernel
theorem dX12_span_20 : decode cX12_span 20 = .ok (.lcmp, 1) := by decide +kernel
theorem dX12_span_21 : decode cX12_span 21 = .ok (.ifCond .gt 38, 3) := by decide +kernel
theorem dX12_span_24 : decode cX12_span 24 = .ok (.lload_n 3, 1) := by decide +kernel
theorem dX12_span_25 : decode cX12_span 25 = .ok (.lload_n 1, 1) := by decide +kernel
theorem dX12_span_26 : decode cX12_span 26 = .ok (.lsub, 1) := by decide +kernel
theorem dX12_span_27 : decode cX12_span 27 = .ok (.lload 5, 2) := by decide +kernel
theorem dX12_span_29 : decode cX12_span 29 = .ok (.invokestatic 142, 3) := by decide +kernel
theorem dX12_span_32 : decode cX12_span 32 = .ok (.lstore 9, 2) := by decide +kernel
theorem dX12_span_34 : decode cX12_span 34 = .ok (.lload 9, 2) := by decide +kernel
theorem dX12_span_36 : decode cX12_span 36 = .ok (.lconst 0, 1) := by decide +kernel
theorem dX12_span_37 : decode cX12_span 37 = .ok (.lcmp, 1) := by decide +kernel
theorem dX12_span_38 : decode cX12_span 38 = .ok (.ifCond .lt 12, 3) := by decide +kernel
theorem dX12_span_41 : decode cX12_span 41 = .ok (.lload 9, 2) := by decide +kernel
theorem dX12_span_43 : decode cX12_span 43 = .ok (.ldc2_w 148, 3) := by decide +kernel
theorem dX12_span_46 : decode cX12_span 46 = .ok (.lcmp, 1) := by decide +kernel
theorem dX12_span_47 : decode cX12_span 47 = .ok (.ifCond .ne 6, 3) := by decide +kernel
theorem dX12_span_50 : decode cX12_span 50 = .ok (.bipush (-3), 2) := by decide +kernel
theorem dX12_span_52 : decode cX12_span 52 = .ok (.ireturn, 1) := by decide +kernel
theorem dX12_span_53 : decode cX12_span 53 = .ok (.lload 9, 2) := by decide +kernel
theorem dX12_span_55 : decode cX12_span 55 = .ok (.lconst 1, 1) := by decide +kernel
theorem dX12_span_56 : decode cX12_span 56 = .ok (.ladd, 1) := by decide +kernel
theorem dX12_span_57 : decode cX12_span 57 = .ok (.lstore 7, 2) := by decide +kernel
theorem dX12_span_59 : decode cX12_span 59 = .ok (.aload_n 0, 1) := by decide +kernel
theorem dX12_span_60 : decode cX12_span 60 = .ok (.getfield 137, 3) := by decide +kernel
theorem dX12_span_63 : decode cX12_span 63 = .ok (.bipush 20, 2) := by decide +kernel
theorem dX12_span_65 : decode cX12_span 65 = .ok (.if_icmp .ne 6, 3) := by decide +kernel
theorem dX12_span_68 : decode cX12_span 68 = .ok (.bipush (-3), 2) := by decide +kernel
theorem dX12_span_70 : decode cX12_span 70 = .ok (.ireturn, 1) := by decide +kernel
theorem dX12_span_71 : decode cX12_span 71 = .ok (.aload_n 0, 1) := by decide +kernel
theorem dX12_span_72 : decode cX12_span 72 = .ok (.getfield 69, 3) := by decide +kernel
theorem dX12_span_75 : decode cX12_span 75 = .ok (.aload_n 0, 1) := by decide +kernel
theorem dX12_span_76 : decode cX12_span 76 = .ok (.getfield 137, 3) := by decide +kernel
theorem dX12_span_79 : decode cX12_span 79 = .ok (.lload_n 1, 1) := by decide +kernel
theorem dX12_span_80 : decode cX12_span 80 = .ok (.lastore, 1) := by decide +kernel
theorem dX12_span_81 : decode cX12_span 81 = .ok (.aload_n 0, 1) := by decide +kernel
theorem dX12_span_82 : decode cX12_span 82 = .ok (.getfield 72, 3) := by decide +kernel
theorem dX12_span_85 : decode cX12_span 85 = .ok (.aload_n 0, 1) := by decide +kernel
theorem dX12_span_86 : decode cX12_span 86 = .ok (.getfield 137, 3) := by decide +kernel
theorem dX12_span_89 : decode cX12_span 89 = .ok (.lload 5, 2) := by decide +kernel
theorem dX12_span_91 : decode cX12_span 91 = .ok (.lastore, 1) := by decide +kernel
theorem dX12_span_92 : decode cX12_span 92 = .ok (.aload_n 0, 1) := by decide +kernel
theorem dX12_span_93 : decode cX12_span 93 = .ok (.getfield 75, 3) := by decide +kernel
theorem dX12_span_96 : decode cX12_span 96 = .ok (.aload_n 0, 1) := by decide +kernel
theorem dX12_span_97 : decode cX12_span 97 = .ok (.getfield 137, 3) := by decide +kernel
theorem dX12_span_100 : decode cX12_span 100 = .ok (.lload 7, 2) := by decide +kernel
theorem dX12_span_102 : decode cX12_span 102 = .ok (.lastore, 1) := by decide +kernel
theorem dX12_span_103 : decode cX12_span 103 = .ok (.aload_n 0, 1) := by decide +kernel
theorem dX12_span_104 : decode cX12_span 104 = .ok (.iconst 0, 1) := by decide +kernel
theorem dX12_span_105 : decode cX12_span 105 = .ok (.iconst 1, 1) := by decide +kernel
theorem dX12_span_106 : decode cX12_span 106 = .ok (.iconst 1, 1) := by decide +kernel
theorem dX12_span_107 : decode cX12_span 107 = .ok (.invokevirtual 150, 3) := by decide +kernel
theorem dX12_span_110 : decode cX12_span 110 = .ok (.ireturn, 1) := by decide +kernel
theorem dX12_list_0 : decode cX12_list 0 = .ok (.aload_n 0, 1) := by decide +kernel
theorem dX12_list_1 : decode cX12_list 1 = .ok (.iconst 0, 1) := by decide +kernel
theorem dX12_list_2 : decode cX12_list 2 = .ok (.putfield 99, 3) := by decide +kernel
theorem dX12_list_5 : decode cX12_list 5 = .ok (.aload_n 0, 1) := by decide +kernel
theorem dX12_list_6 : decode cX12_list 6 = .ok (.getfield 137, 3) := by decide +kernel
theorem dX12_list_9 : decode cX12_list 9 = .ok (.bipush 20, 2) := by decide +kernel
theorem dX12_list_11 : decode cX12_list 11 = .ok (.if_icmp .ne 6, 3) := by decide +kernel
theorem dX12_list_14 : decode cX12_list 14 = .ok (.bipush (-3), 2) := by decide +kernel
theorem dX12_list_16 : decode cX12_list 16 = .ok (.ireturn, 1) := by decide +kernel
theorem dX12_list_17 : decode cX12_list 17 = .ok (.aload_n 0, 1) := by decide +kernel
theorem dX12_list_18 : decode cX12_list 18 = .ok (.getfield 75, 3) := by decide +kernel
theorem dX12_list_21 : decode cX12_list 21 = .ok (.aload_n 0, 1) := by decide +kernel
theorem dX12_list_22 : decode cX12_list 22 = .ok (.getfield 137, 3) := by decide +kernel
theorem dX12_list_25 : decode cX12_list 25 = .ok (.lconst 0, 1) := by decide +kernel
theorem dX12_list_26 : decode cX12_list 26 = .ok (.lastore, 1) := by decide +kernel
theorem dX12_list_27 : decode cX12_list 27 = .ok (.aload_n 0, 1) := by decide +kernel
theorem dX12_list_28 : decode cX12_list 28 = .ok (.iconst 1, 1) := by decide +kernel
theorem dX12_list_29 : decode cX12_list 29 = .ok (.iconst 0, 1) := by decide +kernel
theorem dX12_list_30 : decode cX12_list 30 = .ok (.iconst 1, 1) := by decide +kernel
theorem dX12_list_31 : decode cX12_list 31 = .ok (.invokevirtual 150, 3) := by decide +kernel
theorem dX12_list_34 : decode cX12_list 34 = .ok (.ireturn, 1) := by decide +kernel
theorem dX12_add_0 : decode cX12_add 0 = .ok (.aload_n 0, 1) := by decide +kernel
theorem dX12_add_1 : decode cX12_add 1 = .ok (.iconst 0, 1) := by decide +kernel
theorem dX12_add_2 : decode cX12_add 2 = .ok (.putfield 99, 3) := by decide +kernel
theorem dX12_add_5 : decode cX12_add 5 = .ok (.aload_n 0, 1) := by decide +kernel
theorem dX12_add_6 : decode cX12_add 6 = .ok (.iload_n 1, 1) := by decide +kernel
theorem dX12_add_7 : decode cX12_add 7 = .ok (.invokevirtual 154, 3) := by decide +kernel
theorem dX12_add_10 : decode cX12_add 10 = .ok (.ifCond .eq 13, 3) := by decide +kernel
theorem dX12_add_13 : decode cX12_add 13 = .ok (.aload_n 0, 1) := by decide +kernel
theorem dX12_add_14 : decode cX12_add 14 = .ok (.getfield 44, 3) := by decide +kernel
theorem dX12_add_17 : decode cX12_add 17 = .ok (.iload_n 1, 1) := by decide +kernel
theorem dX12_add_18 : decode cX12_add 18 = .ok (.iaload, 1) := by decide +kernel
theorem dX12_add_19 : decode cX12_add 19 = .ok (.iconst 1, 1) := by decide +kernel
theorem dX12_add_20 : decode cX12_add 20 = .ok (.if_icmp .eq 5, 3) := by decide +kernel
theorem dX12_add_23 : decode cX12_add 23 = .ok (.iconst (-1), 1) := by decide +kernel
theorem dX12_add_24 : decode cX12_add 24 = .ok (.ireturn, 1) := by decide +kernel
theorem dX12_add_25 : decode cX12_add 25 = .ok (.aload_n 0, 1) := by decide +kernel
theorem dX12_add_26 : decode cX12_add 26 = .ok (.getfield 75, 3) := by decide +kernel
theorem dX12_add_29 : decode cX12_add 29 = .ok (.iload_n 1, 1) := by decide +kernel
theorem dX12_add_30 : decode cX12_add 30 = .ok (.laload, 1) := by decide +kernel
theorem dX12_add_31 : decode cX12_add 31 = .ok (.ldc2_w 125, 3) := by decide +kernel
theorem dX12_add_34 : decode cX12_add 34 = .ok (.lcmp, 1) := by decide +kernel
theorem dX12_add_35 : decode cX12_add 35 = .ok (.ifCond .ne 6, 3) := by decide +kernel
theorem dX12_add_38 : decode cX12_add 38 = .ok (.bipush (-3), 2) := by decide +kernel
theorem dX12_add_40 : decode cX12_add 40 = .ok (.ireturn, 1) := by decide +kernel
theorem dX12_add_41 : decode cX12_add 41 = .ok (.aload_n 0, 1) := by decide +kernel
theorem dX12_add_42 : decode cX12_add 42 = .ok (.getfield 78, 3) := by decide +kernel
theorem dX12_add_45 : decode cX12_add 45 = .ok (.bipush 12, 2) := by decide +kernel
theorem dX12_add_47 : decode cX12_add 47 = .ok (.iload_n 1, 1) := by decide +kernel
theorem dX12_add_48 : decode cX12_add 48 = .ok (.imul, 1) := by decide +kernel
theorem dX12_add_49 : decode cX12_add 49 = .ok (.aload_n 0, 1) := by decide +kernel
theorem dX12_add_50 : decode cX12_add 50 = .ok (.getfield 75, 3) := by decide +kernel
theorem dX12_add_53 : decode cX12_add 53 = .ok (.iload_n 1, 1) := by decide +kernel
theorem dX12_add_54 : decode cX12_add 54 = .ok (.laload, 1) := by decide +kernel
theorem dX12_add_55 : decode cX12_add 55 = .ok (.l2i, 1) := by decide +kernel
theorem dX12_add_56 : decode cX12_add 56 = .ok (.iadd, 1) := by decide +kernel
theorem dX12_add_57 : decode cX12_add 57 = .ok (.lload_n 2, 1) := by decide +kernel
theorem dX12_add_58 : decode cX12_add 58 = .ok (.lastore, 1) := by decide +kernel
theorem dX12_add_59 : decode cX12_add 59 = .ok (.aload_n 0, 1) := by decide +kernel
theorem dX12_add_60 : decode cX12_add 60 = .ok (.getfield 75, 3) := by decide +kernel
theorem dX12_add_63 : decode cX12_add 63 = .ok (.iload_n 1, 1) := by decide +kernel
theorem dX12_add_64 : decode cX12_add 64 = .ok (.dup2, 1) := by decide +kernel
theorem dX12_add_65 : decode cX12_add 65 = .ok (.laload, 1) := by decide +kernel
theorem dX12_add_66 : decode cX12_add 66 = .ok (.lconst 1, 1) := by decide +kernel
theorem dX12_add_67 : decode cX12_add 67 = .ok (.ladd, 1) := by decide +kernel
theorem dX12_add_68 : decode cX12_add 68 = .ok (.lastore, 1) := by decide +kernel
theorem dX12_add_69 : decode cX12_add 69 = .ok (.aload_n 0, 1) := by decide +kernel
theorem dX12_add_70 : decode cX12_add 70 = .ok (.getfield 75, 3) := by decide +kernel
theorem dX12_add_73 : decode cX12_add 73 = .ok (.iload_n 1, 1) := by decide +kernel
theorem dX12_add_74 : decode cX12_add 74 = .ok (.laload, 1) := by decide +kernel
theorem dX12_add_75 : decode cX12_add 75 = .ok (.l2i, 1) := by decide +kernel
theorem dX12_add_76 : decode cX12_add 76 = .ok (.ireturn, 1) := by decide +kernel
theorem dX12_source_0 : decode cX12_source 0 = .ok (.aload_n 0, 1) := by decide +kernel
theorem dX12_source_1 : decode cX12_source 1 = .ok (.iconst 0, 1) := by decide +kernel
theorem dX12_source_2 : decode cX12_source 2 = .ok (.putfield 99, 3) := by decide +kernel
theorem dX12_source_5 : decode cX12_source 5 = .ok (.iload_n 1, 1) := by decide +kernel
theorem dX12_source_6 : decode cX12_source 6 = .ok (.iconst 2, 1) := by decide +kernel
theorem dX12_source_7 : decode cX12_source 7 = .ok (.if_icmp .lt 65, 3) := by decide +kernel
theorem dX12_source_10 : decode cX12_source 10 = .ok (.iload_n 1, 1) := by decide +kernel
theorem dX12_source_11 : decode cX12_source 11 = .ok (.bipush 9, 2) := by decide +kernel
theorem dX12_source_13 : decode cX12_source 13 = .ok (.if_icmp .gt 59, 3) := by decide +kernel
theorem dX12_source_16 : decode cX12_source 16 = .ok (.iload_n 1, 1) := by decide +kernel
theorem dX12_source_17 : decode cX12_source 17 = .ok (.bipush 6, 2) := by decide +kernel
theorem dX12_source_19 : decode cX12_source 19 = .ok (.if_icmp .ne 16, 3) := by decide +kernel
theorem dX12_source_22 : decode cX12_source 22 = .ok (.iload 5, 2) := by decide +kernel
theorem dX12_source_24 : decode cX12_source 24 = .ok (.ifCond .lt 48, 3) := by decide +kernel
theorem dX12_source_27 : decode cX12_source 27 = .ok (.iload 5, 2) := by decide +kernel
theorem dX12_source_29 : decode cX12_source 29 = .ok (.sipush 200, 3) := by decide +kernel
theorem dX12_source_32 : decode cX12_source 32 = .ok (.if_icmp .gt 40, 3) := by decide +kernel
theorem dX12_source_35 : decode cX12_source 35 = .ok (.iload_n 1, 1) := by decide +kernel
theorem dX12_source_36 : decode cX12_source 36 = .ok (.bipush 8, 2) := by decide +kernel
theorem dX12_source_38 : decode cX12_source 38 = .ok (.if_icmp .ne 17, 3) := by decide +kernel
theorem dX12_source_41 : decode cX12_source 41 = .ok (.iload 5, 2) := by decide +kernel
theorem dX12_source_43 : decode cX12_source 43 = .ok (.iconst 1, 1) := by decide +kernel
theorem dX12_source_44 : decode cX12_source 44 = .ok (.if_icmp .lt 28, 3) := by decide +kernel
theorem dX12_source_47 : decode cX12_source 47 = .ok (.iload 5, 2) := by decide +kernel
theorem dX12_source_49 : decode cX12_source 49 = .ok (.sipush 200, 3) := by decide +kernel
theorem dX12_source_52 : decode cX12_source 52 = .ok (.if_icmp .gt 20, 3) := by decide +kernel
theorem dX12_source_55 : decode cX12_source 55 = .ok (.iload_n 1, 1) := by decide +kernel
theorem dX12_source_56 : decode cX12_source 56 = .ok (.bipush 9, 2) := by decide +kernel
theorem dX12_source_58 : decode cX12_source 58 = .ok (.if_icmp .ne 17, 3) := by decide +kernel
theorem dX12_source_61 : decode cX12_source 61 = .ok (.iload 4, 2) := by decide +kernel
theorem dX12_source_63 : decode cX12_source 63 = .ok (.ifCond .lt 9, 3) := by decide +kernel
theorem dX12_source_66 : decode cX12_source 66 = .ok (.iload 4, 2) := by decide +kernel
theorem dX12_source_68 : decode cX12_source 68 = .ok (.iconst 5, 1) := by decide +kernel
theorem dX12_source_69 : decode cX12_source 69 = .ok (.if_icmp .le 6, 3) := by decide +kernel
theorem dX12_source_72 : decode cX12_source 72 = .ok (.bipush (-2), 2) := by decide +kernel
theorem dX12_source_74 : decode cX12_source 74 = .ok (.ireturn, 1) := by decide +kernel
theorem dX12_source_75 : decode cX12_source 75 = .ok (.iload_n 1, 1) := by decide +kernel
theorem dX12_source_76 : decode cX12_source 76 = .ok (.iconst 5, 1) := by decide +kernel
theorem dX12_source_77 : decode cX12_source 77 = .ok (.if_icmp .ge 7, 3) := by decide +kernel
theorem dX12_source_80 : decode cX12_source 80 = .ok (.iconst 1, 1) := by decide +kernel
theorem dX12_source_81 : decode cX12_source 81 = .ok (.goto 4, 3) := by decide +kernel
theorem dX12_source_84 : decode cX12_source 84 = .ok (.iconst 0, 1) := by decide +kernel
theorem dX12_source_85 : decode cX12_source 85 = .ok (.istore 8, 2) := by decide +kernel
theorem dX12_source_87 : decode cX12_source 87 = .ok (.iload_n 1, 1) := by decide +kernel
theorem dX12_source_88 : decode cX12_source 88 = .ok (.bipush 9, 2) := by decide +kernel
theorem dX12_source_90 : decode cX12_source 90 = .ok (.if_icmp .ge 11, 3) := by decide +kernel
theorem dX12_source_93 : decode cX12_source 93 = .ok (.aload_n 0, 1) := by decide +kernel
theorem dX12_source_94 : decode cX12_source 94 = .ok (.iload_n 2, 1) := by decide +kernel
theorem dX12_source_95 : decode cX12_source 95 = .ok (.invokevirtual 154, 3) := by decide +kernel
theorem dX12_source_98 : decode cX12_source 98 = .ok (.ifCond .eq 31, 3) := by decide +kernel
theorem dX12_source_101 : decode cX12_source 101 = .ok (.iload 8, 2) := by decide +kernel
theorem dX12_source_103 : decode cX12_source 103 = .ok (.ifCond .eq 11, 3) := by decide +kernel
theorem dX12_source_106 : decode cX12_source 106 = .ok (.aload_n 0, 1) := by decide +kernel
theorem dX12_source_107 : decode cX12_source 107 = .ok (.iload_n 3, 1) := by decide +kernel
theorem dX12_source_108 : decode cX12_source 108 = .ok (.invokevirtual 154, 3) := by decide +kernel
theorem dX12_source_111 : decode cX12_source 111 = .ok (.ifCond .eq 18, 3) := by decide +kernel
theorem dX12_source_114 : decode cX12_source 114 = .ok (.iload_n 1, 1) := by decide +kernel
theorem dX12_source_115 : decode cX12_source 115 = .ok (.bipush 7, 2) := by decide +kernel
theorem dX12_source_117 : decode cX12_source 117 = .ok (.if_icmp .ne 14, 3) := by decide +kernel
theorem dX12_source_120 : decode cX12_source 120 = .ok (.aload_n 0, 1) := by decide +kernel
theorem dX12_source_121 : decode cX12_source 121 = .ok (.iload 4, 2) := by decide +kernel
theorem dX12_source_123 : decode cX12_source 123 = .ok (.invokevirtual 106, 3) := by decide +kernel
theorem dX12_source_126 : decode cX12_source 126 = .ok (.ifCond .ne 5, 3) := by decide +kernel
theorem dX12_source_129 : decode cX12_source 129 = .ok (.iconst (-1), 1) := by decide +kernel
theorem dX12_source_130 : decode cX12_source 130 = .ok (.ireturn, 1) := by decide +kernel
theorem dX12_source_131 : decode cX12_source 131 = .ok (.iload_n 1, 1) := by decide +kernel
theorem dX12_source_132 : decode cX12_source 132 = .ok (.bipush 9, 2) := by decide +kernel
theorem dX12_source_134 : decode cX12_source 134 = .ok (.if_icmp .ne 7, 3) := by decide +kernel
theorem dX12_source_137 : decode cX12_source 137 = .ok (.iconst 1, 1) := by decide +kernel
theorem dX12_source_138 : decode cX12_source 138 = .ok (.goto 11, 3) := by decide +kernel
theorem dX12_source_141 : decode cX12_source 141 = .ok (.aload_n 0, 1) := by decide +kernel
theorem dX12_source_142 : decode cX12_source 142 = .ok (.getfield 62, 3) := by decide +kernel
theorem dX12_source_145 : decode cX12_source 145 = .ok (.iload_n 2, 1) := by decide +kernel
theorem dX12_source_146 : decode cX12_source 146 = .ok (.iaload, 1) := by decide +kernel
theorem dX12_source_147 : decode cX12_source 147 = .ok (.iconst 1, 1) := by decide +kernel
theorem dX12_source_148 : decode cX12_source 148 = .ok (.iadd, 1) := by decide +kernel
theorem dX12_source_149 : decode cX12_source 149 = .ok (.istore 9, 2) := by decide +kernel
theorem dX12_source_151 : decode cX12_source 151 = .ok (.iload 8, 2) := by decide +kernel
theorem dX12_source_153 : decode cX12_source 153 = .ok (.ifCond .eq 26, 3) := by decide +kernel
theorem dX12_source_156 : decode cX12_source 156 = .ok (.aload_n 0, 1) := by decide +kernel
theorem dX12_source_157 : decode cX12_source 157 = .ok (.getfield 62, 3) := by decide +kernel
theorem dX12_source_160 : decode cX12_source 160 = .ok (.iload_n 3, 1) := by decide +kernel
theorem dX12_source_161 : decode cX12_source 161 = .ok (.iaload, 1) := by decide +kernel
theorem dX12_source_162 : decode cX12_source 162 = .ok (.iconst 1, 1) := by decide +kernel
theorem dX12_source_163 : decode cX12_source 163 = .ok (.iadd, 1) := by decide +kernel
theorem dX12_source_164 : decode cX12_source 164 = .ok (.iload 9, 2) := by decide +kernel
theorem dX12_source_166 : decode cX12_source 166 = .ok (.if_icmp .le 13, 3) := by decide +kernel
theorem dX12_source_169 : decode cX12_source 169 = .ok (.aload_n 0, 1) := by decide +kernel
theorem dX12_source_170 : decode cX12_source 170 = .ok (.getfield 62, 3) := by decide +kernel
theorem dX12_source_173 : decode cX12_source 173 = .ok (.iload_n 3, 1) := by decide +kernel
theorem dX12_source_174 : decode cX12_source 174 = .ok (.iaload, 1) := by decide +kernel
theorem dX12_source_175 : decode cX12_source 175 = .ok (.iconst 1, 1) := by decide +kernel
theorem dX12_source_176 : decode cX12_source 176 = .ok (.iadd, 1) := by decide +kernel
theorem dX12_source_177 : decode cX12_source 177 = .ok (.istore 9, 2) := by decide +kernel
theorem dX12_source_179 : decode cX12_source 179 = .ok (.aload_n 0, 1) := by decide +kernel
theorem dX12_source_180 : decode cX12_source 180 = .ok (.getfield 137, 3) := by decide +kernel
theorem dX12_source_183 : decode cX12_source 183 = .ok (.bipush 20, 2) := by decide +kernel
theorem dX12_source_185 : decode cX12_source 185 = .ok (.if_icmp .eq 10, 3) := by decide +kernel
theorem dX12_source_188 : decode cX12_source 188 = .ok (.iload 9, 2) := by decide +kernel
theorem dX12_source_190 : decode cX12_source 190 = .ok (.bipush 6, 2) := by decide +kernel
theorem dX12_source_192 : decode cX12_source 192 = .ok (.if_icmp .le 6, 3) := by decide +kernel
theorem dX12_source_195 : decode cX12_source 195 = .ok (.bipush (-3), 2) := by decide +kernel
theorem dX12_source_197 : decode cX12_source 197 = .ok (.ireturn, 1) := by decide +kernel
theorem dX12_source_198 : decode cX12_source 198 = .ok (.aload_n 0, 1) := by decide +kernel
theorem dX12_source_199 : decode cX12_source 199 = .ok (.getfield 47, 3) := by decide +kernel
theorem dX12_source_202 : decode cX12_source 202 = .ok (.aload_n 0, 1) := by decide +kernel
theorem dX12_source_203 : decode cX12_source 203 = .ok (.getfield 137, 3) := by decide +kernel
theorem dX12_source_206 : decode cX12_source 206 = .ok (.iload_n 2, 1) := by decide +kernel
theorem dX12_source_207 : decode cX12_source 207 = .ok (.iastore, 1) := by decide +kernel
theorem dX12_source_208 : decode cX12_source 208 = .ok (.aload_n 0, 1) := by decide +kernel
theorem dX12_source_209 : decode cX12_source 209 = .ok (.getfield 50, 3) := by decide +kernel
theorem dX12_source_212 : decode cX12_source 212 = .ok (.aload_n 0, 1) := by decide +kernel
theorem dX12_source_213 : decode cX12_source 213 = .ok (.getfield 137, 3) := by decide +kernel
theorem dX12_source_216 : decode cX12_source 216 = .ok (.iload_n 3, 1) := by decide +kernel
theorem dX12_source_217 : decode cX12_source 217 = .ok (.iastore, 1) := by decide +kernel
theorem dX12_source_218 : decode cX12_source 218 = .ok (.aload_n 0, 1) := by decide +kernel
theorem dX12_source_219 : decode cX12_source 219 = .ok (.getfield 53, 3) := by decide +kernel
theorem dX12_source_222 : decode cX12_source 222 = .ok (.aload_n 0, 1) := by decide +kernel
theorem dX12_source_223 : decode cX12_source 223 = .ok (.getfield 137, 3) := by decide +kernel
theorem dX12_source_226 : decode cX12_source 226 = .ok (.iload 4, 2) := by decide +kernel
theorem dX12_source_228 : decode cX12_source 228 = .ok (.iastore, 1) := by decide +kernel
theorem dX12_source_229 : decode cX12_source 229 = .ok (.aload_n 0, 1) := by decide +kernel
theorem dX12_source_230 : decode cX12_source 230 = .ok (.getfield 56, 3) := by decide +kernel
theorem dX12_source_233 : decode cX12_source 233 = .ok (.aload_n 0, 1) := by decide +kernel
theorem dX12_source_234 : decode cX12_source 234 = .ok (.getfield 137, 3) := by decide +kernel
theorem dX12_source_237 : decode cX12_source 237 = .ok (.iload 5, 2) := by decide +kernel
theorem dX12_source_239 : decode cX12_source 239 = .ok (.iastore, 1) := by decide +kernel
theorem dX12_source_240 : decode cX12_source 240 = .ok (.aload_n 0, 1) := by decide +kernel
theorem dX12_source_241 : decode cX12_source 241 = .ok (.getfield 59, 3) := by decide +kernel
theorem dX12_source_244 : decode cX12_source 244 = .ok (.aload_n 0, 1) := by decide +kernel
theorem dX12_source_245 : decode cX12_source 245 = .ok (.getfield 137, 3) := by decide +kernel
theorem dX12_source_248 : decode cX12_source 248 = .ok (.lload 6, 2) := by decide +kernel
theorem dX12_source_250 : decode cX12_source 250 = .ok (.lastore, 1) := by decide +kernel
theorem dX12_source_251 : decode cX12_source 251 = .ok (.iload_n 1, 1) := by decide +kernel
theorem dX12_source_252 : decode cX12_source 252 = .ok (.iconst 5, 1) := by decide +kernel
theorem dX12_source_253 : decode cX12_source 253 = .ok (.if_icmp .eq 9, 3) := by decide +kernel
theorem dX12_source_256 : decode cX12_source 256 = .ok (.iload_n 1, 1) := by decide +kernel
theorem dX12_source_257 : decode cX12_source 257 = .ok (.bipush 8, 2) := by decide +kernel
theorem dX12_source_259 : decode cX12_source 259 = .ok (.if_icmp .ne 16, 3) := by decide +kernel
theorem dX12_source_262 : decode cX12_source 262 = .ok (.aload_n 0, 1) := by decide +kernel
theorem dX12_source_263 : decode cX12_source 263 = .ok (.getfield 65, 3) := by decide +kernel
theorem dX12_source_266 : decode cX12_source 266 = .ok (.iload_n 2, 1) := by decide +kernel
theorem dX12_source_267 : decode cX12_source 267 = .ok (.baload, 1) := by decide +kernel
theorem dX12_source_268 : decode cX12_source 268 = .ok (.ifCond .eq 7, 3) := by decide +kernel
theorem dX12_source_271 : decode cX12_source 271 = .ok (.iconst 1, 1) := by decide +kernel
theorem dX12_source_272 : decode cX12_source 272 = .ok (.goto 4, 3) := by decide +kernel
theorem dX12_source_275 : decode cX12_source 275 = .ok (.iconst 0, 1) := by decide +kernel
theorem dX12_source_276 : decode cX12_source 276 = .ok (.istore 10, 2) := by decide +kernel
theorem dX12_source_278 : decode cX12_source 278 = .ok (.iload 10, 2) := by decide +kernel
theorem dX12_source_280 : decode cX12_source 280 = .ok (.ifCond .eq 148, 3) := by decide +kernel
theorem dX12_source_283 : decode cX12_source 283 = .ok (.aload_n 0, 1) := by decide +kernel
theorem dX12_source_284 : decode cX12_source 284 = .ok (.getfield 75, 3) := by decide +kernel
theorem dX12_source_287 : decode cX12_source 287 = .ok (.iload_n 2, 1) := by decide +kernel
theorem dX12_source_288 : decode cX12_source 288 = .ok (.laload, 1) := by decide +kernel
theorem dX12_source_289 : decode cX12_source 289 = .ok (.lstore 11, 2) := by decide +kernel
theorem dX12_source_291 : decode cX12_source 291 = .ok (.iload_n 1, 1) := by decide +kernel
theorem dX12_source_292 : decode cX12_source 292 = .ok (.iconst 5, 1) := by decide +kernel
theorem dX12_source_293 : decode cX12_source 293 = .ok (.if_icmp .ne 71, 3) := by decide +kernel
theorem dX12_source_296 : decode cX12_source 296 = .ok (.aload_n 0, 1) := by decide +kernel
theorem dX12_source_297 : decode cX12_source 297 = .ok (.getfield 69, 3) := by decide +kernel
theorem dX12_source_300 : decode cX12_source 300 = .ok (.aload_n 0, 1) := by decide +kernel
theorem dX12_source_301 : decode cX12_source 301 = .ok (.getfield 137, 3) := by decide +kernel
theorem dX12_source_304 : decode cX12_source 304 = .ok (.aload_n 0, 1) := by decide +kernel
theorem dX12_source_305 : decode cX12_source 305 = .ok (.getfield 69, 3) := by decide +kernel
theorem dX12_source_308 : decode cX12_source 308 = .ok (.iload_n 2, 1) := by decide +kernel
theorem dX12_source_309 : decode cX12_source 309 = .ok (.laload, 1) := by decide +kernel
theorem dX12_source_310 : decode cX12_source 310 = .ok (.lload 11, 2) := by decide +kernel
theorem dX12_source_312 : decode cX12_source 312 = .ok (.lconst 0, 1) := by decide +kernel
theorem dX12_source_313 : decode cX12_source 313 = .ok (.lcmp, 1) := by decide +kernel
theorem dX12_source_314 : decode cX12_source 314 = .ok (.ifCond .ne 7, 3) := by decide +kernel
theorem dX12_source_317 : decode cX12_source 317 = .ok (.lconst 0, 1) := by decide +kernel
theorem dX12_source_318 : decode cX12_source 318 = .ok (.goto 14, 3) := by decide +kernel
theorem dX12_source_321 : decode cX12_source 321 = .ok (.lload 11, 2) := by decide +kernel
theorem dX12_source_323 : decode cX12_source 323 = .ok (.lconst 1, 1) := by decide +kernel
theorem dX12_source_324 : decode cX12_source 324 = .ok (.lsub, 1) := by decide +kernel
theorem dX12_source_325 : decode cX12_source 325 = .ok (.aload_n 0, 1) := by decide +kernel
theorem dX12_source_326 : decode cX12_source 326 = .ok (.getfield 72, 3) := by decide +kernel
theorem dX12_source_329 : decode cX12_source 329 = .ok (.iload_n 2, 1) := by decide +kernel
theorem dX12_source_330 : decode cX12_source 330 = .ok (.laload, 1) := by decide +kernel
theorem dX12_source_331 : decode cX12_source 331 = .ok (.lmul, 1) := by decide +kernel
theorem dX12_source_332 : decode cX12_source 332 = .ok (.ladd, 1) := by decide +kernel
theorem dX12_source_333 : decode cX12_source 333 = .ok (.lastore, 1) := by decide +kernel
theorem dX12_source_334 : decode cX12_source 334 = .ok (.aload_n 0, 1) := by decide +kernel
theorem dX12_source_335 : decode cX12_source 335 = .ok (.getfield 72, 3) := by decide +kernel
theorem dX12_source_338 : decode cX12_source 338 = .ok (.aload_n 0, 1) := by decide +kernel
theorem dX12_source_339 : decode cX12_source 339 = .ok (.getfield 137, 3) := by decide +kernel
theorem dX12_source_342 : decode cX12_source 342 = .ok (.aload_n 0, 1) := by decide +kernel
theorem dX12_source_343 : decode cX12_source 343 = .ok (.getfield 72, 3) := by decide +kernel
theorem dX12_source_346 : decode cX12_source 346 = .ok (.iload_n 2, 1) := by decide +kernel
theorem dX12_source_347 : decode cX12_source 347 = .ok (.laload, 1) := by decide +kernel
theorem dX12_source_348 : decode cX12_source 348 = .ok (.lneg, 1) := by decide +kernel
theorem dX12_source_349 : decode cX12_source 349 = .ok (.lastore, 1) := by decide +kernel
theorem dX12_source_350 : decode cX12_source 350 = .ok (.aload_n 0, 1) := by decide +kernel
theorem dX12_source_351 : decode cX12_source 351 = .ok (.getfield 75, 3) := by decide +kernel
theorem dX12_source_354 : decode cX12_source 354 = .ok (.aload_n 0, 1) := by decide +kernel
theorem dX12_source_355 : decode cX12_source 355 = .ok (.getfield 137, 3) := by decide +kernel
theorem dX12_source_358 : decode cX12_source 358 = .ok (.lload 11, 2) := by decide +kernel
theorem dX12_source_360 : decode cX12_source 360 = .ok (.lastore, 1) := by decide +kernel
theorem dX12_source_361 : decode cX12_source 361 = .ok (.goto 67, 3) := by decide +kernel
theorem dX12_source_364 : decode cX12_source 364 = .ok (.aload_n 0, 1) := by decide +kernel
theorem dX12_source_365 : decode cX12_source 365 = .ok (.getfield 69, 3) := by decide +kernel
theorem dX12_source_368 : decode cX12_source 368 = .ok (.aload_n 0, 1) := by decide +kernel
theorem dX12_source_369 : decode cX12_source 369 = .ok (.getfield 137, 3) := by decide +kernel
theorem dX12_source_372 : decode cX12_source 372 = .ok (.aload_n 0, 1) := by decide +kernel
theorem dX12_source_373 : decode cX12_source 373 = .ok (.getfield 69, 3) := by decide +kernel
theorem dX12_source_376 : decode cX12_source 376 = .ok (.iload_n 2, 1) := by decide +kernel
theorem dX12_source_377 : decode cX12_source 377 = .ok (.laload, 1) := by decide +kernel
theorem dX12_source_378 : decode cX12_source 378 = .ok (.lastore, 1) := by decide +kernel
theorem dX12_source_379 : decode cX12_source 379 = .ok (.aload_n 0, 1) := by decide +kernel
theorem dX12_source_380 : decode cX12_source 380 = .ok (.getfield 72, 3) := by decide +kernel
theorem dX12_source_383 : decode cX12_source 383 = .ok (.aload_n 0, 1) := by decide +kernel
theorem dX12_source_384 : decode cX12_source 384 = .ok (.getfield 137, 3) := by decide +kernel
theorem dX12_source_387 : decode cX12_source 387 = .ok (.aload_n 0, 1) := by decide +kernel
theorem dX12_source_388 : decode cX12_source 388 = .ok (.getfield 72, 3) := by decide +kernel
theorem dX12_source_391 : decode cX12_source 391 = .ok (.iload_n 2, 1) := by decide +kernel
theorem dX12_source_392 : decode cX12_source 392 = .ok (.laload, 1) := by decide +kernel
theorem dX12_source_393 : decode cX12_source 393 = .ok (.iload 5, 2) := by decide +kernel
theorem dX12_source_395 : decode cX12_source 395 = .ok (.i2l, 1) := by decide +kernel
theorem dX12_source_396 : decode cX12_source 396 = .ok (.lmul, 1) := by decide +kernel
theorem dX12_source_397 : decode cX12_source 397 = .ok (.lastore, 1) := by decide +kernel
theorem dX12_source_398 : decode cX12_source 398 = .ok (.aload_n 0, 1) := by decide +kernel
theorem dX12_source_399 : decode cX12_source 399 = .ok (.getfield 75, 3) := by decide +kernel
theorem dX12_source_402 : decode cX12_source 402 = .ok (.aload_n 0, 1) := by decide +kernel
theorem dX12_source_403 : decode cX12_source 403 = .ok (.getfield 137, 3) := by decide +kernel
theorem dX12_source_406 : decode cX12_source 406 = .ok (.lload 11, 2) := by decide +kernel
theorem dX12_source_408 : decode cX12_source 408 = .ok (.lconst 0, 1) := by decide +kernel
theorem dX12_source_409 : decode cX12_source 409 = .ok (.lcmp, 1) := by decide +kernel
theorem dX12_source_410 : decode cX12_source 410 = .ok (.ifCond .ne 7, 3) := by decide +kernel
theorem dX12_source_413 : decode cX12_source 413 = .ok (.lconst 0, 1) := by decide +kernel
theorem dX12_source_414 : decode cX12_source 414 = .ok (.goto 13, 3) := by decide +kernel
theorem dX12_source_417 : decode cX12_source 417 = .ok (.lload 11, 2) := by decide +kernel
theorem dX12_source_419 : decode cX12_source 419 = .ok (.lconst 1, 1) := by decide +kernel
theorem dX12_source_420 : decode cX12_source 420 = .ok (.lsub, 1) := by decide +kernel
theorem dX12_source_421 : decode cX12_source 421 = .ok (.iload 5, 2) := by decide +kernel
theorem dX12_source_423 : decode cX12_source 423 = .ok (.i2l, 1) := by decide +kernel
theorem dX12_source_424 : decode cX12_source 424 = .ok (.ldiv, 1) := by decide +kernel
theorem dX12_source_425 : decode cX12_source 425 = .ok (.lconst 1, 1) := by decide +kernel
theorem dX12_source_426 : decode cX12_source 426 = .ok (.ladd, 1) := by decide +kernel
theorem dX12_source_427 : decode cX12_source 427 = .ok (.lastore, 1) := by decide +kernel
theorem dX12_source_428 : decode cX12_source 428 = .ok (.aload_n 0, 1) := by decide +kernel
theorem dX12_source_429 : decode cX12_source 429 = .ok (.iload_n 1, 1) := by decide +kernel
theorem dX12_source_430 : decode cX12_source 430 = .ok (.iload 10, 2) := by decide +kernel
theorem dX12_source_432 : decode cX12_source 432 = .ok (.iload 9, 2) := by decide +kernel
theorem dX12_source_434 : decode cX12_source 434 = .ok (.invokevirtual 150, 3) := by decide +kernel
theorem dX12_source_437 : decode cX12_source 437 = .ok (.ireturn, 1) := by decide +kernel
theorem dX12_goes_0 : decode cX12_goes 0 = .ok (.aload_n 0, 1) := by decide +kernel
theorem dX12_goes_1 : decode cX12_goes 1 = .ok (.getfield 84, 3) := by decide +kernel
theorem dX12_goes_4 : decode cX12_goes 4 = .ok (.iload_n 2, 1) := by decide +kernel
theorem dX12_goes_5 : decode cX12_goes 5 = .ok (.iconst 0, 1) := by decide +kernel
theorem dX12_goes_6 : decode cX12_goes 6 = .ok (.iastore, 1) := by decide +kernel
theorem dX12_goes_7 : decode cX12_goes 7 = .ok (.aload_n 0, 1) := by decide +kernel
theorem dX12_goes_8 : decode cX12_goes 8 = .ok (.getfield 65, 3) := by decide +kernel
theorem dX12_goes_11 : decode cX12_goes 11 = .ok (.iload_n 1, 1) := by decide +kernel
theorem dX12_goes_12 : decode cX12_goes 12 = .ok (.baload, 1) := by decide +kernel
theorem dX12_goes_13 : decode cX12_goes 13 = .ok (.ifCond .eq 65, 3) := by decide +kernel
theorem dX12_goes_16 : decode cX12_goes 16 = .ok (.aload_n 0, 1) := by decide +kernel
theorem dX12_goes_17 : decode cX12_goes 17 = .ok (.getfield 75, 3) := by decide +kernel
theorem dX12_goes_20 : decode cX12_goes 20 = .ok (.iload_n 1, 1) := by decide +kernel
theorem dX12_goes_21 : decode cX12_goes 21 = .ok (.laload, 1) := by decide +kernel
theorem dX12_goes_22 : decode cX12_goes 22 = .ok (.ldc2_w 157, 3) := by decide +kernel
theorem dX12_goes_25 : decode cX12_goes 25 = .ok (.lcmp, 1) := by decide +kernel
theorem dX12_goes_26 : decode cX12_goes 26 = .ok (.ifCond .le 10, 3) := by decide +kernel
theorem dX12_goes_29 : decode cX12_goes 29 = .ok (.aload_n 0, 1) := by decide +kernel
theorem dX12_goes_30 : decode cX12_goes 30 = .ok (.iconst 1, 1) := by decide +kernel
theorem dX12_goes_31 : decode cX12_goes 31 = .ok (.putfield 159, 3) := by decide +kernel
theorem dX12_goes_34 : decode cX12_goes 34 = .ok (.iconst 0, 1) := by decide +kernel
theorem dX12_goes_35 : decode cX12_goes 35 = .ok (.ireturn, 1) := by decide +kernel
theorem dX12_goes_36 : decode cX12_goes 36 = .ok (.lconst 0, 1) := by decide +kernel
theorem dX12_goes_37 : decode cX12_goes 37 = .ok (.lstore_n 3, 1) := by decide +kernel
theorem dX12_goes_38 : decode cX12_goes 38 = .ok (.lload_n 3, 1) := by decide +kernel
theorem dX12_goes_39 : decode cX12_goes 39 = .ok (.aload_n 0, 1) := by decide +kernel
theorem dX12_goes_40 : decode cX12_goes 40 = .ok (.getfield 75, 3) := by decide +kernel
theorem dX12_goes_43 : decode cX12_goes 43 = .ok (.iload_n 1, 1) := by decide +kernel
theorem dX12_goes_44 : decode cX12_goes 44 = .ok (.laload, 1) := by decide +kernel
theorem dX12_goes_45 : decode cX12_goes 45 = .ok (.lcmp, 1) := by decide +kernel
theorem dX12_goes_46 : decode cX12_goes 46 = .ok (.ifCond .ge 30, 3) := by decide +kernel
theorem dX12_goes_49 : decode cX12_goes 49 = .ok (.aload_n 0, 1) := by decide +kernel
theorem dX12_goes_50 : decode cX12_goes 50 = .ok (.iload_n 2, 1) := by decide +kernel
theorem dX12_goes_51 : decode cX12_goes 51 = .ok (.aload_n 0, 1) := by decide +kernel
theorem dX12_goes_52 : decode cX12_goes 52 = .ok (.getfield 69, 3) := by decide +kernel
theorem dX12_goes_55 : decode cX12_goes 55 = .ok (.iload_n 1, 1) := by decide +kernel
theorem dX12_goes_56 : decode cX12_goes 56 = .ok (.laload, 1) := by decide +kernel
theorem dX12_goes_57 : decode cX12_goes 57 = .ok (.lload_n 3, 1) := by decide +kernel
theorem dX12_goes_58 : decode cX12_goes 58 = .ok (.aload_n 0, 1) := by decide +kernel
theorem dX12_goes_59 : decode cX12_goes 59 = .ok (.getfield 72, 3) := by decide +kernel
theorem dX12_goes_62 : decode cX12_goes 62 = .ok (.iload_n 1, 1) := by decide +kernel
theorem dX12_goes_63 : decode cX12_goes 63 = .ok (.laload, 1) := by decide +kernel
theorem dX12_goes_64 : decode cX12_goes 64 = .ok (.lmul, 1) := by decide +kernel
theorem dX12_goes_65 : decode cX12_goes 65 = .ok (.ladd, 1) := by decide +kernel
theorem dX12_goes_66 : decode cX12_goes 66 = .ok (.invokevirtual 163, 3) := by decide +kernel
theorem dX12_goes_69 : decode cX12_goes 69 = .ok (.lload_n 3, 1) := by decide +kernel
theorem dX12_goes_70 : decode cX12_goes 70 = .ok (.lconst 1, 1) := by decide +kernel
theorem dX12_goes_71 : decode cX12_goes 71 = .ok (.ladd, 1) := by decide +kernel
theorem dX12_goes_72 : decode cX12_goes 72 = .ok (.lstore_n 3, 1) := by decide +kernel
theorem dX12_goes_73 : decode cX12_goes 73 = .ok (.goto (-35), 3) := by decide +kernel
theorem dX12_goes_76 : decode cX12_goes 76 = .ok (.iconst 1, 1) := by decide +kernel
theorem dX12_goes_77 : decode cX12_goes 77 = .ok (.ireturn, 1) := by decide +kernel
theorem dX12_goes_78 : decode cX12_goes 78 = .ok (.iload_n 2, 1) := by decide +kernel
theorem dX12_goes_79 : decode cX12_goes 79 = .ok (.iconst 1, 1) := by decide +kernel
theorem dX12_goes_80 : decode cX12_goes 80 = .ok (.iadd, 1) := by decide +kernel
theorem dX12_goes_81 : decode cX12_goes 81 = .ok (.istore_n 3, 1) := by decide +kernel
theorem dX12_goes_82 : decode cX12_goes 82 = .ok (.aload_n 0, 1) := by decide +kernel
theorem dX12_goes_83 : decode cX12_goes 83 = .ok (.getfield 44, 3) := by decide +kernel
theorem dX12_goes_86 : decode cX12_goes 86 = .ok (.iload_n 1, 1) := by decide +kernel
theorem dX12_goes_87 : decode cX12_goes 87 = .ok (.iaload, 1) := by decide +kernel
theorem dX12_goes_88 : decode cX12_goes 88 = .ok (.tableswitch 106 1 9 #[52, 92, 92, 92, 106, 106, 106, 106, 99], 52) := by decide +kernel
theorem dX12_goes_140 : decode cX12_goes 140 = .ok (.iconst 0, 1) := by decide +kernel
theorem dX12_goes_141 : decode cX12_goes 141 = .ok (.istore 4, 2) := by decide +kernel
theorem dX12_goes_143 : decode cX12_goes 143 = .ok (.iload 4, 2) := by decide +kernel
theorem dX12_goes_145 : decode cX12_goes 145 = .ok (.aload_n 0, 1) := by decide +kernel
theorem dX12_goes_146 : decode cX12_goes 146 = .ok (.getfield 75, 3) := by decide +kernel
theorem dX12_goes_149 : decode cX12_goes 149 = .ok (.iload_n 1, 1) := by decide +kernel
theorem dX12_goes_150 : decode cX12_goes 150 = .ok (.laload, 1) := by decide +kernel
theorem dX12_goes_151 : decode cX12_goes 151 = .ok (.l2i, 1) := by decide +kernel
theorem dX12_goes_152 : decode cX12_goes 152 = .ok (.if_icmp .ge 26, 3) := by decide +kernel
theorem dX12_goes_155 : decode cX12_goes 155 = .ok (.aload_n 0, 1) := by decide +kernel
theorem dX12_goes_156 : decode cX12_goes 156 = .ok (.iload_n 2, 1) := by decide +kernel
theorem dX12_goes_157 : decode cX12_goes 157 = .ok (.aload_n 0, 1) := by decide +kernel
theorem dX12_goes_158 : decode cX12_goes 158 = .ok (.getfield 78, 3) := by decide +kernel
theorem dX12_goes_161 : decode cX12_goes 161 = .ok (.bipush 12, 2) := by decide +kernel
theorem dX12_goes_163 : decode cX12_goes 163 = .ok (.iload_n 1, 1) := by decide +kernel
theorem dX12_goes_164 : decode cX12_goes 164 = .ok (.imul, 1) := by decide +kernel
theorem dX12_goes_165 : decode cX12_goes 165 = .ok (.iload 4, 2) := by decide +kernel
theorem dX12_goes_167 : decode cX12_goes 167 = .ok (.iadd, 1) := by decide +kernel
theorem dX12_goes_168 : decode cX12_goes 168 = .ok (.laload, 1) := by decide +kernel
theorem dX12_goes_169 : decode cX12_goes 169 = .ok (.invokevirtual 163, 3) := by decide +kernel
theorem dX12_goes_172 : decode cX12_goes 172 = .ok (.iinc 4 1, 3) := by decide +kernel
theorem dX12_goes_175 : decode cX12_goes 175 = .ok (.goto (-32), 3) := by decide +kernel
theorem dX12_goes_178 : decode cX12_goes 178 = .ok (.iconst 1, 1) := by decide +kernel
theorem dX12_goes_179 : decode cX12_goes 179 = .ok (.ireturn, 1) := by decide +kernel
theorem dX12_goes_180 : decode cX12_goes 180 = .ok (.aload_n 0, 1) := by decide +kernel
theorem dX12_goes_181 : decode cX12_goes 181 = .ok (.iload_n 1, 1) := by decide +kernel
theorem dX12_goes_182 : decode cX12_goes 182 = .ok (.iload_n 2, 1) := by decide +kernel
theorem dX12_goes_183 : decode cX12_goes 183 = .ok (.invokevirtual 167, 3) := by decide +kernel
theorem dX12_goes_186 : decode cX12_goes 186 = .ok (.ireturn, 1) := by decide +kernel
theorem dX12_goes_187 : decode cX12_goes 187 = .ok (.aload_n 0, 1) := by decide +kernel
theorem dX12_goes_188 : decode cX12_goes 188 = .ok (.iload_n 1, 1) := by decide +kernel
theorem dX12_goes_189 : decode cX12_goes 189 = .ok (.iload_n 2, 1) := by decide +kernel
theorem dX12_goes_190 : decode cX12_goes 190 = .ok (.invokevirtual 170, 3) := by decide +kernel
theorem dX12_goes_193 : decode cX12_goes 193 = .ok (.ireturn, 1) := by decide +kernel
theorem dX12_goes_194 : decode cX12_goes 194 = .ok (.aload_n 0, 1) := by decide +kernel
theorem dX12_goes_195 : decode cX12_goes 195 = .ok (.aload_n 0, 1) := by decide +kernel
theorem dX12_goes_196 : decode cX12_goes 196 = .ok (.getfield 47, 3) := by decide +kernel
theorem dX12_goes_199 : decode cX12_goes 199 = .ok (.iload_n 1, 1) := by decide +kernel
theorem dX12_goes_200 : decode cX12_goes 200 = .ok (.iaload, 1) := by decide +kernel
theorem dX12_goes_201 : decode cX12_goes 201 = .ok (.iload_n 3, 1) := by decide +kernel
theorem dX12_goes_202 : decode cX12_goes 202 = .ok (.invokevirtual 173, 3) := by decide +kernel
theorem dX12_goes_205 : decode cX12_goes 205 = .ok (.ifCond .ne 5, 3) := by decide +kernel
theorem dX12_goes_208 : decode cX12_goes 208 = .ok (.iconst 0, 1) := by decide +kernel
theorem dX12_goes_209 : decode cX12_goes 209 = .ok (.ireturn, 1) := by decide +kernel
theorem dX12_goes_210 : decode cX12_goes 210 = .ok (.aload_n 0, 1) := by decide +kernel
theorem dX12_goes_211 : decode cX12_goes 211 = .ok (.iload_n 1, 1) := by decide +kernel
theorem dX12_goes_212 : decode cX12_goes 212 = .ok (.iload_n 2, 1) := by decide +kernel
theorem dX12_goes_213 : decode cX12_goes 213 = .ok (.iload_n 3, 1) := by decide +kernel
theorem dX12_goes_214 : decode cX12_goes 214 = .ok (.invokevirtual 176, 3) := by decide +kernel
theorem dX12_goes_217 : decode cX12_goes 217 = .ok (.ireturn, 1) := by decide +kernel
theorem dX12_put_0 : decode cX12_put 0 = .ok (.aload_n 0, 1) := by decide +kernel
theorem dX12_put_1 : decode cX12_put 1 = .ok (.getfield 81, 3) := by decide +kernel
theorem dX12_put_4 : decode cX12_put 4 = .ok (.sipush 201, 3) := by decide +kernel
theorem dX12_put_7 : decode cX12_put 7 = .ok (.iload_n 1, 1) := by decide +kernel
theorem dX12_put_8 : decode cX12_put 8 = .ok (.imul, 1) := by decide +kernel
theorem dX12_put_9 : decode cX12_put 9 = .ok (.aload_n 0, 1) := by decide +kernel
theorem dX12_put_10 : decode cX12_put 10 = .ok (.getfield 84, 3) := by decide +kernel
theorem dX12_put_13 : decode cX12_put 13 = .ok (.iload_n 1, 1) := by decide +kernel
theorem dX12_put_14 : decode cX12_put 14 = .ok (.iaload, 1) := by decide +kernel
theorem dX12_put_15 : decode cX12_put 15 = .ok (.iadd, 1) := by decide +kernel
theorem dX12_put_16 : decode cX12_put 16 = .ok (.lload_n 2, 1) := by decide +kernel
theorem dX12_put_17 : decode cX12_put 17 = .ok (.lastore, 1) := by decide +kernel
theorem dX12_put_18 : decode cX12_put 18 = .ok (.aload_n 0, 1) := by decide +kernel
theorem dX12_put_19 : decode cX12_put 19 = .ok (.getfield 84, 3) := by decide +kernel
theorem dX12_put_22 : decode cX12_put 22 = .ok (.iload_n 1, 1) := by decide +kernel
theorem dX12_put_23 : decode cX12_put 23 = .ok (.dup2, 1) := by decide +kernel
theorem dX12_put_24 : decode cX12_put 24 = .ok (.iaload, 1) := by decide +kernel
theorem dX12_put_25 : decode cX12_put 25 = .ok (.iconst 1, 1) := by decide +kernel
theorem dX12_put_26 : decode cX12_put 26 = .ok (.iadd, 1) := by decide +kernel
theorem dX12_put_27 : decode cX12_put 27 = .ok (.iastore, 1) := by decide +kernel
theorem dX12_put_28 : decode cX12_put 28 = .ok (.return_, 1) := by decide +kernel
theorem dX12_isIn_0 : decode cX12_isIn 0 = .ok (.iconst 0, 1) := by decide +kernel
theorem dX12_isIn_1 : decode cX12_isIn 1 = .ok (.istore 4, 2) := by decide +kernel
theorem dX12_isIn_3 : decode cX12_isIn 3 = .ok (.iload 4, 2) := by decide +kernel
theorem dX12_isIn_5 : decode cX12_isIn 5 = .ok (.aload_n 0, 1) := by decide +kernel
theorem dX12_isIn_6 : decode cX12_isIn 6 = .ok (.getfield 84, 3) := by decide +kernel
theorem dX12_isIn_9 : decode cX12_isIn 9 = .ok (.iload_n 1, 1) := by decide +kernel
theorem dX12_isIn_10 : decode cX12_isIn 10 = .ok (.iaload, 1) := by decide +kernel
theorem dX12_isIn_11 : decode cX12_isIn 11 = .ok (.if_icmp .ge 29, 3) := by decide +kernel
theorem dX12_isIn_14 : decode cX12_isIn 14 = .ok (.aload_n 0, 1) := by decide +kernel
theorem dX12_isIn_15 : decode cX12_isIn 15 = .ok (.getfield 81, 3) := by decide +kernel
theorem dX12_isIn_18 : decode cX12_isIn 18 = .ok (.sipush 201, 3) := by decide +kernel
theorem dX12_isIn_21 : decode cX12_isIn 21 = .ok (.iload_n 1, 1) := by decide +kernel
theorem dX12_isIn_22 : decode cX12_isIn 22 = .ok (.imul, 1) := by decide +kernel
theorem dX12_isIn_23 : decode cX12_isIn 23 = .ok (.iload 4, 2) := by decide +kernel
theorem dX12_isIn_25 : decode cX12_isIn 25 = .ok (.iadd, 1) := by decide +kernel
theorem dX12_isIn_26 : decode cX12_isIn 26 = .ok (.laload, 1) := by decide +kernel
theorem dX12_isIn_27 : decode cX12_isIn 27 = .ok (.lload_n 2, 1) := by decide +kernel
theorem dX12_isIn_28 : decode cX12_isIn 28 = .ok (.lcmp, 1) := by decide +kernel
theorem dX12_isIn_29 : decode cX12_isIn 29 = .ok (.ifCond .ne 5, 3) := by decide +kernel
theorem dX12_isIn_32 : decode cX12_isIn 32 = .ok (.iconst 1, 1) := by decide +kernel
theorem dX12_isIn_33 : decode cX12_isIn 33 = .ok (.ireturn, 1) := by decide +kernel
theorem dX12_isIn_34 : decode cX12_isIn 34 = .ok (.iinc 4 1, 3) := by decide +kernel
theorem dX12_isIn_37 : decode cX12_isIn 37 = .ok (.goto (-34), 3) := by decide +kernel
theorem dX12_isIn_40 : decode cX12_isIn 40 = .ok (.iconst 0, 1) := by decide +kernel
theorem dX12_isIn_41 : decode cX12_isIn 41 = .ok (.ireturn, 1) := by decide +kernel
theorem dX12_twoOf_0 : decode cX12_twoOf 0 = .ok (.iload_n 2, 1) := by decide +kernel
theorem dX12_twoOf_1 : decode cX12_twoOf 1 = .ok (.iconst 1, 1) := by decide +kernel
theorem dX12_twoOf_2 : decode cX12_twoOf 2 = .ok (.iadd, 1) := by decide +kernel
theorem dX12_twoOf_3 : decode cX12_twoOf 3 = .ok (.istore_n 3, 1) := by decide +kernel
theorem dX12_twoOf_4 : decode cX12_twoOf 4 = .ok (.iload_n 2, 1) := by decide +kernel
theorem dX12_twoOf_5 : decode cX12_twoOf 5 = .ok (.iconst 2, 1) := by decide +kernel
theorem dX12_twoOf_6 : decode cX12_twoOf 6 = .ok (.iadd, 1) := by decide +kernel
theorem dX12_twoOf_7 : decode cX12_twoOf 7 = .ok (.istore 4, 2) := by decide +kernel
theorem dX12_twoOf_9 : decode cX12_twoOf 9 = .ok (.aload_n 0, 1) := by decide +kernel
theorem dX12_twoOf_10 : decode cX12_twoOf 10 = .ok (.aload_n 0, 1) := by decide +kernel
theorem dX12_twoOf_11 : decode cX12_twoOf 11 = .ok (.getfield 47, 3) := by decide +kernel
theorem dX12_twoOf_14 : decode cX12_twoOf 14 = .ok (.iload_n 1, 1) := by decide +kernel
theorem dX12_twoOf_15 : decode cX12_twoOf 15 = .ok (.iaload, 1) := by decide +kernel
theorem dX12_twoOf_16 : decode cX12_twoOf 16 = .ok (.iload_n 3, 1) := by decide +kernel
theorem dX12_twoOf_17 : decode cX12_twoOf 17 = .ok (.invokevirtual 173, 3) := by decide +kernel
theorem dX12_twoOf_20 : decode cX12_twoOf 20 = .ok (.ifCond .eq 18, 3) := by decide +kernel
theorem dX12_twoOf_23 : decode cX12_twoOf 23 = .ok (.aload_n 0, 1) := by decide +kernel
theorem dX12_twoOf_24 : decode cX12_twoOf 24 = .ok (.aload_n 0, 1) := by decide +kernel
theorem dX12_twoOf_25 : decode cX12_twoOf 25 = .ok (.getfield 50, 3) := by decide +kernel
theorem dX12_twoOf_28 : decode cX12_twoOf 28 = .ok (.iload_n 1, 1) := by decide +kernel
theorem dX12_twoOf_29 : decode cX12_twoOf 29 = .ok (.iaload, 1) := by decide +kernel
theorem dX12_twoOf_30 : decode cX12_twoOf 30 = .ok (.iload 4, 2) := by decide +kernel
theorem dX12_twoOf_32 : decode cX12_twoOf 32 = .ok (.invokevirtual 173, 3) := by decide +kernel
theorem dX12_twoOf_35 : decode cX12_twoOf 35 = .ok (.ifCond .ne 5, 3) := by decide +kernel
theorem dX12_twoOf_38 : decode cX12_twoOf 38 = .ok (.iconst 0, 1) := by decide +kernel
theorem dX12_twoOf_39 : decode cX12_twoOf 39 = .ok (.ireturn, 1) := by decide +kernel
theorem dX12_twoOf_40 : decode cX12_twoOf 40 = .ok (.aload_n 0, 1) := by decide +kernel
theorem dX12_twoOf_41 : decode cX12_twoOf 41 = .ok (.getfield 84, 3) := by decide +kernel
theorem dX12_twoOf_44 : decode cX12_twoOf 44 = .ok (.iload_n 2, 1) := by decide +kernel
theorem dX12_twoOf_45 : decode cX12_twoOf 45 = .ok (.iconst 0, 1) := by decide +kernel
theorem dX12_twoOf_46 : decode cX12_twoOf 46 = .ok (.iastore, 1) := by decide +kernel
theorem dX12_twoOf_47 : decode cX12_twoOf 47 = .ok (.aload_n 0, 1) := by decide +kernel
theorem dX12_twoOf_48 : decode cX12_twoOf 48 = .ok (.getfield 44, 3) := by decide +kernel
theorem dX12_twoOf_51 : decode cX12_twoOf 51 = .ok (.iload_n 1, 1) := by decide +kernel
theorem dX12_twoOf_52 : decode cX12_twoOf 52 = .ok (.iaload, 1) := by decide +kernel
theorem dX12_twoOf_53 : decode cX12_twoOf 53 = .ok (.iconst 2, 1) := by decide +kernel
theorem dX12_twoOf_54 : decode cX12_twoOf 54 = .ok (.if_icmp .ne 110, 3) := by decide +kernel
theorem dX12_twoOf_57 : decode cX12_twoOf 57 = .ok (.aload_n 0, 1) := by decide +kernel
theorem dX12_twoOf_58 : decode cX12_twoOf 58 = .ok (.getfield 84, 3) := by decide +kernel
theorem dX12_twoOf_61 : decode cX12_twoOf 61 = .ok (.iload_n 3, 1) := by decide +kernel
theorem dX12_twoOf_62 : decode cX12_twoOf 62 = .ok (.iaload, 1) := by decide +kernel
theorem dX12_twoOf_63 : decode cX12_twoOf 63 = .ok (.aload_n 0, 1) := by decide +kernel
theorem dX12_twoOf_64 : decode cX12_twoOf 64 = .ok (.getfield 84, 3) := by decide +kernel
theorem dX12_twoOf_67 : decode cX12_twoOf 67 = .ok (.iload 4, 2) := by decide +kernel
theorem dX12_twoOf_69 : decode cX12_twoOf 69 = .ok (.iaload, 1) := by decide +kernel
theorem dX12_twoOf_70 : decode cX12_twoOf 70 = .ok (.iadd, 1) := by decide +kernel
theorem dX12_twoOf_71 : decode cX12_twoOf 71 = .ok (.sipush 200, 3) := by decide +kernel
theorem dX12_twoOf_74 : decode cX12_twoOf 74 = .ok (.if_icmp .le 10, 3) := by decide +kernel
theorem dX12_twoOf_77 : decode cX12_twoOf 77 = .ok (.aload_n 0, 1) := by decide +kernel
theorem dX12_twoOf_78 : decode cX12_twoOf 78 = .ok (.iconst 1, 1) := by decide +kernel
theorem dX12_twoOf_79 : decode cX12_twoOf 79 = .ok (.putfield 159, 3) := by decide +kernel
theorem dX12_twoOf_82 : decode cX12_twoOf 82 = .ok (.iconst 0, 1) := by decide +kernel
theorem dX12_twoOf_83 : decode cX12_twoOf 83 = .ok (.ireturn, 1) := by decide +kernel
theorem dX12_twoOf_84 : decode cX12_twoOf 84 = .ok (.iconst 0, 1) := by decide +kernel
theorem dX12_twoOf_85 : decode cX12_twoOf 85 = .ok (.istore 5, 2) := by decide +kernel
theorem dX12_twoOf_87 : decode cX12_twoOf 87 = .ok (.iload 5, 2) := by decide +kernel
theorem dX12_twoOf_89 : decode cX12_twoOf 89 = .ok (.aload_n 0, 1) := by decide +kernel
theorem dX12_twoOf_90 : decode cX12_twoOf 90 = .ok (.getfield 84, 3) := by decide +kernel
theorem dX12_twoOf_93 : decode cX12_twoOf 93 = .ok (.iload_n 3, 1) := by decide +kernel
theorem dX12_twoOf_94 : decode cX12_twoOf 94 = .ok (.iaload, 1) := by decide +kernel
theorem dX12_twoOf_95 : decode cX12_twoOf 95 = .ok (.if_icmp .ge 27, 3) := by decide +kernel
theorem dX12_twoOf_98 : decode cX12_twoOf 98 = .ok (.aload_n 0, 1) := by decide +kernel
theorem dX12_twoOf_99 : decode cX12_twoOf 99 = .ok (.iload_n 2, 1) := by decide +kernel
theorem dX12_twoOf_100 : decode cX12_twoOf 100 = .ok (.aload_n 0, 1) := by decide +kernel
theorem dX12_twoOf_101 : decode cX12_twoOf 101 = .ok (.getfield 81, 3) := by decide +kernel
theorem dX12_twoOf_104 : decode cX12_twoOf 104 = .ok (.sipush 201, 3) := by decide +kernel
theorem dX12_twoOf_107 : decode cX12_twoOf 107 = .ok (.iload_n 3, 1) := by decide +kernel
theorem dX12_twoOf_108 : decode cX12_twoOf 108 = .ok (.imul, 1) := by decide +kernel
theorem dX12_twoOf_109 : decode cX12_twoOf 109 = .ok (.iload 5, 2) := by decide +kernel
theorem dX12_twoOf_111 : decode cX12_twoOf 111 = .ok (.iadd, 1) := by decide +kernel
theorem dX12_twoOf_112 : decode cX12_twoOf 112 = .ok (.laload, 1) := by decide +kernel
theorem dX12_twoOf_113 : decode cX12_twoOf 113 = .ok (.invokevirtual 163, 3) := by decide +kernel
theorem dX12_twoOf_116 : decode cX12_twoOf 116 = .ok (.iinc 5 1, 3) := by decide +kernel
theorem dX12_twoOf_119 : decode cX12_twoOf 119 = .ok (.goto (-32), 3) := by decide +kernel
theorem dX12_twoOf_122 : decode cX12_twoOf 122 = .ok (.iconst 0, 1) := by decide +kernel
theorem dX12_twoOf_123 : decode cX12_twoOf 123 = .ok (.istore 5, 2) := by decide +kernel
theorem dX12_twoOf_125 : decode cX12_twoOf 125 = .ok (.iload 5, 2) := by decide +kernel
theorem dX12_twoOf_127 : decode cX12_twoOf 127 = .ok (.aload_n 0, 1) := by decide +kernel
theorem dX12_twoOf_128 : decode cX12_twoOf 128 = .ok (.getfield 84, 3) := by decide +kernel
theorem dX12_twoOf_131 : decode cX12_twoOf 131 = .ok (.iload 4, 2) := by decide +kernel
theorem dX12_twoOf_133 : decode cX12_twoOf 133 = .ok (.iaload, 1) := by decide +kernel
theorem dX12_twoOf_134 : decode cX12_twoOf 134 = .ok (.if_icmp .ge 28, 3) := by decide +kernel
theorem dX12_twoOf_137 : decode cX12_twoOf 137 = .ok (.aload_n 0, 1) := by decide +kernel
theorem dX12_twoOf_138 : decode cX12_twoOf 138 = .ok (.iload_n 2, 1) := by decide +kernel
theorem dX12_twoOf_139 : decode cX12_twoOf 139 = .ok (.aload_n 0, 1) := by decide +kernel
theorem dX12_twoOf_140 : decode cX12_twoOf 140 = .ok (.getfield 81, 3) := by decide +kernel
theorem dX12_twoOf_143 : decode cX12_twoOf 143 = .ok (.sipush 201, 3) := by decide +kernel
theorem dX12_twoOf_146 : decode cX12_twoOf 146 = .ok (.iload 4, 2) := by decide +kernel
theorem dX12_twoOf_148 : decode cX12_twoOf 148 = .ok (.imul, 1) := by decide +kernel
theorem dX12_twoOf_149 : decode cX12_twoOf 149 = .ok (.iload 5, 2) := by decide +kernel
theorem dX12_twoOf_151 : decode cX12_twoOf 151 = .ok (.iadd, 1) := by decide +kernel
theorem dX12_twoOf_152 : decode cX12_twoOf 152 = .ok (.laload, 1) := by decide +kernel
theorem dX12_twoOf_153 : decode cX12_twoOf 153 = .ok (.invokevirtual 163, 3) := by decide +kernel
theorem dX12_twoOf_156 : decode cX12_twoOf 156 = .ok (.iinc 5 1, 3) := by decide +kernel
theorem dX12_twoOf_159 : decode cX12_twoOf 159 = .ok (.goto (-34), 3) := by decide +kernel
theorem dX12_twoOf_162 : decode cX12_twoOf 162 = .ok (.iconst 1, 1) := by decide +kernel
theorem dX12_twoOf_163 : decode cX12_twoOf 163 = .ok (.ireturn, 1) := by decide +kernel
theorem dX12_twoOf_164 : decode cX12_twoOf 164 = .ok (.iconst 0, 1) := by decide +kernel
theorem dX12_twoOf_165 : decode cX12_twoOf 165 = .ok (.istore 5, 2) := by decide +kernel
theorem dX12_twoOf_167 : decode cX12_twoOf 167 = .ok (.iload 5, 2) := by decide +kernel
theorem dX12_twoOf_169 : decode cX12_twoOf 169 = .ok (.aload_n 0, 1) := by decide +kernel
theorem dX12_twoOf_170 : decode cX12_twoOf 170 = .ok (.getfield 84, 3) := by decide +kernel
theorem dX12_twoOf_173 : decode cX12_twoOf 173 = .ok (.iload_n 3, 1) := by decide +kernel
theorem dX12_twoOf_174 : decode cX12_twoOf 174 = .ok (.iaload, 1) := by decide +kernel
theorem dX12_twoOf_175 : decode cX12_twoOf 175 = .ok (.if_icmp .ge 57, 3) := by decide +kernel
theorem dX12_twoOf_178 : decode cX12_twoOf 178 = .ok (.aload_n 0, 1) := by decide +kernel
theorem dX12_twoOf_179 : decode cX12_twoOf 179 = .ok (.getfield 81, 3) := by decide +kernel
theorem dX12_twoOf_182 : decode cX12_twoOf 182 = .ok (.sipush 201, 3) := by decide +kernel
theorem dX12_twoOf_185 : decode cX12_twoOf 185 = .ok (.iload_n 3, 1) := by decide +kernel
theorem dX12_twoOf_186 : decode cX12_twoOf 186 = .ok (.imul, 1) := by decide +kernel
theorem dX12_twoOf_187 : decode cX12_twoOf 187 = .ok (.iload 5, 2) := by decide +kernel
theorem dX12_twoOf_189 : decode cX12_twoOf 189 = .ok (.iadd, 1) := by decide +kernel
theorem dX12_twoOf_190 : decode cX12_twoOf 190 = .ok (.laload, 1) := by decide +kernel
theorem dX12_twoOf_191 : decode cX12_twoOf 191 = .ok (.lstore 6, 2) := by decide +kernel
theorem dX12_twoOf_193 : decode cX12_twoOf 193 = .ok (.aload_n 0, 1) := by decide +kernel
theorem dX12_twoOf_194 : decode cX12_twoOf 194 = .ok (.iload 4, 2) := by decide +kernel
theorem dX12_twoOf_196 : decode cX12_twoOf 196 = .ok (.lload 6, 2) := by decide +kernel
theorem dX12_twoOf_198 : decode cX12_twoOf 198 = .ok (.invokevirtual 180, 3) := by decide +kernel
theorem dX12_twoOf_201 : decode cX12_twoOf 201 = .ok (.aload_n 0, 1) := by decide +kernel
theorem dX12_twoOf_202 : decode cX12_twoOf 202 = .ok (.getfield 44, 3) := by decide +kernel
theorem dX12_twoOf_205 : decode cX12_twoOf 205 = .ok (.iload_n 1, 1) := by decide +kernel
theorem dX12_twoOf_206 : decode cX12_twoOf 206 = .ok (.iaload, 1) := by decide +kernel
theorem dX12_twoOf_207 : decode cX12_twoOf 207 = .ok (.iconst 3, 1) := by decide +kernel
theorem dX12_twoOf_208 : decode cX12_twoOf 208 = .ok (.if_icmp .ne 7, 3) := by decide +kernel
theorem dX12_twoOf_211 : decode cX12_twoOf 211 = .ok (.iconst 1, 1) := by decide +kernel
theorem dX12_twoOf_212 : decode cX12_twoOf 212 = .ok (.goto 4, 3) := by decide +kernel
theorem dX12_twoOf_215 : decode cX12_twoOf 215 = .ok (.iconst 0, 1) := by decide +kernel
theorem dX12_twoOf_216 : decode cX12_twoOf 216 = .ok (.if_icmp .ne 10, 3) := by decide +kernel
theorem dX12_twoOf_219 : decode cX12_twoOf 219 = .ok (.aload_n 0, 1) := by decide +kernel
theorem dX12_twoOf_220 : decode cX12_twoOf 220 = .ok (.iload_n 2, 1) := by decide +kernel
theorem dX12_twoOf_221 : decode cX12_twoOf 221 = .ok (.lload 6, 2) := by decide +kernel
theorem dX12_twoOf_223 : decode cX12_twoOf 223 = .ok (.invokevirtual 163, 3) := by decide +kernel
theorem dX12_twoOf_226 : decode cX12_twoOf 226 = .ok (.iinc 5 1, 3) := by decide +kernel
theorem dX12_twoOf_229 : decode cX12_twoOf 229 = .ok (.goto (-62), 3) := by decide +kernel
theorem dX12_twoOf_232 : decode cX12_twoOf 232 = .ok (.iconst 1, 1) := by decide +kernel
theorem dX12_twoOf_233 : decode cX12_twoOf 233 = .ok (.ireturn, 1) := by decide +kernel
theorem dX12_shelfOf_0 : decode cX12_shelfOf 0 = .ok (.aload_n 0, 1) := by decide +kernel
theorem dX12_shelfOf_1 : decode cX12_shelfOf 1 = .ok (.getfield 53, 3) := by decide +kernel
theorem dX12_shelfOf_4 : decode cX12_shelfOf 4 = .ok (.iload_n 1, 1) := by decide +kernel
theorem dX12_shelfOf_5 : decode cX12_shelfOf 5 = .ok (.iaload, 1) := by decide +kernel
theorem dX12_shelfOf_6 : decode cX12_shelfOf 6 = .ok (.istore_n 3, 1) := by decide +kernel
theorem dX12_shelfOf_7 : decode cX12_shelfOf 7 = .ok (.aload_n 0, 1) := by decide +kernel
theorem dX12_shelfOf_8 : decode cX12_shelfOf 8 = .ok (.getfield 7, 3) := by decide +kernel
theorem dX12_shelfOf_11 : decode cX12_shelfOf 11 = .ok (.iload_n 3, 1) := by decide +kernel
theorem dX12_shelfOf_12 : decode cX12_shelfOf 12 = .ok (.iaload, 1) := by decide +kernel
theorem dX12_shelfOf_13 : decode cX12_shelfOf 13 = .ok (.ifCond .eq 13, 3) := by decide +kernel
theorem dX12_shelfOf_16 : decode cX12_shelfOf 16 = .ok (.aload_n 0, 1) := by decide +kernel
theorem dX12_shelfOf_17 : decode cX12_shelfOf 17 = .ok (.getfield 7, 3) := by decide +kernel
theorem dX12_shelfOf_20 : decode cX12_shelfOf 20 = .ok (.iload_n 3, 1) := by decide +kernel
theorem dX12_shelfOf_21 : decode cX12_shelfOf 21 = .ok (.iaload, 1) := by decide +kernel
theorem dX12_shelfOf_22 : decode cX12_shelfOf 22 = .ok (.iconst 3, 1) := by decide +kernel
theorem dX12_shelfOf_23 : decode cX12_shelfOf 23 = .ok (.if_icmp .ne 23, 3) := by decide +kernel
theorem dX12_shelfOf_26 : decode cX12_shelfOf 26 = .ok (.aload_n 0, 1) := by decide +kernel
theorem dX12_shelfOf_27 : decode cX12_shelfOf 27 = .ok (.aload_n 0, 1) := by decide +kernel
theorem dX12_shelfOf_28 : decode cX12_shelfOf 28 = .ok (.getfield 7, 3) := by decide +kernel
theorem dX12_shelfOf_31 : decode cX12_shelfOf 31 = .ok (.iload_n 3, 1) := by decide +kernel
theorem dX12_shelfOf_32 : decode cX12_shelfOf 32 = .ok (.iaload, 1) := by decide +kernel
theorem dX12_shelfOf_33 : decode cX12_shelfOf 33 = .ok (.ifCond .ne 7, 3) := by decide +kernel
theorem dX12_shelfOf_36 : decode cX12_shelfOf 36 = .ok (.iconst 1, 1) := by decide +kernel
theorem dX12_shelfOf_37 : decode cX12_shelfOf 37 = .ok (.goto 4, 3) := by decide +kernel
theorem dX12_shelfOf_40 : decode cX12_shelfOf 40 = .ok (.iconst 5, 1) := by decide +kernel
theorem dX12_shelfOf_41 : decode cX12_shelfOf 41 = .ok (.iconst (-1), 1) := by decide +kernel
theorem dX12_shelfOf_42 : decode cX12_shelfOf 42 = .ok (.invokevirtual 119, 3) := by decide +kernel
theorem dX12_shelfOf_45 : decode cX12_shelfOf 45 = .ok (.ireturn, 1) := by decide +kernel
theorem dX12_shelfOf_46 : decode cX12_shelfOf 46 = .ok (.iconst 0, 1) := by decide +kernel
theorem dX12_shelfOf_47 : decode cX12_shelfOf 47 = .ok (.istore 4, 2) := by decide +kernel
theorem dX12_shelfOf_49 : decode cX12_shelfOf 49 = .ok (.iload 4, 2) := by decide +kernel
theorem dX12_shelfOf_51 : decode cX12_shelfOf 51 = .ok (.aload_n 0, 1) := by decide +kernel
theorem dX12_shelfOf_52 : decode cX12_shelfOf 52 = .ok (.getfield 13, 3) := by decide +kernel
theorem dX12_shelfOf_55 : decode cX12_shelfOf 55 = .ok (.iload_n 3, 1) := by decide +kernel
theorem dX12_shelfOf_56 : decode cX12_shelfOf 56 = .ok (.iaload, 1) := by decide +kernel
theorem dX12_shelfOf_57 : decode cX12_shelfOf 57 = .ok (.if_icmp .ge 26, 3) := by decide +kernel
theorem dX12_shelfOf_60 : decode cX12_shelfOf 60 = .ok (.aload_n 0, 1) := by decide +kernel
theorem dX12_shelfOf_61 : decode cX12_shelfOf 61 = .ok (.iload_n 2, 1) := by decide +kernel
theorem dX12_shelfOf_62 : decode cX12_shelfOf 62 = .ok (.aload_n 0, 1) := by decide +kernel
theorem dX12_shelfOf_63 : decode cX12_shelfOf 63 = .ok (.getfield 20, 3) := by decide +kernel
theorem dX12_shelfOf_66 : decode cX12_shelfOf 66 = .ok (.bipush 12, 2) := by decide +kernel
theorem dX12_shelfOf_68 : decode cX12_shelfOf 68 = .ok (.iload_n 3, 1) := by decide +kernel
theorem dX12_shelfOf_69 : decode cX12_shelfOf 69 = .ok (.imul, 1) := by decide +kernel
theorem dX12_shelfOf_70 : decode cX12_shelfOf 70 = .ok (.iload 4, 2) := by decide +kernel
theorem dX12_shelfOf_72 : decode cX12_shelfOf 72 = .ok (.iadd, 1) := by decide +kernel
theorem dX12_shelfOf_73 : decode cX12_shelfOf 73 = .ok (.laload, 1) := by decide +kernel
theorem dX12_shelfOf_74 : decode cX12_shelfOf 74 = .ok (.invokevirtual 163, 3) := by decide +kernel
theorem dX12_shelfOf_77 : decode cX12_shelfOf 77 = .ok (.iinc 4 1, 3) := by decide +kernel
theorem dX12_shelfOf_80 : decode cX12_shelfOf 80 = .ok (.goto (-31), 3) := by decide +kernel
theorem dX12_shelfOf_83 : decode cX12_shelfOf 83 = .ok (.iconst 1, 1) := by decide +kernel
theorem dX12_shelfOf_84 : decode cX12_shelfOf 84 = .ok (.ireturn, 1) := by decide +kernel
theorem dX12_one_0 : decode cX12_one 0 = .ok (.aload_n 0, 1) := by decide +kernel
theorem dX12_one_1 : decode cX12_one 1 = .ok (.getfield 84, 3) := by decide +kernel
theorem dX12_one_4 : decode cX12_one 4 = .ok (.iload_n 2, 1) := by decide +kernel
theorem dX12_one_5 : decode cX12_one 5 = .ok (.iconst 0, 1) := by decide +kernel
theorem dX12_one_6 : decode cX12_one 6 = .ok (.iastore, 1) := by decide +kernel
theorem dX12_one_7 : decode cX12_one 7 = .ok (.aload_n 0, 1) := by decide +kernel
theorem dX12_one_8 : decode cX12_one 8 = .ok (.getfield 84, 3) := by decide +kernel
theorem dX12_one_11 : decode cX12_one 11 = .ok (.iload_n 3, 1) := by decide +kernel
theorem dX12_one_12 : decode cX12_one 12 = .ok (.iaload, 1) := by decide +kernel
theorem dX12_one_13 : decode cX12_one 13 = .ok (.istore 4, 2) := by decide +kernel
theorem dX12_one_15 : decode cX12_one 15 = .ok (.aload_n 0, 1) := by decide +kernel
theorem dX12_one_16 : decode cX12_one 16 = .ok (.getfield 44, 3) := by decide +kernel
theorem dX12_one_19 : decode cX12_one 19 = .ok (.iload_n 1, 1) := by decide +kernel
theorem dX12_one_20 : decode cX12_one 20 = .ok (.iaload, 1) := by decide +kernel
theorem dX12_one_21 : decode cX12_one 21 = .ok (.tableswitch 132 5 8 #[31, 68, 132, 88], 31) := by decide +kernel
theorem dX12_one_52 : decode cX12_one 52 = .ok (.iload 4, 2) := by decide +kernel
theorem dX12_one_54 : decode cX12_one 54 = .ok (.iconst 1, 1) := by decide +kernel
theorem dX12_one_55 : decode cX12_one 55 = .ok (.isub, 1) := by decide +kernel
theorem dX12_one_56 : decode cX12_one 56 = .ok (.istore 5, 2) := by decide +kernel
theorem dX12_one_58 : decode cX12_one 58 = .ok (.iload 5, 2) := by decide +kernel
theorem dX12_one_60 : decode cX12_one 60 = .ok (.ifCond .lt 27, 3) := by decide +kernel
theorem dX12_one_63 : decode cX12_one 63 = .ok (.aload_n 0, 1) := by decide +kernel
theorem dX12_one_64 : decode cX12_one 64 = .ok (.iload_n 2, 1) := by decide +kernel
theorem dX12_one_65 : decode cX12_one 65 = .ok (.aload_n 0, 1) := by decide +kernel
theorem dX12_one_66 : decode cX12_one 66 = .ok (.getfield 81, 3) := by decide +kernel
theorem dX12_one_69 : decode cX12_one 69 = .ok (.sipush 201, 3) := by decide +kernel
theorem dX12_one_72 : decode cX12_one 72 = .ok (.iload_n 3, 1) := by decide +kernel
theorem dX12_one_73 : decode cX12_one 73 = .ok (.imul, 1) := by decide +kernel
theorem dX12_one_74 : decode cX12_one 74 = .ok (.iload 5, 2) := by decide +kernel
theorem dX12_one_76 : decode cX12_one 76 = .ok (.iadd, 1) := by decide +kernel
theorem dX12_one_77 : decode cX12_one 77 = .ok (.laload, 1) := by decide +kernel
theorem dX12_one_78 : decode cX12_one 78 = .ok (.invokevirtual 163, 3) := by decide +kernel
theorem dX12_one_81 : decode cX12_one 81 = .ok (.iinc 5 (-1), 3) := by decide +kernel
theorem dX12_one_84 : decode cX12_one 84 = .ok (.goto (-26), 3) := by decide +kernel
theorem dX12_one_87 : decode cX12_one 87 = .ok (.iconst 1, 1) := by decide +kernel
theorem dX12_one_88 : decode cX12_one 88 = .ok (.ireturn, 1) := by decide +kernel
theorem dX12_one_89 : decode cX12_one 89 = .ok (.aload_n 0, 1) := by decide +kernel
theorem dX12_one_90 : decode cX12_one 90 = .ok (.iload_n 2, 1) := by decide +kernel
theorem dX12_one_91 : decode cX12_one 91 = .ok (.iload_n 3, 1) := by decide +kernel
theorem dX12_one_92 : decode cX12_one 92 = .ok (.aload_n 0, 1) := by decide +kernel
theorem dX12_one_93 : decode cX12_one 93 = .ok (.getfield 59, 3) := by decide +kernel
theorem dX12_one_96 : decode cX12_one 96 = .ok (.iload_n 1, 1) := by decide +kernel
theorem dX12_one_97 : decode cX12_one 97 = .ok (.laload, 1) := by decide +kernel
theorem dX12_one_98 : decode cX12_one 98 = .ok (.aload_n 0, 1) := by decide +kernel
theorem dX12_one_99 : decode cX12_one 99 = .ok (.getfield 56, 3) := by decide +kernel
theorem dX12_one_102 : decode cX12_one 102 = .ok (.iload_n 1, 1) := by decide +kernel
theorem dX12_one_103 : decode cX12_one 103 = .ok (.iaload, 1) := by decide +kernel
theorem dX12_one_104 : decode cX12_one 104 = .ok (.invokevirtual 183, 3) := by decide +kernel
theorem dX12_one_107 : decode cX12_one 107 = .ok (.iconst 1, 1) := by decide +kernel
theorem dX12_one_108 : decode cX12_one 108 = .ok (.ireturn, 1) := by decide +kernel
theorem dX12_one_109 : decode cX12_one 109 = .ok (.iconst 0, 1) := by decide +kernel
theorem dX12_one_110 : decode cX12_one 110 = .ok (.istore 5, 2) := by decide +kernel
theorem dX12_one_112 : decode cX12_one 112 = .ok (.iload 5, 2) := by decide +kernel
theorem dX12_one_114 : decode cX12_one 114 = .ok (.iload 4, 2) := by decide +kernel
theorem dX12_one_116 : decode cX12_one 116 = .ok (.if_icmp .ge 35, 3) := by decide +kernel
theorem dX12_one_119 : decode cX12_one 119 = .ok (.aload_n 0, 1) := by decide +kernel
theorem dX12_one_120 : decode cX12_one 120 = .ok (.iload_n 2, 1) := by decide +kernel
theorem dX12_one_121 : decode cX12_one 121 = .ok (.aload_n 0, 1) := by decide +kernel
theorem dX12_one_122 : decode cX12_one 122 = .ok (.getfield 81, 3) := by decide +kernel
theorem dX12_one_125 : decode cX12_one 125 = .ok (.sipush 201, 3) := by decide +kernel
theorem dX12_one_128 : decode cX12_one 128 = .ok (.iload_n 3, 1) := by decide +kernel
theorem dX12_one_129 : decode cX12_one 129 = .ok (.imul, 1) := by decide +kernel
theorem dX12_one_130 : decode cX12_one 130 = .ok (.iload 5, 2) := by decide +kernel
theorem dX12_one_132 : decode cX12_one 132 = .ok (.iadd, 1) := by decide +kernel
theorem dX12_one_133 : decode cX12_one 133 = .ok (.laload, 1) := by decide +kernel
theorem dX12_one_134 : decode cX12_one 134 = .ok (.invokevirtual 163, 3) := by decide +kernel
theorem dX12_one_137 : decode cX12_one 137 = .ok (.iload 5, 2) := by decide +kernel
theorem dX12_one_139 : decode cX12_one 139 = .ok (.aload_n 0, 1) := by decide +kernel
theorem dX12_one_140 : decode cX12_one 140 = .ok (.getfield 56, 3) := by decide +kernel
theorem dX12_one_143 : decode cX12_one 143 = .ok (.iload_n 1, 1) := by decide +kernel
theorem dX12_one_144 : decode cX12_one 144 = .ok (.iaload, 1) := by decide +kernel
theorem dX12_one_145 : decode cX12_one 145 = .ok (.iadd, 1) := by decide +kernel
theorem dX12_one_146 : decode cX12_one 146 = .ok (.istore 5, 2) := by decide +kernel
theorem dX12_one_148 : decode cX12_one 148 = .ok (.goto (-36), 3) := by decide +kernel
theorem dX12_one_151 : decode cX12_one 151 = .ok (.iconst 1, 1) := by decide +kernel
theorem dX12_one_152 : decode cX12_one 152 = .ok (.ireturn, 1) := by decide +kernel
theorem dX12_one_153 : decode cX12_one 153 = .ok (.iconst 0, 1) := by decide +kernel
theorem dX12_one_154 : decode cX12_one 154 = .ok (.istore 5, 2) := by decide +kernel
theorem dX12_one_156 : decode cX12_one 156 = .ok (.iload 5, 2) := by decide +kernel
theorem dX12_one_158 : decode cX12_one 158 = .ok (.iload 4, 2) := by decide +kernel
theorem dX12_one_160 : decode cX12_one 160 = .ok (.if_icmp .ge 128, 3) := by decide +kernel
theorem dX12_one_163 : decode cX12_one 163 = .ok (.aload_n 0, 1) := by decide +kernel
theorem dX12_one_164 : decode cX12_one 164 = .ok (.getfield 81, 3) := by decide +kernel
theorem dX12_one_167 : decode cX12_one 167 = .ok (.sipush 201, 3) := by decide +kernel
theorem dX12_one_170 : decode cX12_one 170 = .ok (.iload_n 3, 1) := by decide +kernel
theorem dX12_one_171 : decode cX12_one 171 = .ok (.imul, 1) := by decide +kernel
theorem dX12_one_172 : decode cX12_one 172 = .ok (.iload 5, 2) := by decide +kernel
theorem dX12_one_174 : decode cX12_one 174 = .ok (.iadd, 1) := by decide +kernel
theorem dX12_one_175 : decode cX12_one 175 = .ok (.laload, 1) := by decide +kernel
theorem dX12_one_176 : decode cX12_one 176 = .ok (.lstore 6, 2) := by decide +kernel
theorem dX12_one_178 : decode cX12_one 178 = .ok (.aload_n 0, 1) := by decide +kernel
theorem dX12_one_179 : decode cX12_one 179 = .ok (.iconst 0, 1) := by decide +kernel
theorem dX12_one_180 : decode cX12_one 180 = .ok (.putfield 113, 3) := by decide +kernel
theorem dX12_one_183 : decode cX12_one 183 = .ok (.aload_n 0, 1) := by decide +kernel
theorem dX12_one_184 : decode cX12_one 184 = .ok (.aload_n 0, 1) := by decide +kernel
theorem dX12_one_185 : decode cX12_one 185 = .ok (.getfield 53, 3) := by decide +kernel
theorem dX12_one_188 : decode cX12_one 188 = .ok (.iload_n 1, 1) := by decide +kernel
theorem dX12_one_189 : decode cX12_one 189 = .ok (.iaload, 1) := by decide +kernel
theorem dX12_one_190 : decode cX12_one 190 = .ok (.lload 6, 2) := by decide +kernel
theorem dX12_one_192 : decode cX12_one 192 = .ok (.invokevirtual 131, 3) := by decide +kernel
theorem dX12_one_195 : decode cX12_one 195 = .ok (.istore 8, 2) := by decide +kernel
theorem dX12_one_197 : decode cX12_one 197 = .ok (.aload_n 0, 1) := by decide +kernel
theorem dX12_one_198 : decode cX12_one 198 = .ok (.getfield 113, 3) := by decide +kernel
theorem dX12_one_201 : decode cX12_one 201 = .ok (.bipush 8, 2) := by decide +kernel
theorem dX12_one_203 : decode cX12_one 203 = .ok (.if_icmp .ne 5, 3) := by decide +kernel
theorem dX12_one_206 : decode cX12_one 206 = .ok (.iconst 0, 1) := by decide +kernel
theorem dX12_one_207 : decode cX12_one 207 = .ok (.ireturn, 1) := by decide +kernel
theorem dX12_one_208 : decode cX12_one 208 = .ok (.aload_n 0, 1) := by decide +kernel
theorem dX12_one_209 : decode cX12_one 209 = .ok (.getfield 113, 3) := by decide +kernel
theorem dX12_one_212 : decode cX12_one 212 = .ok (.ifCond .eq 58, 3) := by decide +kernel
theorem dX12_one_215 : decode cX12_one 215 = .ok (.aload_n 0, 1) := by decide +kernel
theorem dX12_one_216 : decode cX12_one 216 = .ok (.getfield 87, 3) := by decide +kernel
theorem dX12_one_219 : decode cX12_one 219 = .ok (.aload_n 0, 1) := by decide +kernel
theorem dX12_one_220 : decode cX12_one 220 = .ok (.getfield 187, 3) := by decide +kernel
theorem dX12_one_223 : decode cX12_one 223 = .ok (.lload 6, 2) := by decide +kernel
theorem dX12_one_225 : decode cX12_one 225 = .ok (.lastore, 1) := by decide +kernel
theorem dX12_one_226 : decode cX12_one 226 = .ok (.aload_n 0, 1) := by decide +kernel
theorem dX12_one_227 : decode cX12_one 227 = .ok (.getfield 90, 3) := by decide +kernel
theorem dX12_one_230 : decode cX12_one 230 = .ok (.aload_n 0, 1) := by decide +kernel
theorem dX12_one_231 : decode cX12_one 231 = .ok (.getfield 187, 3) := by decide +kernel
theorem dX12_one_234 : decode cX12_one 234 = .ok (.aload_n 0, 1) := by decide +kernel
theorem dX12_one_235 : decode cX12_one 235 = .ok (.getfield 113, 3) := by decide +kernel
theorem dX12_one_238 : decode cX12_one 238 = .ok (.iastore, 1) := by decide +kernel
theorem dX12_one_239 : decode cX12_one 239 = .ok (.aload_n 0, 1) := by decide +kernel
theorem dX12_one_240 : decode cX12_one 240 = .ok (.getfield 93, 3) := by decide +kernel
theorem dX12_one_243 : decode cX12_one 243 = .ok (.aload_n 0, 1) := by decide +kernel
theorem dX12_one_244 : decode cX12_one 244 = .ok (.getfield 187, 3) := by decide +kernel
theorem dX12_one_247 : decode cX12_one 247 = .ok (.aload_n 0, 1) := by decide +kernel
theorem dX12_one_248 : decode cX12_one 248 = .ok (.getfield 116, 3) := by decide +kernel
theorem dX12_one_251 : decode cX12_one 251 = .ok (.iastore, 1) := by decide +kernel
theorem dX12_one_252 : decode cX12_one 252 = .ok (.aload_n 0, 1) := by decide +kernel
theorem dX12_one_253 : decode cX12_one 253 = .ok (.dup, 1) := by decide +kernel
theorem dX12_one_254 : decode cX12_one 254 = .ok (.getfield 187, 3) := by decide +kernel
theorem dX12_one_257 : decode cX12_one 257 = .ok (.iconst 1, 1) := by decide +kernel
theorem dX12_one_258 : decode cX12_one 258 = .ok (.iadd, 1) := by decide +kernel
theorem dX12_one_259 : decode cX12_one 259 = .ok (.putfield 187, 3) := by decide +kernel
theorem dX12_one_262 : decode cX12_one 262 = .ok (.aload_n 0, 1) := by decide +kernel
theorem dX12_one_263 : decode cX12_one 263 = .ok (.iconst 0, 1) := by decide +kernel
theorem dX12_one_264 : decode cX12_one 264 = .ok (.putfield 113, 3) := by decide +kernel
theorem dX12_one_267 : decode cX12_one 267 = .ok (.goto 15, 3) := by decide +kernel
theorem dX12_one_270 : decode cX12_one 270 = .ok (.iload 8, 2) := by decide +kernel
theorem dX12_one_272 : decode cX12_one 272 = .ok (.ifCond .eq 10, 3) := by decide +kernel
theorem dX12_one_275 : decode cX12_one 275 = .ok (.aload_n 0, 1) := by decide +kernel
theorem dX12_one_276 : decode cX12_one 276 = .ok (.iload_n 2, 1) := by decide +kernel
theorem dX12_one_277 : decode cX12_one 277 = .ok (.lload 6, 2) := by decide +kernel
theorem dX12_one_279 : decode cX12_one 279 = .ok (.invokevirtual 163, 3) := by decide +kernel
theorem dX12_one_282 : decode cX12_one 282 = .ok (.iinc 5 1, 3) := by decide +kernel
theorem dX12_one_285 : decode cX12_one 285 = .ok (.goto (-129), 3) := by decide +kernel
theorem dX12_one_288 : decode cX12_one 288 = .ok (.iconst 1, 1) := by decide +kernel
theorem dX12_one_289 : decode cX12_one 289 = .ok (.ireturn, 1) := by decide +kernel
theorem dX12_far_0 : decode cX12_far 0 = .ok (.lload_n 0, 1) := by decide +kernel
theorem dX12_far_1 : decode cX12_far 1 = .ok (.lload_n 2, 1) := by decide +kernel
theorem dX12_far_2 : decode cX12_far 2 = .ok (.lcmp, 1) := by decide +kernel
theorem dX12_far_3 : decode cX12_far 3 = .ok (.ifCond .lt 9, 3) := by decide +kernel
theorem dX12_far_6 : decode cX12_far 6 = .ok (.lload_n 0, 1) := by decide +kernel
theorem dX12_far_7 : decode cX12_far 7 = .ok (.lload_n 2, 1) := by decide +kernel
theorem dX12_far_8 : decode cX12_far 8 = .ok (.lsub, 1) := by decide +kernel
theorem dX12_far_9 : decode cX12_far 9 = .ok (.goto 6, 3) := by decide +kernel
theorem dX12_far_12 : decode cX12_far 12 = .ok (.lload_n 2, 1) := by decide +kernel
theorem dX12_far_13 : decode cX12_far 13 = .ok (.lload_n 0, 1) := by decide +kernel
theorem dX12_far_14 : decode cX12_far 14 = .ok (.lsub, 1) := by decide +kernel
theorem dX12_far_15 : decode cX12_far 15 = .ok (.lreturn, 1) := by decide +kernel
theorem dX12_isNearer_0 : decode cX12_isNearer 0 = .ok (.lload_n 0, 1) := by decide +kernel
theorem dX12_isNearer_1 : decode cX12_isNearer 1 = .ok (.lload 4, 2) := by decide +kernel
theorem dX12_isNearer_3 : decode cX12_isNearer 3 = .ok (.invokestatic 190, 3) := by decide +kernel
theorem dX12_isNearer_6 : decode cX12_isNearer 6 = .ok (.ldc2_w 193, 3) := by decide +kernel
theorem dX12_isNearer_9 : decode cX12_isNearer 9 = .ok (.lxor, 1) := by decide +kernel
theorem dX12_isNearer_10 : decode cX12_isNearer 10 = .ok (.lstore 6, 2) := by decide +kernel
theorem dX12_isNearer_12 : decode cX12_isNearer 12 = .ok (.lload_n 2, 1) := by decide +kernel
theorem dX12_isNearer_13 : decode cX12_isNearer 13 = .ok (.lload 4, 2) := by decide +kernel
theorem dX12_isNearer_15 : decode cX12_isNearer 15 = .ok (.invokestatic 190, 3) := by decide +kernel
theorem dX12_isNearer_18 : decode cX12_isNearer 18 = .ok (.ldc2_w 193, 3) := by decide +kernel
theorem dX12_isNearer_21 : decode cX12_isNearer 21 = .ok (.lxor, 1) := by decide +kernel
theorem dX12_isNearer_22 : decode cX12_isNearer 22 = .ok (.lstore 8, 2) := by decide +kernel
theorem dX12_isNearer_24 : decode cX12_isNearer 24 = .ok (.lload 6, 2) := by decide +kernel
theorem dX12_isNearer_26 : decode cX12_isNearer 26 = .ok (.lload 8, 2) := by decide +kernel
theorem dX12_isNearer_28 : decode cX12_isNearer 28 = .ok (.lcmp, 1) := by decide +kernel
theorem dX12_isNearer_29 : decode cX12_isNearer 29 = .ok (.ifCond .eq 19, 3) := by decide +kernel
theorem dX12_isNearer_32 : decode cX12_isNearer 32 = .ok (.lload 6, 2) := by decide +kernel
theorem dX12_isNearer_34 : decode cX12_isNearer 34 = .ok (.lload 8, 2) := by decide +kernel
theorem dX12_isNearer_36 : decode cX12_isNearer 36 = .ok (.lcmp, 1) := by decide +kernel
theorem dX12_isNearer_37 : decode cX12_isNearer 37 = .ok (.ifCond .ge 7, 3) := by decide +kernel
theorem dX12_isNearer_40 : decode cX12_isNearer 40 = .ok (.iconst 1, 1) := by decide +kernel
theorem dX12_isNearer_41 : decode cX12_isNearer 41 = .ok (.goto 18, 3) := by decide +kernel
theorem dX12_isNearer_44 : decode cX12_isNearer 44 = .ok (.iconst 0, 1) := by decide +kernel
theorem dX12_isNearer_45 : decode cX12_isNearer 45 = .ok (.goto 14, 3) := by decide +kernel
theorem dX12_isNearer_48 : decode cX12_isNearer 48 = .ok (.lload_n 0, 1) := by decide +kernel
theorem dX12_isNearer_49 : decode cX12_isNearer 49 = .ok (.lload_n 2, 1) := by decide +kernel
theorem dX12_isNearer_50 : decode cX12_isNearer 50 = .ok (.lcmp, 1) := by decide +kernel
theorem dX12_isNearer_51 : decode cX12_isNearer 51 = .ok (.ifCond .ge 7, 3) := by decide +kernel
theorem dX12_isNearer_54 : decode cX12_isNearer 54 = .ok (.iconst 1, 1) := by decide +kernel
theorem dX12_isNearer_55 : decode cX12_isNearer 55 = .ok (.goto 4, 3) := by decide +kernel
theorem dX12_isNearer_58 : decode cX12_isNearer 58 = .ok (.iconst 0, 1) := by decide +kernel
theorem dX12_isNearer_59 : decode cX12_isNearer 59 = .ok (.ireturn, 1) := by decide +kernel
theorem dX12_near_0 : decode cX12_near 0 = .ok (.iconst 0, 1) := by decide +kernel
theorem dX12_near_1 : decode cX12_near 1 = .ok (.istore 6, 2) := by decide +kernel
theorem dX12_near_3 : decode cX12_near 3 = .ok (.iload 6, 2) := by decide +kernel
theorem dX12_near_5 : decode cX12_near 5 = .ok (.aload_n 0, 1) := by decide +kernel
theorem dX12_near_6 : decode cX12_near 6 = .ok (.getfield 84, 3) := by decide +kernel
theorem dX12_near_9 : decode cX12_near 9 = .ok (.iload_n 2, 1) := by decide +kernel
theorem dX12_near_10 : decode cX12_near 10 = .ok (.iaload, 1) := by decide +kernel
theorem dX12_near_11 : decode cX12_near 11 = .ok (.if_icmp .ge 120, 3) := by decide +kernel
theorem dX12_near_14 : decode cX12_near 14 = .ok (.aload_n 0, 1) := by decide +kernel
theorem dX12_near_15 : decode cX12_near 15 = .ok (.getfield 81, 3) := by decide +kernel
theorem dX12_near_18 : decode cX12_near 18 = .ok (.sipush 201, 3) := by decide +kernel
theorem dX12_near_21 : decode cX12_near 21 = .ok (.iload_n 2, 1) := by decide +kernel
theorem dX12_near_22 : decode cX12_near 22 = .ok (.imul, 1) := by decide +kernel
theorem dX12_near_23 : decode cX12_near 23 = .ok (.iload 6, 2) := by decide +kernel
theorem dX12_near_25 : decode cX12_near 25 = .ok (.iadd, 1) := by decide +kernel
theorem dX12_near_26 : decode cX12_near 26 = .ok (.laload, 1) := by decide +kernel
theorem dX12_near_27 : decode cX12_near 27 = .ok (.lstore 7, 2) := by decide +kernel
theorem dX12_near_29 : decode cX12_near 29 = .ok (.aload_n 0, 1) := by decide +kernel
theorem dX12_near_30 : decode cX12_near 30 = .ok (.getfield 84, 3) := by decide +kernel
theorem dX12_near_33 : decode cX12_near 33 = .ok (.iload_n 1, 1) := by decide +kernel
theorem dX12_near_34 : decode cX12_near 34 = .ok (.iaload, 1) := by decide +kernel
theorem dX12_near_35 : decode cX12_near 35 = .ok (.istore 9, 2) := by decide +kernel
theorem dX12_near_37 : decode cX12_near 37 = .ok (.aload_n 0, 1) := by decide +kernel
theorem dX12_near_38 : decode cX12_near 38 = .ok (.getfield 84, 3) := by decide +kernel
theorem dX12_near_41 : decode cX12_near 41 = .ok (.iload_n 1, 1) := by decide +kernel
theorem dX12_near_42 : decode cX12_near 42 = .ok (.dup2, 1) := by decide +kernel
theorem dX12_near_43 : decode cX12_near 43 = .ok (.iaload, 1) := by decide +kernel
theorem dX12_near_44 : decode cX12_near 44 = .ok (.iconst 1, 1) := by decide +kernel
theorem dX12_near_45 : decode cX12_near 45 = .ok (.iadd, 1) := by decide +kernel
theorem dX12_near_46 : decode cX12_near 46 = .ok (.iastore, 1) := by decide +kernel
theorem dX12_near_47 : decode cX12_near 47 = .ok (.iload 9, 2) := by decide +kernel
theorem dX12_near_49 : decode cX12_near 49 = .ok (.ifCond .le 61, 3) := by decide +kernel
theorem dX12_near_52 : decode cX12_near 52 = .ok (.lload 7, 2) := by decide +kernel
theorem dX12_near_54 : decode cX12_near 54 = .ok (.aload_n 0, 1) := by decide +kernel
theorem dX12_near_55 : decode cX12_near 55 = .ok (.getfield 81, 3) := by decide +kernel
theorem dX12_near_58 : decode cX12_near 58 = .ok (.sipush 201, 3) := by decide +kernel
theorem dX12_near_61 : decode cX12_near 61 = .ok (.iload_n 1, 1) := by decide +kernel
theorem dX12_near_62 : decode cX12_near 62 = .ok (.imul, 1) := by decide +kernel
theorem dX12_near_63 : decode cX12_near 63 = .ok (.iload 9, 2) := by decide +kernel
theorem dX12_near_65 : decode cX12_near 65 = .ok (.iadd, 1) := by decide +kernel
theorem dX12_near_66 : decode cX12_near 66 = .ok (.iconst 1, 1) := by decide +kernel
theorem dX12_near_67 : decode cX12_near 67 = .ok (.isub, 1) := by decide +kernel
theorem dX12_near_68 : decode cX12_near 68 = .ok (.laload, 1) := by decide +kernel
theorem dX12_near_69 : decode cX12_near 69 = .ok (.lload_n 3, 1) := by decide +kernel
theorem dX12_near_70 : decode cX12_near 70 = .ok (.invokestatic 195, 3) := by decide +kernel
theorem dX12_near_73 : decode cX12_near 73 = .ok (.ifCond .eq 37, 3) := by decide +kernel
theorem dX12_near_76 : decode cX12_near 76 = .ok (.aload_n 0, 1) := by decide +kernel
theorem dX12_near_77 : decode cX12_near 77 = .ok (.getfield 81, 3) := by decide +kernel
theorem dX12_near_80 : decode cX12_near 80 = .ok (.sipush 201, 3) := by decide +kernel
theorem dX12_near_83 : decode cX12_near 83 = .ok (.iload_n 1, 1) := by decide +kernel
theorem dX12_near_84 : decode cX12_near 84 = .ok (.imul, 1) := by decide +kernel
theorem dX12_near_85 : decode cX12_near 85 = .ok (.iload 9, 2) := by decide +kernel
theorem dX12_near_87 : decode cX12_near 87 = .ok (.iadd, 1) := by decide +kernel
theorem dX12_near_88 : decode cX12_near 88 = .ok (.aload_n 0, 1) := by decide +kernel
theorem dX12_near_89 : decode cX12_near 89 = .ok (.getfield 81, 3) := by decide +kernel
theorem dX12_near_92 : decode cX12_near 92 = .ok (.sipush 201, 3) := by decide +kernel
theorem dX12_near_95 : decode cX12_near 95 = .ok (.iload_n 1, 1) := by decide +kernel
theorem dX12_near_96 : decode cX12_near 96 = .ok (.imul, 1) := by decide +kernel
theorem dX12_near_97 : decode cX12_near 97 = .ok (.iload 9, 2) := by decide +kernel
theorem dX12_near_99 : decode cX12_near 99 = .ok (.iadd, 1) := by decide +kernel
theorem dX12_near_100 : decode cX12_near 100 = .ok (.iconst 1, 1) := by decide +kernel
theorem dX12_near_101 : decode cX12_near 101 = .ok (.isub, 1) := by decide +kernel
theorem dX12_near_102 : decode cX12_near 102 = .ok (.laload, 1) := by decide +kernel
theorem dX12_near_103 : decode cX12_near 103 = .ok (.lastore, 1) := by decide +kernel
theorem dX12_near_104 : decode cX12_near 104 = .ok (.iinc 9 (-1), 3) := by decide +kernel
theorem dX12_near_107 : decode cX12_near 107 = .ok (.goto (-60), 3) := by decide +kernel
theorem dX12_near_110 : decode cX12_near 110 = .ok (.aload_n 0, 1) := by decide +kernel
theorem dX12_near_111 : decode cX12_near 111 = .ok (.getfield 81, 3) := by decide +kernel
theorem dX12_near_114 : decode cX12_near 114 = .ok (.sipush 201, 3) := by decide +kernel
theorem dX12_near_117 : decode cX12_near 117 = .ok (.iload_n 1, 1) := by decide +kernel
theorem dX12_near_118 : decode cX12_near 118 = .ok (.imul, 1) := by decide +kernel
theorem dX12_near_119 : decode cX12_near 119 = .ok (.iload 9, 2) := by decide +kernel
theorem dX12_near_121 : decode cX12_near 121 = .ok (.iadd, 1) := by decide +kernel
theorem dX12_near_122 : decode cX12_near 122 = .ok (.lload 7, 2) := by decide +kernel
theorem dX12_near_124 : decode cX12_near 124 = .ok (.lastore, 1) := by decide +kernel
theorem dX12_near_125 : decode cX12_near 125 = .ok (.iinc 6 1, 3) := by decide +kernel
theorem dX12_near_128 : decode cX12_near 128 = .ok (.goto (-125), 3) := by decide +kernel
theorem dX12_near_131 : decode cX12_near 131 = .ok (.aload_n 0, 1) := by decide +kernel
theorem dX12_near_132 : decode cX12_near 132 = .ok (.getfield 84, 3) := by decide +kernel
theorem dX12_near_135 : decode cX12_near 135 = .ok (.iload_n 1, 1) := by decide +kernel
theorem dX12_near_136 : decode cX12_near 136 = .ok (.aload_n 0, 1) := by decide +kernel
theorem dX12_near_137 : decode cX12_near 137 = .ok (.getfield 84, 3) := by decide +kernel
theorem dX12_near_140 : decode cX12_near 140 = .ok (.iload_n 1, 1) := by decide +kernel
theorem dX12_near_141 : decode cX12_near 141 = .ok (.iaload, 1) := by decide +kernel
theorem dX12_near_142 : decode cX12_near 142 = .ok (.iload 5, 2) := by decide +kernel
theorem dX12_near_144 : decode cX12_near 144 = .ok (.if_icmp .ge 12, 3) := by decide +kernel
theorem dX12_near_147 : decode cX12_near 147 = .ok (.aload_n 0, 1) := by decide +kernel
theorem dX12_near_148 : decode cX12_near 148 = .ok (.getfield 84, 3) := by decide +kernel
theorem dX12_near_151 : decode cX12_near 151 = .ok (.iload_n 1, 1) := by decide +kernel
theorem dX12_near_152 : decode cX12_near 152 = .ok (.iaload, 1) := by decide +kernel
theorem dX12_near_153 : decode cX12_near 153 = .ok (.goto 5, 3) := by decide +kernel
theorem dX12_near_156 : decode cX12_near 156 = .ok (.iload 5, 2) := by decide +kernel
theorem dX12_near_158 : decode cX12_near 158 = .ok (.iastore, 1) := by decide +kernel
theorem dX12_near_159 : decode cX12_near 159 = .ok (.return_, 1) := by decide +kernel
theorem dX12_range_0 : decode cX12_range 0 = .ok (.aload_n 0, 1) := by decide +kernel
theorem dX12_range_1 : decode cX12_range 1 = .ok (.iconst 0, 1) := by decide +kernel
theorem dX12_range_2 : decode cX12_range 2 = .ok (.putfield 99, 3) := by decide +kernel
theorem dX12_range_5 : decode cX12_range 5 = .ok (.aload_n 0, 1) := by decide +kernel
theorem dX12_range_6 : decode cX12_range 6 = .ok (.iload_n 1, 1) := by decide +kernel
theorem dX12_range_7 : decode cX12_range 7 = .ok (.invokevirtual 154, 3) := by decide +kernel
theorem dX12_range_10 : decode cX12_range 10 = .ok (.ifCond .ne 5, 3) := by decide +kernel
theorem dX12_range_13 : decode cX12_range 13 = .ok (.iconst (-1), 1) := by decide +kernel
theorem dX12_range_14 : decode cX12_range 14 = .ok (.ireturn, 1) := by decide +kernel
theorem dX12_range_15 : decode cX12_range 15 = .ok (.aload_n 0, 1) := by decide +kernel
theorem dX12_range_16 : decode cX12_range 16 = .ok (.iconst 0, 1) := by decide +kernel
theorem dX12_range_17 : decode cX12_range 17 = .ok (.putfield 110, 3) := by decide +kernel
theorem dX12_range_20 : decode cX12_range 20 = .ok (.aload_n 0, 1) := by decide +kernel
theorem dX12_range_21 : decode cX12_range 21 = .ok (.iconst 0, 1) := by decide +kernel
theorem dX12_range_22 : decode cX12_range 22 = .ok (.putfield 113, 3) := by decide +kernel
theorem dX12_range_25 : decode cX12_range 25 = .ok (.aload_n 0, 1) := by decide +kernel
theorem dX12_range_26 : decode cX12_range 26 = .ok (.iconst 0, 1) := by decide +kernel
theorem dX12_range_27 : decode cX12_range 27 = .ok (.putfield 187, 3) := by decide +kernel
theorem dX12_range_30 : decode cX12_range 30 = .ok (.aload_n 0, 1) := by decide +kernel
theorem dX12_range_31 : decode cX12_range 31 = .ok (.iconst 0, 1) := by decide +kernel
theorem dX12_range_32 : decode cX12_range 32 = .ok (.putfield 159, 3) := by decide +kernel
theorem dX12_range_35 : decode cX12_range 35 = .ok (.aload_n 0, 1) := by decide +kernel
theorem dX12_range_36 : decode cX12_range 36 = .ok (.getfield 65, 3) := by decide +kernel
theorem dX12_range_39 : decode cX12_range 39 = .ok (.iload_n 1, 1) := by decide +kernel
theorem dX12_range_40 : decode cX12_range 40 = .ok (.baload, 1) := by decide +kernel
theorem dX12_range_41 : decode cX12_range 41 = .ok (.ifCond .eq 40, 3) := by decide +kernel
theorem dX12_range_44 : decode cX12_range 44 = .ok (.aload_n 0, 1) := by decide +kernel
theorem dX12_range_45 : decode cX12_range 45 = .ok (.iconst 1, 1) := by decide +kernel
theorem dX12_range_46 : decode cX12_range 46 = .ok (.putfield 199, 3) := by decide +kernel
theorem dX12_range_49 : decode cX12_range 49 = .ok (.aload_n 0, 1) := by decide +kernel
theorem dX12_range_50 : decode cX12_range 50 = .ok (.aload_n 0, 1) := by decide +kernel
theorem dX12_range_51 : decode cX12_range 51 = .ok (.getfield 69, 3) := by decide +kernel
theorem dX12_range_54 : decode cX12_range 54 = .ok (.iload_n 1, 1) := by decide +kernel
theorem dX12_range_55 : decode cX12_range 55 = .ok (.laload, 1) := by decide +kernel
theorem dX12_range_56 : decode cX12_range 56 = .ok (.putfield 202, 3) := by decide +kernel
theorem dX12_range_59 : decode cX12_range 59 = .ok (.aload_n 0, 1) := by decide +kernel
theorem dX12_range_60 : decode cX12_range 60 = .ok (.aload_n 0, 1) := by decide +kernel
theorem dX12_range_61 : decode cX12_range 61 = .ok (.getfield 72, 3) := by decide +kernel
theorem dX12_range_64 : decode cX12_range 64 = .ok (.iload_n 1, 1) := by decide +kernel
theorem dX12_range_65 : decode cX12_range 65 = .ok (.laload, 1) := by decide +kernel
theorem dX12_range_66 : decode cX12_range 66 = .ok (.putfield 206, 3) := by decide +kernel
theorem dX12_range_69 : decode cX12_range 69 = .ok (.aload_n 0, 1) := by decide +kernel
theorem dX12_range_70 : decode cX12_range 70 = .ok (.aload_n 0, 1) := by decide +kernel
theorem dX12_range_71 : decode cX12_range 71 = .ok (.getfield 75, 3) := by decide +kernel
theorem dX12_range_74 : decode cX12_range 74 = .ok (.iload_n 1, 1) := by decide +kernel
theorem dX12_range_75 : decode cX12_range 75 = .ok (.laload, 1) := by decide +kernel
theorem dX12_range_76 : decode cX12_range 76 = .ok (.putfield 209, 3) := by decide +kernel
theorem dX12_range_79 : decode cX12_range 79 = .ok (.iconst 1, 1) := by decide +kernel
theorem dX12_range_80 : decode cX12_range 80 = .ok (.ireturn, 1) := by decide +kernel
theorem dX12_range_81 : decode cX12_range 81 = .ok (.aload_n 0, 1) := by decide +kernel
theorem dX12_range_82 : decode cX12_range 82 = .ok (.iload_n 1, 1) := by decide +kernel
theorem dX12_range_83 : decode cX12_range 83 = .ok (.iconst 0, 1) := by decide +kernel
theorem dX12_range_84 : decode cX12_range 84 = .ok (.invokevirtual 173, 3) := by decide +kernel
theorem dX12_range_87 : decode cX12_range 87 = .ok (.ifCond .ne 23, 3) := by decide +kernel
theorem dX12_range_90 : decode cX12_range 90 = .ok (.aload_n 0, 1) := by decide +kernel
theorem dX12_range_91 : decode cX12_range 91 = .ok (.getfield 159, 3) := by decide +kernel
theorem dX12_range_94 : decode cX12_range 94 = .ok (.ifCond .eq 8, 3) := by decide +kernel
theorem dX12_range_97 : decode cX12_range 97 = .ok (.bipush (-4), 2) := by decide +kernel
theorem dX12_range_99 : decode cX12_range 99 = .ok (.goto 10, 3) := by decide +kernel
theorem dX12_range_102 : decode cX12_range 102 = .ok (.bipush (-10), 2) := by decide +kernel
theorem dX12_range_104 : decode cX12_range 104 = .ok (.aload_n 0, 1) := by decide +kernel
theorem dX12_range_105 : decode cX12_range 105 = .ok (.getfield 113, 3) := by decide +kernel
theorem dX12_range_108 : decode cX12_range 108 = .ok (.isub, 1) := by decide +kernel
theorem dX12_range_109 : decode cX12_range 109 = .ok (.ireturn, 1) := by decide +kernel
theorem dX12_range_110 : decode cX12_range 110 = .ok (.aload_n 0, 1) := by decide +kernel
theorem dX12_range_111 : decode cX12_range 111 = .ok (.iconst 0, 1) := by decide +kernel
theorem dX12_range_112 : decode cX12_range 112 = .ok (.putfield 199, 3) := by decide +kernel
theorem dX12_range_115 : decode cX12_range 115 = .ok (.aload_n 0, 1) := by decide +kernel
theorem dX12_range_116 : decode cX12_range 116 = .ok (.lconst 0, 1) := by decide +kernel
theorem dX12_range_117 : decode cX12_range 117 = .ok (.putfield 209, 3) := by decide +kernel
theorem dX12_range_120 : decode cX12_range 120 = .ok (.iconst 0, 1) := by decide +kernel
theorem dX12_range_121 : decode cX12_range 121 = .ok (.istore_n 2, 1) := by decide +kernel
theorem dX12_range_122 : decode cX12_range 122 = .ok (.iload_n 2, 1) := by decide +kernel
theorem dX12_range_123 : decode cX12_range 123 = .ok (.aload_n 0, 1) := by decide +kernel
theorem dX12_range_124 : decode cX12_range 124 = .ok (.getfield 84, 3) := by decide +kernel
theorem dX12_range_127 : decode cX12_range 127 = .ok (.iconst 0, 1) := by decide +kernel
theorem dX12_range_128 : decode cX12_range 128 = .ok (.iaload, 1) := by decide +kernel
theorem dX12_range_129 : decode cX12_range 129 = .ok (.if_icmp .ge 47, 3) := by decide +kernel
theorem dX12_range_132 : decode cX12_range 132 = .ok (.aload_n 0, 1) := by decide +kernel
theorem dX12_range_133 : decode cX12_range 133 = .ok (.getfield 81, 3) := by decide +kernel
theorem dX12_range_136 : decode cX12_range 136 = .ok (.iload_n 2, 1) := by decide +kernel
theorem dX12_range_137 : decode cX12_range 137 = .ok (.laload, 1) := by decide +kernel
theorem dX12_range_138 : decode cX12_range 138 = .ok (.lstore_n 3, 1) := by decide +kernel
theorem dX12_range_139 : decode cX12_range 139 = .ok (.aload_n 0, 1) := by decide +kernel
theorem dX12_range_140 : decode cX12_range 140 = .ok (.lload_n 3, 1) := by decide +kernel
theorem dX12_range_141 : decode cX12_range 141 = .ok (.invokevirtual 212, 3) := by decide +kernel
theorem dX12_range_144 : decode cX12_range 144 = .ok (.lconst 0, 1) := by decide +kernel
theorem dX12_range_145 : decode cX12_range 145 = .ok (.lcmp, 1) := by decide +kernel
theorem dX12_range_146 : decode cX12_range 146 = .ok (.ifCond .ge 24, 3) := by decide +kernel
theorem dX12_range_149 : decode cX12_range 149 = .ok (.aload_n 0, 1) := by decide +kernel
theorem dX12_range_150 : decode cX12_range 150 = .ok (.getfield 96, 3) := by decide +kernel
theorem dX12_range_153 : decode cX12_range 153 = .ok (.aload_n 0, 1) := by decide +kernel
theorem dX12_range_154 : decode cX12_range 154 = .ok (.getfield 209, 3) := by decide +kernel
theorem dX12_range_157 : decode cX12_range 157 = .ok (.l2i, 1) := by decide +kernel
theorem dX12_range_158 : decode cX12_range 158 = .ok (.lload_n 3, 1) := by decide +kernel
theorem dX12_range_159 : decode cX12_range 159 = .ok (.lastore, 1) := by decide +kernel
theorem dX12_range_160 : decode cX12_range 160 = .ok (.aload_n 0, 1) := by decide +kernel
theorem dX12_range_161 : decode cX12_range 161 = .ok (.dup, 1) := by decide +kernel
theorem dX12_range_162 : decode cX12_range 162 = .ok (.getfield 209, 3) := by decide +kernel
theorem dX12_range_165 : decode cX12_range 165 = .ok (.lconst 1, 1) := by decide +kernel
theorem dX12_range_166 : decode cX12_range 166 = .ok (.ladd, 1) := by decide +kernel
theorem dX12_range_167 : decode cX12_range 167 = .ok (.putfield 209, 3) := by decide +kernel
theorem dX12_range_170 : decode cX12_range 170 = .ok (.iinc 2 1, 3) := by decide +kernel
theorem dX12_range_173 : decode cX12_range 173 = .ok (.goto (-51), 3) := by decide +kernel
theorem dX12_range_176 : decode cX12_range 176 = .ok (.iconst 1, 1) := by decide +kernel
theorem dX12_range_177 : decode cX12_range 177 = .ok (.ireturn, 1) := by decide +kernel
theorem dX12_size_0 : decode cX12_size 0 = .ok (.aload_n 0, 1) := by decide +kernel
theorem dX12_size_1 : decode cX12_size 1 = .ok (.iconst 0, 1) := by decide +kernel
theorem dX12_size_2 : decode cX12_size 2 = .ok (.putfield 99, 3) := by decide +kernel
theorem dX12_size_5 : decode cX12_size 5 = .ok (.aload_n 0, 1) := by decide +kernel
theorem dX12_size_6 : decode cX12_size 6 = .ok (.getfield 209, 3) := by decide +kernel
theorem dX12_size_9 : decode cX12_size 9 = .ok (.lreturn, 1) := by decide +kernel
theorem dX12_at_0 : decode cX12_at 0 = .ok (.aload_n 0, 1) := by decide +kernel
theorem dX12_at_1 : decode cX12_at 1 = .ok (.iconst 0, 1) := by decide +kernel
theorem dX12_at_2 : decode cX12_at 2 = .ok (.putfield 99, 3) := by decide +kernel
theorem dX12_at_5 : decode cX12_at 5 = .ok (.lload_n 1, 1) := by decide +kernel
theorem dX12_at_6 : decode cX12_at 6 = .ok (.lconst 0, 1) := by decide +kernel
theorem dX12_at_7 : decode cX12_at 7 = .ok (.lcmp, 1) := by decide +kernel
theorem dX12_at_8 : decode cX12_at 8 = .ok (.ifCond .lt 12, 3) := by decide +kernel
theorem dX12_at_11 : decode cX12_at 11 = .ok (.lload_n 1, 1) := by decide +kernel
theorem dX12_at_12 : decode cX12_at 12 = .ok (.aload_n 0, 1) := by decide +kernel
theorem dX12_at_13 : decode cX12_at 13 = .ok (.getfield 209, 3) := by decide +kernel
theorem dX12_at_16 : decode cX12_at 16 = .ok (.lcmp, 1) := by decide +kernel
theorem dX12_at_17 : decode cX12_at 17 = .ok (.ifCond .lt 10, 3) := by decide +kernel
theorem dX12_at_20 : decode cX12_at 20 = .ok (.aload_n 0, 1) := by decide +kernel
theorem dX12_at_21 : decode cX12_at 21 = .ok (.iconst 1, 1) := by decide +kernel
theorem dX12_at_22 : decode cX12_at 22 = .ok (.putfield 99, 3) := by decide +kernel
theorem dX12_at_25 : decode cX12_at 25 = .ok (.lconst 0, 1) := by decide +kernel
theorem dX12_at_26 : decode cX12_at 26 = .ok (.lreturn, 1) := by decide +kernel
theorem dX12_at_27 : decode cX12_at 27 = .ok (.aload_n 0, 1) := by decide +kernel
theorem dX12_at_28 : decode cX12_at 28 = .ok (.getfield 199, 3) := by decide +kernel
theorem dX12_at_31 : decode cX12_at 31 = .ok (.ifCond .eq 17, 3) := by decide +kernel
theorem dX12_at_34 : decode cX12_at 34 = .ok (.aload_n 0, 1) := by decide +kernel
theorem dX12_at_35 : decode cX12_at 35 = .ok (.getfield 202, 3) := by decide +kernel
theorem dX12_at_38 : decode cX12_at 38 = .ok (.lload_n 1, 1) := by decide +kernel
theorem dX12_at_39 : decode cX12_at 39 = .ok (.aload_n 0, 1) := by decide +kernel
theorem dX12_at_40 : decode cX12_at 40 = .ok (.getfield 206, 3) := by decide +kernel
theorem dX12_at_43 : decode cX12_at 43 = .ok (.lmul, 1) := by decide +kernel
theorem dX12_at_44 : decode cX12_at 44 = .ok (.ladd, 1) := by decide +kernel
theorem dX12_at_45 : decode cX12_at 45 = .ok (.goto 10, 3) := by decide +kernel
theorem dX12_at_48 : decode cX12_at 48 = .ok (.aload_n 0, 1) := by decide +kernel
theorem dX12_at_49 : decode cX12_at 49 = .ok (.getfield 96, 3) := by decide +kernel
theorem dX12_at_52 : decode cX12_at 52 = .ok (.lload_n 1, 1) := by decide +kernel
theorem dX12_at_53 : decode cX12_at 53 = .ok (.l2i, 1) := by decide +kernel
theorem dX12_at_54 : decode cX12_at 54 = .ok (.laload, 1) := by decide +kernel
theorem dX12_at_55 : decode cX12_at 55 = .ok (.lreturn, 1) := by decide +kernel
theorem dX12_place_0 : decode cX12_place 0 = .ok (.aload_n 0, 1) := by decide +kernel
theorem dX12_place_1 : decode cX12_place 1 = .ok (.iconst 0, 1) := by decide +kernel
theorem dX12_place_2 : decode cX12_place 2 = .ok (.putfield 99, 3) := by decide +kernel
theorem dX12_place_5 : decode cX12_place 5 = .ok (.aload_n 0, 1) := by decide +kernel
theorem dX12_place_6 : decode cX12_place 6 = .ok (.getfield 199, 3) := by decide +kernel
theorem dX12_place_9 : decode cX12_place 9 = .ok (.ifCond .ne 38, 3) := by decide +kernel
theorem dX12_place_12 : decode cX12_place 12 = .ok (.iconst 0, 1) := by decide +kernel
theorem dX12_place_13 : decode cX12_place 13 = .ok (.istore_n 3, 1) := by decide +kernel
theorem dX12_place_14 : decode cX12_place 14 = .ok (.iload_n 3, 1) := by decide +kernel
theorem dX12_place_15 : decode cX12_place 15 = .ok (.aload_n 0, 1) := by decide +kernel
theorem dX12_place_16 : decode cX12_place 16 = .ok (.getfield 209, 3) := by decide +kernel
theorem dX12_place_19 : decode cX12_place 19 = .ok (.l2i, 1) := by decide +kernel
theorem dX12_place_20 : decode cX12_place 20 = .ok (.if_icmp .ge 23, 3) := by decide +kernel
theorem dX12_place_23 : decode cX12_place 23 = .ok (.aload_n 0, 1) := by decide +kernel
theorem dX12_place_24 : decode cX12_place 24 = .ok (.getfield 96, 3) := by decide +kernel
theorem dX12_place_27 : decode cX12_place 27 = .ok (.iload_n 3, 1) := by decide +kernel
theorem dX12_place_28 : decode cX12_place 28 = .ok (.laload, 1) := by decide +kernel
theorem dX12_place_29 : decode cX12_place 29 = .ok (.lload_n 1, 1) := by decide +kernel
theorem dX12_place_30 : decode cX12_place 30 = .ok (.lcmp, 1) := by decide +kernel
theorem dX12_place_31 : decode cX12_place 31 = .ok (.ifCond .ne 6, 3) := by decide +kernel
theorem dX12_place_34 : decode cX12_place 34 = .ok (.iload_n 3, 1) := by decide +kernel
theorem dX12_place_35 : decode cX12_place 35 = .ok (.i2l, 1) := by decide +kernel
theorem dX12_place_36 : decode cX12_place 36 = .ok (.lreturn, 1) := by decide +kernel
theorem dX12_place_37 : decode cX12_place 37 = .ok (.iinc 3 1, 3) := by decide +kernel
theorem dX12_place_40 : decode cX12_place 40 = .ok (.goto (-26), 3) := by decide +kernel
theorem dX12_place_43 : decode cX12_place 43 = .ok (.ldc2_w 123, 3) := by decide +kernel
theorem dX12_place_46 : decode cX12_place 46 = .ok (.lreturn, 1) := by decide +kernel
theorem dX12_place_47 : decode cX12_place 47 = .ok (.aload_n 0, 1) := by decide +kernel
theorem dX12_place_48 : decode cX12_place 48 = .ok (.getfield 209, 3) := by decide +kernel
theorem dX12_place_51 : decode cX12_place 51 = .ok (.lconst 0, 1) := by decide +kernel
theorem dX12_place_52 : decode cX12_place 52 = .ok (.lcmp, 1) := by decide +kernel
theorem dX12_place_53 : decode cX12_place 53 = .ok (.ifCond .ne 7, 3) := by decide +kernel
theorem dX12_place_56 : decode cX12_place 56 = .ok (.ldc2_w 123, 3) := by decide +kernel
theorem dX12_place_59 : decode cX12_place 59 = .ok (.lreturn, 1) := by decide +kernel
theorem dX12_place_60 : decode cX12_place 60 = .ok (.aload_n 0, 1) := by decide +kernel
theorem dX12_place_61 : decode cX12_place 61 = .ok (.getfield 209, 3) := by decide +kernel
theorem dX12_place_64 : decode cX12_place 64 = .ok (.lconst 1, 1) := by decide +kernel
theorem dX12_place_65 : decode cX12_place 65 = .ok (.lcmp, 1) := by decide +kernel
theorem dX12_place_66 : decode cX12_place 66 = .ok (.ifCond .ne 20, 3) := by decide +kernel
theorem dX12_place_69 : decode cX12_place 69 = .ok (.lload_n 1, 1) := by decide +kernel
theorem dX12_place_70 : decode cX12_place 70 = .ok (.aload_n 0, 1) := by decide +kernel
theorem dX12_place_71 : decode cX12_place 71 = .ok (.getfield 202, 3) := by decide +kernel
theorem dX12_place_74 : decode cX12_place 74 = .ok (.lcmp, 1) := by decide +kernel
theorem dX12_place_75 : decode cX12_place 75 = .ok (.ifCond .ne 7, 3) := by decide +kernel
theorem dX12_place_78 : decode cX12_place 78 = .ok (.lconst 0, 1) := by decide +kernel
theorem dX12_place_79 : decode cX12_place 79 = .ok (.goto 6, 3) := by decide +kernel
theorem dX12_place_82 : decode cX12_place 82 = .ok (.ldc2_w 123, 3) := by decide +kernel
theorem dX12_place_85 : decode cX12_place 85 = .ok (.lreturn, 1) := by decide +kernel
theorem dX12_place_86 : decode cX12_place 86 = .ok (.aload_n 0, 1) := by decide +kernel
theorem dX12_place_87 : decode cX12_place 87 = .ok (.getfield 202, 3) := by decide +kernel
theorem dX12_place_90 : decode cX12_place 90 = .ok (.aload_n 0, 1) := by decide +kernel
theorem dX12_place_91 : decode cX12_place 91 = .ok (.getfield 209, 3) := by decide +kernel
theorem dX12_place_94 : decode cX12_place 94 = .ok (.lconst 1, 1) := by decide +kernel
theorem dX12_place_95 : decode cX12_place 95 = .ok (.lsub, 1) := by decide +kernel
theorem dX12_place_96 : decode cX12_place 96 = .ok (.aload_n 0, 1) := by decide +kernel
theorem dX12_place_97 : decode cX12_place 97 = .ok (.getfield 206, 3) := by decide +kernel
theorem dX12_place_100 : decode cX12_place 100 = .ok (.lmul, 1) := by decide +kernel
theorem dX12_place_101 : decode cX12_place 101 = .ok (.ladd, 1) := by decide +kernel
theorem dX12_place_102 : decode cX12_place 102 = .ok (.lstore_n 3, 1) := by decide +kernel
theorem dX12_place_103 : decode cX12_place 103 = .ok (.lload_n 3, 1) := by decide +kernel
theorem dX12_place_104 : decode cX12_place 104 = .ok (.aload_n 0, 1) := by decide +kernel
theorem dX12_place_105 : decode cX12_place 105 = .ok (.getfield 202, 3) := by decide +kernel
theorem dX12_place_108 : decode cX12_place 108 = .ok (.lcmp, 1) := by decide +kernel
theorem dX12_place_109 : decode cX12_place 109 = .ok (.ifCond .le 7, 3) := by decide +kernel
theorem dX12_place_112 : decode cX12_place 112 = .ok (.iconst 1, 1) := by decide +kernel
theorem dX12_place_113 : decode cX12_place 113 = .ok (.goto 4, 3) := by decide +kernel
theorem dX12_place_116 : decode cX12_place 116 = .ok (.iconst 0, 1) := by decide +kernel
theorem dX12_place_117 : decode cX12_place 117 = .ok (.istore 5, 2) := by decide +kernel
theorem dX12_place_119 : decode cX12_place 119 = .ok (.lload_n 1, 1) := by decide +kernel
theorem dX12_place_120 : decode cX12_place 120 = .ok (.iload 5, 2) := by decide +kernel
theorem dX12_place_122 : decode cX12_place 122 = .ok (.ifCond .eq 10, 3) := by decide +kernel
theorem dX12_place_125 : decode cX12_place 125 = .ok (.aload_n 0, 1) := by decide +kernel
theorem dX12_place_126 : decode cX12_place 126 = .ok (.getfield 202, 3) := by decide +kernel
theorem dX12_place_129 : decode cX12_place 129 = .ok (.goto 4, 3) := by decide +kernel
theorem dX12_place_132 : decode cX12_place 132 = .ok (.lload_n 3, 1) := by decide +kernel
theorem dX12_place_133 : decode cX12_place 133 = .ok (.lcmp, 1) := by decide +kernel
theorem dX12_place_134 : decode cX12_place 134 = .ok (.ifCond .lt 21, 3) := by decide +kernel
theorem dX12_place_137 : decode cX12_place 137 = .ok (.lload_n 1, 1) := by decide +kernel
theorem dX12_place_138 : decode cX12_place 138 = .ok (.iload 5, 2) := by decide +kernel
theorem dX12_place_140 : decode cX12_place 140 = .ok (.ifCond .eq 7, 3) := by decide +kernel
theorem dX12_place_143 : decode cX12_place 143 = .ok (.lload_n 3, 1) := by decide +kernel
theorem dX12_place_144 : decode cX12_place 144 = .ok (.goto 7, 3) := by decide +kernel
theorem dX12_place_147 : decode cX12_place 147 = .ok (.aload_n 0, 1) := by decide +kernel
theorem dX12_place_148 : decode cX12_place 148 = .ok (.getfield 202, 3) := by decide +kernel
theorem dX12_place_151 : decode cX12_place 151 = .ok (.lcmp, 1) := by decide +kernel
theorem dX12_place_152 : decode cX12_place 152 = .ok (.ifCond .le 7, 3) := by decide +kernel
theorem dX12_place_155 : decode cX12_place 155 = .ok (.ldc2_w 123, 3) := by decide +kernel
theorem dX12_place_158 : decode cX12_place 158 = .ok (.lreturn, 1) := by decide +kernel
theorem dX12_place_159 : decode cX12_place 159 = .ok (.iload 5, 2) := by decide +kernel
theorem dX12_place_161 : decode cX12_place 161 = .ok (.ifCond .eq 10, 3) := by decide +kernel
theorem dX12_place_164 : decode cX12_place 164 = .ok (.aload_n 0, 1) := by decide +kernel
theorem dX12_place_165 : decode cX12_place 165 = .ok (.getfield 206, 3) := by decide +kernel
theorem dX12_place_168 : decode cX12_place 168 = .ok (.goto 8, 3) := by decide +kernel
theorem dX12_place_171 : decode cX12_place 171 = .ok (.aload_n 0, 1) := by decide +kernel
theorem dX12_place_172 : decode cX12_place 172 = .ok (.getfield 206, 3) := by decide +kernel
theorem dX12_place_175 : decode cX12_place 175 = .ok (.lneg, 1) := by decide +kernel
theorem dX12_place_176 : decode cX12_place 176 = .ok (.lstore 6, 2) := by decide +kernel
theorem dX12_place_178 : decode cX12_place 178 = .ok (.lload_n 1, 1) := by decide +kernel
theorem dX12_place_179 : decode cX12_place 179 = .ok (.aload_n 0, 1) := by decide +kernel
theorem dX12_place_180 : decode cX12_place 180 = .ok (.getfield 202, 3) := by decide +kernel
theorem dX12_place_183 : decode cX12_place 183 = .ok (.invokestatic 190, 3) := by decide +kernel
theorem dX12_place_186 : decode cX12_place 186 = .ok (.lstore 8, 2) := by decide +kernel
theorem dX12_place_188 : decode cX12_place 188 = .ok (.lload 6, 2) := by decide +kernel
theorem dX12_place_190 : decode cX12_place 190 = .ok (.lconst 0, 1) := by decide +kernel
theorem dX12_place_191 : decode cX12_place 191 = .ok (.lcmp, 1) := by decide +kernel
theorem dX12_place_192 : decode cX12_place 192 = .ok (.ifCond .le 13, 3) := by decide +kernel
theorem dX12_place_195 : decode cX12_place 195 = .ok (.lload 8, 2) := by decide +kernel
theorem dX12_place_197 : decode cX12_place 197 = .ok (.lload 6, 2) := by decide +kernel
theorem dX12_place_199 : decode cX12_place 199 = .ok (.invokestatic 142, 3) := by decide +kernel
theorem dX12_place_202 : decode cX12_place 202 = .ok (.goto 24, 3) := by decide +kernel
theorem dX12_place_205 : decode cX12_place 205 = .ok (.lload 8, 2) := by decide +kernel
theorem dX12_place_207 : decode cX12_place 207 = .ok (.ldc2_w 193, 3) := by decide +kernel
theorem dX12_place_210 : decode cX12_place 210 = .ok (.lxor, 1) := by decide +kernel
theorem dX12_place_211 : decode cX12_place 211 = .ok (.lload 6, 2) := by decide +kernel
theorem dX12_place_213 : decode cX12_place 213 = .ok (.ldc2_w 193, 3) := by decide +kernel
theorem dX12_place_216 : decode cX12_place 216 = .ok (.lxor, 1) := by decide +kernel
theorem dX12_place_217 : decode cX12_place 217 = .ok (.lcmp, 1) := by decide +kernel
theorem dX12_place_218 : decode cX12_place 218 = .ok (.ifCond .lt 7, 3) := by decide +kernel
theorem dX12_place_221 : decode cX12_place 221 = .ok (.lconst 1, 1) := by decide +kernel
theorem dX12_place_222 : decode cX12_place 222 = .ok (.goto 4, 3) := by decide +kernel
theorem dX12_place_225 : decode cX12_place 225 = .ok (.lconst 0, 1) := by decide +kernel
theorem dX12_place_226 : decode cX12_place 226 = .ok (.lstore 10, 2) := by decide +kernel
theorem dX12_place_228 : decode cX12_place 228 = .ok (.aload_n 0, 1) := by decide +kernel
theorem dX12_place_229 : decode cX12_place 229 = .ok (.getfield 202, 3) := by decide +kernel
theorem dX12_place_232 : decode cX12_place 232 = .ok (.lload 10, 2) := by decide +kernel
theorem dX12_place_234 : decode cX12_place 234 = .ok (.aload_n 0, 1) := by decide +kernel
theorem dX12_place_235 : decode cX12_place 235 = .ok (.getfield 206, 3) := by decide +kernel
theorem dX12_place_238 : decode cX12_place 238 = .ok (.lmul, 1) := by decide +kernel
theorem dX12_place_239 : decode cX12_place 239 = .ok (.ladd, 1) := by decide +kernel
theorem dX12_place_240 : decode cX12_place 240 = .ok (.lload_n 1, 1) := by decide +kernel
theorem dX12_place_241 : decode cX12_place 241 = .ok (.lcmp, 1) := by decide +kernel
theorem dX12_place_242 : decode cX12_place 242 = .ok (.ifCond .ne 8, 3) := by decide +kernel
theorem dX12_place_245 : decode cX12_place 245 = .ok (.lload 10, 2) := by decide +kernel
theorem dX12_place_247 : decode cX12_place 247 = .ok (.goto 6, 3) := by decide +kernel
theorem dX12_place_250 : decode cX12_place 250 = .ok (.ldc2_w 123, 3) := by decide +kernel
theorem dX12_place_253 : decode cX12_place 253 = .ok (.lreturn, 1) := by decide +kernel
theorem dX12_draw_0 : decode cX12_draw 0 = .ok (.aload_n 0, 1) := by decide +kernel
theorem dX12_draw_1 : decode cX12_draw 1 = .ok (.iconst 0, 1) := by decide +kernel
theorem dX12_draw_2 : decode cX12_draw 2 = .ok (.putfield 99, 3) := by decide +kernel
theorem dX12_draw_5 : decode cX12_draw 5 = .ok (.aload_n 0, 1) := by decide +kernel
theorem dX12_draw_6 : decode cX12_draw 6 = .ok (.getfield 209, 3) := by decide +kernel
theorem dX12_draw_9 : decode cX12_draw 9 = .ok (.lconst 0, 1) := by decide +kernel
theorem dX12_draw_10 : decode cX12_draw 10 = .ok (.lcmp, 1) := by decide +kernel
theorem dX12_draw_11 : decode cX12_draw 11 = .ok (.ifCond .ne 10, 3) := by decide +kernel
theorem dX12_draw_14 : decode cX12_draw 14 = .ok (.aload_n 0, 1) := by decide +kernel
theorem dX12_draw_15 : decode cX12_draw 15 = .ok (.iconst 1, 1) := by decide +kernel
theorem dX12_draw_16 : decode cX12_draw 16 = .ok (.putfield 99, 3) := by decide +kernel
theorem dX12_draw_19 : decode cX12_draw 19 = .ok (.lconst 0, 1) := by decide +kernel
theorem dX12_draw_20 : decode cX12_draw 20 = .ok (.lreturn, 1) := by decide +kernel
theorem dX12_draw_21 : decode cX12_draw 21 = .ok (.lload_n 1, 1) := by decide +kernel
theorem dX12_draw_22 : decode cX12_draw 22 = .ok (.aload_n 0, 1) := by decide +kernel
theorem dX12_draw_23 : decode cX12_draw 23 = .ok (.getfield 209, 3) := by decide +kernel
theorem dX12_draw_26 : decode cX12_draw 26 = .ok (.invokestatic 142, 3) := by decide +kernel
theorem dX12_draw_29 : decode cX12_draw 29 = .ok (.lstore_n 3, 1) := by decide +kernel
theorem dX12_draw_30 : decode cX12_draw 30 = .ok (.aload_n 0, 1) := by decide +kernel
theorem dX12_draw_31 : decode cX12_draw 31 = .ok (.lload_n 1, 1) := by decide +kernel
theorem dX12_draw_32 : decode cX12_draw 32 = .ok (.lload_n 3, 1) := by decide +kernel
theorem dX12_draw_33 : decode cX12_draw 33 = .ok (.aload_n 0, 1) := by decide +kernel
theorem dX12_draw_34 : decode cX12_draw 34 = .ok (.getfield 209, 3) := by decide +kernel
theorem dX12_draw_37 : decode cX12_draw 37 = .ok (.lmul, 1) := by decide +kernel
theorem dX12_draw_38 : decode cX12_draw 38 = .ok (.lsub, 1) := by decide +kernel
theorem dX12_draw_39 : decode cX12_draw 39 = .ok (.invokevirtual 216, 3) := by decide +kernel
theorem dX12_draw_42 : decode cX12_draw 42 = .ok (.lreturn, 1) := by decide +kernel
theorem dX12_barred_0 : decode cX12_barred 0 = .ok (.aload_n 0, 1) := by decide +kernel
theorem dX12_barred_1 : decode cX12_barred 1 = .ok (.iconst 0, 1) := by decide +kernel
theorem dX12_barred_2 : decode cX12_barred 2 = .ok (.putfield 99, 3) := by decide +kernel
theorem dX12_barred_5 : decode cX12_barred 5 = .ok (.aload_n 0, 1) := by decide +kernel
theorem dX12_barred_6 : decode cX12_barred 6 = .ok (.getfield 187, 3) := by decide +kernel
theorem dX12_barred_9 : decode cX12_barred 9 = .ok (.ireturn, 1) := by decide +kernel
theorem dX12_bar_0 : decode cX12_bar 0 = .ok (.aload_n 0, 1) := by decide +kernel
theorem dX12_bar_1 : decode cX12_bar 1 = .ok (.iconst 0, 1) := by decide +kernel
theorem dX12_bar_2 : decode cX12_bar 2 = .ok (.putfield 99, 3) := by decide +kernel
theorem dX12_bar_5 : decode cX12_bar 5 = .ok (.iload_n 1, 1) := by decide +kernel
theorem dX12_bar_6 : decode cX12_bar 6 = .ok (.ifCond .lt 11, 3) := by decide +kernel
theorem dX12_bar_9 : decode cX12_bar 9 = .ok (.iload_n 1, 1) := by decide +kernel
theorem dX12_bar_10 : decode cX12_bar 10 = .ok (.aload_n 0, 1) := by decide +kernel
theorem dX12_bar_11 : decode cX12_bar 11 = .ok (.getfield 187, 3) := by decide +kernel
theorem dX12_bar_14 : decode cX12_bar 14 = .ok (.if_icmp .lt 5, 3) := by decide +kernel
theorem dX12_bar_17 : decode cX12_bar 17 = .ok (.iconst (-1), 1) := by decide +kernel
theorem dX12_bar_18 : decode cX12_bar 18 = .ok (.ireturn, 1) := by decide +kernel
theorem dX12_bar_19 : decode cX12_bar 19 = .ok (.iload_n 2, 1) := by decide +kernel
theorem dX12_bar_20 : decode cX12_bar 20 = .ok (.ifCond .ne 12, 3) := by decide +kernel
theorem dX12_bar_23 : decode cX12_bar 23 = .ok (.aload_n 0, 1) := by decide +kernel
theorem dX12_bar_24 : decode cX12_bar 24 = .ok (.getfield 90, 3) := by decide +kernel
theorem dX12_bar_27 : decode cX12_bar 27 = .ok (.iload_n 1, 1) := by decide +kernel
theorem dX12_bar_28 : decode cX12_bar 28 = .ok (.iaload, 1) := by decide +kernel
theorem dX12_bar_29 : decode cX12_bar 29 = .ok (.goto 19, 3) := by decide +kernel
theorem dX12_bar_32 : decode cX12_bar 32 = .ok (.iload_n 2, 1) := by decide +kernel
theorem dX12_bar_33 : decode cX12_bar 33 = .ok (.iconst 1, 1) := by decide +kernel
theorem dX12_bar_34 : decode cX12_bar 34 = .ok (.if_icmp .ne 12, 3) := by decide +kernel
theorem dX12_bar_37 : decode cX12_bar 37 = .ok (.aload_n 0, 1) := by decide +kernel
theorem dX12_bar_38 : decode cX12_bar 38 = .ok (.getfield 93, 3) := by decide +kernel
theorem dX12_bar_41 : decode cX12_bar 41 = .ok (.iload_n 1, 1) := by decide +kernel
theorem dX12_bar_42 : decode cX12_bar 42 = .ok (.iaload, 1) := by decide +kernel
theorem dX12_bar_43 : decode cX12_bar 43 = .ok (.goto 5, 3) := by decide +kernel
theorem dX12_bar_46 : decode cX12_bar 46 = .ok (.bipush (-2), 2) := by decide +kernel
theorem dX12_bar_48 : decode cX12_bar 48 = .ok (.ireturn, 1) := by decide +kernel
theorem dX12_barredAt_0 : decode cX12_barredAt 0 = .ok (.aload_n 0, 1) := by decide +kernel
theorem dX12_barredAt_1 : decode cX12_barredAt 1 = .ok (.iconst 0, 1) := by decide +kernel
theorem dX12_barredAt_2 : decode cX12_barredAt 2 = .ok (.putfield 99, 3) := by decide +kernel
theorem dX12_barredAt_5 : decode cX12_barredAt 5 = .ok (.iload_n 1, 1) := by decide +kernel
theorem dX12_barredAt_6 : decode cX12_barredAt 6 = .ok (.ifCond .lt 11, 3) := by decide +kernel
theorem dX12_barredAt_9 : decode cX12_barredAt 9 = .ok (.iload_n 1, 1) := by decide +kernel
theorem dX12_barredAt_10 : decode cX12_barredAt 10 = .ok (.aload_n 0, 1) := by decide +kernel
theorem dX12_barredAt_11 : decode cX12_barredAt 11 = .ok (.getfield 187, 3) := by decide +kernel
theorem dX12_barredAt_14 : decode cX12_barredAt 14 = .ok (.if_icmp .lt 10, 3) := by decide +kernel
theorem dX12_barredAt_17 : decode cX12_barredAt 17 = .ok (.aload_n 0, 1) := by decide +kernel
theorem dX12_barredAt_18 : decode cX12_barredAt 18 = .ok (.iconst 1, 1) := by decide +kernel
theorem dX12_barredAt_19 : decode cX12_barredAt 19 = .ok (.putfield 99, 3) := by decide +kernel
theorem dX12_barredAt_22 : decode cX12_barredAt 22 = .ok (.lconst 0, 1) := by decide +kernel
theorem dX12_barredAt_23 : decode cX12_barredAt 23 = .ok (.lreturn, 1) := by decide +kernel
theorem dX12_barredAt_24 : decode cX12_barredAt 24 = .ok (.aload_n 0, 1) := by decide +kernel
theorem dX12_barredAt_25 : decode cX12_barredAt 25 = .ok (.getfield 87, 3) := by decide +kernel
theorem dX12_barredAt_28 : decode cX12_barredAt 28 = .ok (.iload_n 1, 1) := by decide +kernel
theorem dX12_barredAt_29 : decode cX12_barredAt 29 = .ok (.laload, 1) := by decide +kernel
theorem dX12_barredAt_30 : decode cX12_barredAt 30 = .ok (.lreturn, 1) := by decide +kernel
theorem dX12_distance_0 : decode cX12_distance 0 = .ok (.aload_n 0, 1) := by decide +kernel
theorem dX12_distance_1 : decode cX12_distance 1 = .ok (.iconst 0, 1) := by decide +kernel
theorem dX12_distance_2 : decode cX12_distance 2 = .ok (.putfield 99, 3) := by decide +kernel
theorem dX12_distance_5 : decode cX12_distance 5 = .ok (.lload_n 1, 1) := by decide +kernel
theorem dX12_distance_6 : decode cX12_distance 6 = .ok (.lload_n 3, 1) := by decide +kernel
theorem dX12_distance_7 : decode cX12_distance 7 = .ok (.invokestatic 190, 3) := by decide +kernel
theorem dX12_distance_10 : decode cX12_distance 10 = .ok (.lreturn, 1) := by decide +kernel
theorem dX12_told_0 : decode cX12_told 0 = .ok (.aload_n 0, 1) := by decide +kernel
theorem dX12_told_1 : decode cX12_told 1 = .ok (.iconst 0, 1) := by decide +kernel
theorem dX12_told_2 : decode cX12_told 2 = .ok (.putfield 99, 3) := by decide +kernel
theorem dX12_told_5 : decode cX12_told 5 = .ok (.iload_n 1, 1) := by decide +kernel
theorem dX12_told_6 : decode cX12_told 6 = .ok (.tableswitch 58 0 3 #[30, 35, 40, 45], 30) := by decide +kernel
theorem dX12_told_36 : decode cX12_told 36 = .ok (.aload_n 0, 1) := by decide +kernel
theorem dX12_told_37 : decode cX12_told 37 = .ok (.getfield 103, 3) := by decide +kernel
theorem dX12_told_40 : decode cX12_told 40 = .ok (.ireturn, 1) := by decide +kernel
theorem dX12_told_41 : decode cX12_told 41 = .ok (.aload_n 0, 1) := by decide +kernel
theorem dX12_told_42 : decode cX12_told 42 = .ok (.getfield 137, 3) := by decide +kernel
theorem dX12_told_45 : decode cX12_told 45 = .ok (.ireturn, 1) := by decide +kernel
theorem dX12_told_46 : decode cX12_told 46 = .ok (.aload_n 0, 1) := by decide +kernel
theorem dX12_told_47 : decode cX12_told 47 = .ok (.getfield 110, 3) := by decide +kernel
theorem dX12_told_50 : decode cX12_told 50 = .ok (.ireturn, 1) := by decide +kernel
theorem dX12_told_51 : decode cX12_told 51 = .ok (.aload_n 0, 1) := by decide +kernel
theorem dX12_told_52 : decode cX12_told 52 = .ok (.getfield 199, 3) := by decide +kernel
theorem dX12_told_55 : decode cX12_told 55 = .ok (.ifCond .eq 7, 3) := by decide +kernel
theorem dX12_told_58 : decode cX12_told 58 = .ok (.iconst 1, 1) := by decide +kernel
theorem dX12_told_59 : decode cX12_told 59 = .ok (.goto 4, 3) := by decide +kernel
theorem dX12_told_62 : decode cX12_told 62 = .ok (.iconst 0, 1) := by decide +kernel
theorem dX12_told_63 : decode cX12_told 63 = .ok (.ireturn, 1) := by decide +kernel
theorem dX12_told_64 : decode cX12_told 64 = .ok (.bipush (-2), 2) := by decide +kernel
theorem dX12_told_66 : decode cX12_told 66 = .ok (.ireturn, 1) := by decide +kernel
end
section
theorem dL_at_0 : decode cL_at 0 = .ok (.aload_n 3, 1) := by decide +kernel
theorem dL_at_1 : decode cL_at 1 = .ok (.iconst 0, 1) := by decide +kernel
theorem dL_at_2 : decode cL_at 2 = .ok (.aload_n 0, 1) := by decide +kernel
theorem dL_at_3 : decode cL_at 3 = .ok (.lload_n 1, 1) := by decide +kernel
theorem dL_at_4 : decode cL_at 4 = .ok (.invokevirtual 7, 3) := by decide +kernel
theorem dL_at_7 : decode cL_at 7 = .ok (.lastore, 1) := by decide +kernel
theorem dL_at_8 : decode cL_at 8 = .ok (.goto 7, 3) := by decide +kernel
theorem dL_at_11 : decode cL_at 11 = .ok (.astore 4, 2) := by decide +kernel
theorem dL_at_13 : decode cL_at 13 = .ok (.iconst 1, 1) := by decide +kernel
theorem dL_at_14 : decode cL_at 14 = .ok (.ireturn, 1) := by decide +kernel
theorem dL_at_15 : decode cL_at 15 = .ok (.iconst 0, 1) := by decide +kernel
theorem dL_at_16 : decode cL_at 16 = .ok (.ireturn, 1) := by decide +kernel
theorem dL_draw_0 : decode cL_draw 0 = .ok (.aload_n 3, 1) := by decide +kernel
theorem dL_draw_1 : decode cL_draw 1 = .ok (.iconst 0, 1) := by decide +kernel
theorem dL_draw_2 : decode cL_draw 2 = .ok (.aload_n 0, 1) := by decide +kernel
theorem dL_draw_3 : decode cL_draw 3 = .ok (.lload_n 1, 1) := by decide +kernel
theorem dL_draw_4 : decode cL_draw 4 = .ok (.invokevirtual 15, 3) := by decide +kernel
theorem dL_draw_7 : decode cL_draw 7 = .ok (.lastore, 1) := by decide +kernel
theorem dL_draw_8 : decode cL_draw 8 = .ok (.goto 7, 3) := by decide +kernel
theorem dL_draw_11 : decode cL_draw 11 = .ok (.astore 4, 2) := by decide +kernel
theorem dL_draw_13 : decode cL_draw 13 = .ok (.iconst 1, 1) := by decide +kernel
theorem dL_draw_14 : decode cL_draw 14 = .ok (.ireturn, 1) := by decide +kernel
theorem dL_draw_15 : decode cL_draw 15 = .ok (.iconst 0, 1) := by decide +kernel
theorem dL_draw_16 : decode cL_draw 16 = .ok (.ireturn, 1) := by decide +kernel
theorem dL_barredAt_0 : decode cL_barredAt 0 = .ok (.aload_n 2, 1) := by decide +kernel
theorem dL_barredAt_1 : decode cL_barredAt 1 = .ok (.iconst 0, 1) := by decide +kernel
theorem dL_barredAt_2 : decode cL_barredAt 2 = .ok (.aload_n 0, 1) := by decide +kernel
theorem dL_barredAt_3 : decode cL_barredAt 3 = .ok (.iload_n 1, 1) := by decide +kernel
theorem dL_barredAt_4 : decode cL_barredAt 4 = .ok (.invokevirtual 18, 3) := by decide +kernel
theorem dL_barredAt_7 : decode cL_barredAt 7 = .ok (.lastore, 1) := by decide +kernel
theorem dL_barredAt_8 : decode cL_barredAt 8 = .ok (.goto 6, 3) := by decide +kernel
theorem dL_barredAt_11 : decode cL_barredAt 11 = .ok (.astore_n 3, 1) := by decide +kernel
theorem dL_barredAt_12 : decode cL_barredAt 12 = .ok (.iconst 1, 1) := by decide +kernel
theorem dL_barredAt_13 : decode cL_barredAt 13 = .ok (.ireturn, 1) := by decide +kernel
theorem dL_barredAt_14 : decode cL_barredAt 14 = .ok (.iconst 0, 1) := by decide +kernel
theorem dL_barredAt_15 : decode cL_barredAt 15 = .ok (.ireturn, 1) := by decide +kernel
theorem dL_law_0 : decode cL_law 0 = .ok (.new 8, 3) := by decide +kernel
theorem dL_law_3 : decode cL_law 3 = .ok (.dup, 1) := by decide +kernel
theorem dL_law_4 : decode cL_law 4 = .ok (.invokespecial 22, 3) := by decide +kernel
theorem dL_law_7 : decode cL_law 7 = .ok (.astore_n 1, 1) := by decide +kernel
theorem dL_law_8 : decode cL_law 8 = .ok (.new 23, 3) := by decide +kernel
theorem dL_law_11 : decode cL_law 11 = .ok (.dup, 1) := by decide +kernel
theorem dL_law_12 : decode cL_law 12 = .ok (.invokespecial 25, 3) := by decide +kernel
theorem dL_law_15 : decode cL_law 15 = .ok (.astore_n 2, 1) := by decide +kernel
theorem dL_law_16 : decode cL_law 16 = .ok (.iconst 1, 1) := by decide +kernel
theorem dL_law_17 : decode cL_law 17 = .ok (.newarray .long, 2) := by decide +kernel
theorem dL_law_19 : decode cL_law 19 = .ok (.astore_n 3, 1) := by decide +kernel
theorem dL_law_20 : decode cL_law 20 = .ok (.iconst 0, 1) := by decide +kernel
theorem dL_law_21 : decode cL_law 21 = .ok (.istore 4, 2) := by decide +kernel
theorem dL_law_23 : decode cL_law 23 = .ok (.iload 4, 2) := by decide +kernel
theorem dL_law_25 : decode cL_law 25 = .ok (.aload_n 0, 1) := by decide +kernel
theorem dL_law_26 : decode cL_law 26 = .ok (.arraylength, 1) := by decide +kernel
theorem dL_law_27 : decode cL_law 27 = .ok (.bipush 8, 2) := by decide +kernel
theorem dL_law_29 : decode cL_law 29 = .ok (.isub, 1) := by decide +kernel
theorem dL_law_30 : decode cL_law 30 = .ok (.if_icmp .gt 1319, 3) := by decide +kernel
theorem dL_law_33 : decode cL_law 33 = .ok (.aload_n 0, 1) := by decide +kernel
theorem dL_law_34 : decode cL_law 34 = .ok (.iload 4, 2) := by decide +kernel
theorem dL_law_36 : decode cL_law 36 = .ok (.iaload, 1) := by decide +kernel
theorem dL_law_37 : decode cL_law 37 = .ok (.bipush 31, 2) := by decide +kernel
theorem dL_law_39 : decode cL_law 39 = .ok (.iand, 1) := by decide +kernel
theorem dL_law_40 : decode cL_law 40 = .ok (.tableswitch 1303 0 19 #[96, 145, 226, 263, 356, 425, 450, 597, 610, 679, 800, 825, 839, 926, 984, 1071, 1084, 1121, 1176, 1278], 96) := by decide +kernel
theorem dL_law_136 : decode cL_law 136 = .ok (.aload_n 1, 1) := by decide +kernel
theorem dL_law_137 : decode cL_law 137 = .ok (.aload_n 0, 1) := by decide +kernel
theorem dL_law_138 : decode cL_law 138 = .ok (.iload 4, 2) := by decide +kernel
theorem dL_law_140 : decode cL_law 140 = .ok (.iconst 1, 1) := by decide +kernel
theorem dL_law_141 : decode cL_law 141 = .ok (.iadd, 1) := by decide +kernel
theorem dL_law_142 : decode cL_law 142 = .ok (.iaload, 1) := by decide +kernel
theorem dL_law_143 : decode cL_law 143 = .ok (.aload_n 0, 1) := by decide +kernel
theorem dL_law_144 : decode cL_law 144 = .ok (.iload 4, 2) := by decide +kernel
theorem dL_law_146 : decode cL_law 146 = .ok (.iconst 2, 1) := by decide +kernel
theorem dL_law_147 : decode cL_law 147 = .ok (.iadd, 1) := by decide +kernel
theorem dL_law_148 : decode cL_law 148 = .ok (.iaload, 1) := by decide +kernel
theorem dL_law_149 : decode cL_law 149 = .ok (.aload_n 0, 1) := by decide +kernel
theorem dL_law_150 : decode cL_law 150 = .ok (.iload 4, 2) := by decide +kernel
theorem dL_law_152 : decode cL_law 152 = .ok (.iconst 3, 1) := by decide +kernel
theorem dL_law_153 : decode cL_law 153 = .ok (.iadd, 1) := by decide +kernel
theorem dL_law_154 : decode cL_law 154 = .ok (.iaload, 1) := by decide +kernel
theorem dL_law_155 : decode cL_law 155 = .ok (.invokevirtual 26, 3) := by decide +kernel
theorem dL_law_158 : decode cL_law 158 = .ok (.aload_n 2, 1) := by decide +kernel
theorem dL_law_159 : decode cL_law 159 = .ok (.aload_n 0, 1) := by decide +kernel
theorem dL_law_160 : decode cL_law 160 = .ok (.iload 4, 2) := by decide +kernel
theorem dL_law_162 : decode cL_law 162 = .ok (.iconst 1, 1) := by decide +kernel
theorem dL_law_163 : decode cL_law 163 = .ok (.iadd, 1) := by decide +kernel
theorem dL_law_164 : decode cL_law 164 = .ok (.iaload, 1) := by decide +kernel
theorem dL_law_165 : decode cL_law 165 = .ok (.aload_n 0, 1) := by decide +kernel
theorem dL_law_166 : decode cL_law 166 = .ok (.iload 4, 2) := by decide +kernel
theorem dL_law_168 : decode cL_law 168 = .ok (.iconst 2, 1) := by decide +kernel
theorem dL_law_169 : decode cL_law 169 = .ok (.iadd, 1) := by decide +kernel
theorem dL_law_170 : decode cL_law 170 = .ok (.iaload, 1) := by decide +kernel
theorem dL_law_171 : decode cL_law 171 = .ok (.aload_n 0, 1) := by decide +kernel
theorem dL_law_172 : decode cL_law 172 = .ok (.iload 4, 2) := by decide +kernel
theorem dL_law_174 : decode cL_law 174 = .ok (.iconst 3, 1) := by decide +kernel
theorem dL_law_175 : decode cL_law 175 = .ok (.iadd, 1) := by decide +kernel
theorem dL_law_176 : decode cL_law 176 = .ok (.iaload, 1) := by decide +kernel
theorem dL_law_177 : decode cL_law 177 = .ok (.invokevirtual 30, 3) := by decide +kernel
theorem dL_law_180 : decode cL_law 180 = .ok (.if_icmp .eq 1163, 3) := by decide +kernel
theorem dL_law_183 : decode cL_law 183 = .ok (.iconst 0, 1) := by decide +kernel
theorem dL_law_184 : decode cL_law 184 = .ok (.ireturn, 1) := by decide +kernel
theorem dL_law_185 : decode cL_law 185 = .ok (.aload_n 1, 1) := by decide +kernel
theorem dL_law_186 : decode cL_law 186 = .ok (.aload_n 0, 1) := by decide +kernel
theorem dL_law_187 : decode cL_law 187 = .ok (.iload 4, 2) := by decide +kernel
theorem dL_law_189 : decode cL_law 189 = .ok (.iconst 1, 1) := by decide +kernel
theorem dL_law_190 : decode cL_law 190 = .ok (.iadd, 1) := by decide +kernel
theorem dL_law_191 : decode cL_law 191 = .ok (.iaload, 1) := by decide +kernel
theorem dL_law_192 : decode cL_law 192 = .ok (.aload_n 0, 1) := by decide +kernel
theorem dL_law_193 : decode cL_law 193 = .ok (.iload 4, 2) := by decide +kernel
theorem dL_law_195 : decode cL_law 195 = .ok (.iconst 2, 1) := by decide +kernel
theorem dL_law_196 : decode cL_law 196 = .ok (.iadd, 1) := by decide +kernel
theorem dL_law_197 : decode cL_law 197 = .ok (.iaload, 1) := by decide +kernel
theorem dL_law_198 : decode cL_law 198 = .ok (.aload_n 0, 1) := by decide +kernel
theorem dL_law_199 : decode cL_law 199 = .ok (.iload 4, 2) := by decide +kernel
theorem dL_law_201 : decode cL_law 201 = .ok (.iconst 3, 1) := by decide +kernel
theorem dL_law_202 : decode cL_law 202 = .ok (.iadd, 1) := by decide +kernel
theorem dL_law_203 : decode cL_law 203 = .ok (.iaload, 1) := by decide +kernel
theorem dL_law_204 : decode cL_law 204 = .ok (.i2l, 1) := by decide +kernel
theorem dL_law_205 : decode cL_law 205 = .ok (.bipush 32, 2) := by decide +kernel
theorem dL_law_207 : decode cL_law 207 = .ok (.lshl, 1) := by decide +kernel
theorem dL_law_208 : decode cL_law 208 = .ok (.aload_n 0, 1) := by decide +kernel
theorem dL_law_209 : decode cL_law 209 = .ok (.iload 4, 2) := by decide +kernel
theorem dL_law_211 : decode cL_law 211 = .ok (.iconst 4, 1) := by decide +kernel
theorem dL_law_212 : decode cL_law 212 = .ok (.iadd, 1) := by decide +kernel
theorem dL_law_213 : decode cL_law 213 = .ok (.iaload, 1) := by decide +kernel
theorem dL_law_214 : decode cL_law 214 = .ok (.i2l, 1) := by decide +kernel
theorem dL_law_215 : decode cL_law 215 = .ok (.ldc2_w 31, 3) := by decide +kernel
theorem dL_law_218 : decode cL_law 218 = .ok (.land, 1) := by decide +kernel
theorem dL_law_219 : decode cL_law 219 = .ok (.lor, 1) := by decide +kernel
theorem dL_law_220 : decode cL_law 220 = .ok (.invokevirtual 33, 3) := by decide +kernel
theorem dL_law_223 : decode cL_law 223 = .ok (.aload_n 2, 1) := by decide +kernel
theorem dL_law_224 : decode cL_law 224 = .ok (.aload_n 0, 1) := by decide +kernel
theorem dL_law_225 : decode cL_law 225 = .ok (.iload 4, 2) := by decide +kernel
theorem dL_law_227 : decode cL_law 227 = .ok (.iconst 1, 1) := by decide +kernel
theorem dL_law_228 : decode cL_law 228 = .ok (.iadd, 1) := by decide +kernel
theorem dL_law_229 : decode cL_law 229 = .ok (.iaload, 1) := by decide +kernel
theorem dL_law_230 : decode cL_law 230 = .ok (.aload_n 0, 1) := by decide +kernel
theorem dL_law_231 : decode cL_law 231 = .ok (.iload 4, 2) := by decide +kernel
theorem dL_law_233 : decode cL_law 233 = .ok (.iconst 2, 1) := by decide +kernel
theorem dL_law_234 : decode cL_law 234 = .ok (.iadd, 1) := by decide +kernel
theorem dL_law_235 : decode cL_law 235 = .ok (.iaload, 1) := by decide +kernel
theorem dL_law_236 : decode cL_law 236 = .ok (.aload_n 0, 1) := by decide +kernel
theorem dL_law_237 : decode cL_law 237 = .ok (.iload 4, 2) := by decide +kernel
theorem dL_law_239 : decode cL_law 239 = .ok (.iconst 3, 1) := by decide +kernel
theorem dL_law_240 : decode cL_law 240 = .ok (.iadd, 1) := by decide +kernel
theorem dL_law_241 : decode cL_law 241 = .ok (.iaload, 1) := by decide +kernel
theorem dL_law_242 : decode cL_law 242 = .ok (.i2l, 1) := by decide +kernel
theorem dL_law_243 : decode cL_law 243 = .ok (.bipush 32, 2) := by decide +kernel
theorem dL_law_245 : decode cL_law 245 = .ok (.lshl, 1) := by decide +kernel
theorem dL_law_246 : decode cL_law 246 = .ok (.aload_n 0, 1) := by decide +kernel
theorem dL_law_247 : decode cL_law 247 = .ok (.iload 4, 2) := by decide +kernel
theorem dL_law_249 : decode cL_law 249 = .ok (.iconst 4, 1) := by decide +kernel
theorem dL_law_250 : decode cL_law 250 = .ok (.iadd, 1) := by decide +kernel
theorem dL_law_251 : decode cL_law 251 = .ok (.iaload, 1) := by decide +kernel
theorem dL_law_252 : decode cL_law 252 = .ok (.i2l, 1) := by decide +kernel
theorem dL_law_253 : decode cL_law 253 = .ok (.ldc2_w 31, 3) := by decide +kernel
theorem dL_law_256 : decode cL_law 256 = .ok (.land, 1) := by decide +kernel
theorem dL_law_257 : decode cL_law 257 = .ok (.lor, 1) := by decide +kernel
theorem dL_law_258 : decode cL_law 258 = .ok (.invokevirtual 37, 3) := by decide +kernel
theorem dL_law_261 : decode cL_law 261 = .ok (.if_icmp .eq 1082, 3) := by decide +kernel
theorem dL_law_264 : decode cL_law 264 = .ok (.iconst 0, 1) := by decide +kernel
theorem dL_law_265 : decode cL_law 265 = .ok (.ireturn, 1) := by decide +kernel
theorem dL_law_266 : decode cL_law 266 = .ok (.aload_n 1, 1) := by decide +kernel
theorem dL_law_267 : decode cL_law 267 = .ok (.aload_n 0, 1) := by decide +kernel
theorem dL_law_268 : decode cL_law 268 = .ok (.iload 4, 2) := by decide +kernel
theorem dL_law_270 : decode cL_law 270 = .ok (.iconst 1, 1) := by decide +kernel
theorem dL_law_271 : decode cL_law 271 = .ok (.iadd, 1) := by decide +kernel
theorem dL_law_272 : decode cL_law 272 = .ok (.iaload, 1) := by decide +kernel
theorem dL_law_273 : decode cL_law 273 = .ok (.aload_n 0, 1) := by decide +kernel
theorem dL_law_274 : decode cL_law 274 = .ok (.iload 4, 2) := by decide +kernel
theorem dL_law_276 : decode cL_law 276 = .ok (.iconst 2, 1) := by decide +kernel
theorem dL_law_277 : decode cL_law 277 = .ok (.iadd, 1) := by decide +kernel
theorem dL_law_278 : decode cL_law 278 = .ok (.iaload, 1) := by decide +kernel
theorem dL_law_279 : decode cL_law 279 = .ok (.invokevirtual 38, 3) := by decide +kernel
theorem dL_law_282 : decode cL_law 282 = .ok (.aload_n 2, 1) := by decide +kernel
theorem dL_law_283 : decode cL_law 283 = .ok (.aload_n 0, 1) := by decide +kernel
theorem dL_law_284 : decode cL_law 284 = .ok (.iload 4, 2) := by decide +kernel
theorem dL_law_286 : decode cL_law 286 = .ok (.iconst 1, 1) := by decide +kernel
theorem dL_law_287 : decode cL_law 287 = .ok (.iadd, 1) := by decide +kernel
theorem dL_law_288 : decode cL_law 288 = .ok (.iaload, 1) := by decide +kernel
theorem dL_law_289 : decode cL_law 289 = .ok (.aload_n 0, 1) := by decide +kernel
theorem dL_law_290 : decode cL_law 290 = .ok (.iload 4, 2) := by decide +kernel
theorem dL_law_292 : decode cL_law 292 = .ok (.iconst 2, 1) := by decide +kernel
theorem dL_law_293 : decode cL_law 293 = .ok (.iadd, 1) := by decide +kernel
theorem dL_law_294 : decode cL_law 294 = .ok (.iaload, 1) := by decide +kernel
theorem dL_law_295 : decode cL_law 295 = .ok (.invokevirtual 42, 3) := by decide +kernel
theorem dL_law_298 : decode cL_law 298 = .ok (.if_icmp .eq 1045, 3) := by decide +kernel
theorem dL_law_301 : decode cL_law 301 = .ok (.iconst 0, 1) := by decide +kernel
theorem dL_law_302 : decode cL_law 302 = .ok (.ireturn, 1) := by decide +kernel
theorem dL_law_303 : decode cL_law 303 = .ok (.aload_n 1, 1) := by decide +kernel
theorem dL_law_304 : decode cL_law 304 = .ok (.aload_n 0, 1) := by decide +kernel
theorem dL_law_305 : decode cL_law 305 = .ok (.iload 4, 2) := by decide +kernel
theorem dL_law_307 : decode cL_law 307 = .ok (.iconst 1, 1) := by decide +kernel
theorem dL_law_308 : decode cL_law 308 = .ok (.iadd, 1) := by decide +kernel
theorem dL_law_309 : decode cL_law 309 = .ok (.iaload, 1) := by decide +kernel
theorem dL_law_310 : decode cL_law 310 = .ok (.aload_n 0, 1) := by decide +kernel
theorem dL_law_311 : decode cL_law 311 = .ok (.iload 4, 2) := by decide +kernel
theorem dL_law_313 : decode cL_law 313 = .ok (.iconst 2, 1) := by decide +kernel
theorem dL_law_314 : decode cL_law 314 = .ok (.iadd, 1) := by decide +kernel
theorem dL_law_315 : decode cL_law 315 = .ok (.iaload, 1) := by decide +kernel
theorem dL_law_316 : decode cL_law 316 = .ok (.aload_n 0, 1) := by decide +kernel
theorem dL_law_317 : decode cL_law 317 = .ok (.iload 4, 2) := by decide +kernel
theorem dL_law_319 : decode cL_law 319 = .ok (.iconst 3, 1) := by decide +kernel
theorem dL_law_320 : decode cL_law 320 = .ok (.iadd, 1) := by decide +kernel
theorem dL_law_321 : decode cL_law 321 = .ok (.iaload, 1) := by decide +kernel
theorem dL_law_322 : decode cL_law 322 = .ok (.aload_n 0, 1) := by decide +kernel
theorem dL_law_323 : decode cL_law 323 = .ok (.iload 4, 2) := by decide +kernel
theorem dL_law_325 : decode cL_law 325 = .ok (.iconst 4, 1) := by decide +kernel
theorem dL_law_326 : decode cL_law 326 = .ok (.iadd, 1) := by decide +kernel
theorem dL_law_327 : decode cL_law 327 = .ok (.iaload, 1) := by decide +kernel
theorem dL_law_328 : decode cL_law 328 = .ok (.i2l, 1) := by decide +kernel
theorem dL_law_329 : decode cL_law 329 = .ok (.bipush 32, 2) := by decide +kernel
theorem dL_law_331 : decode cL_law 331 = .ok (.lshl, 1) := by decide +kernel
theorem dL_law_332 : decode cL_law 332 = .ok (.aload_n 0, 1) := by decide +kernel
theorem dL_law_333 : decode cL_law 333 = .ok (.iload 4, 2) := by decide +kernel
theorem dL_law_335 : decode cL_law 335 = .ok (.iconst 5, 1) := by decide +kernel
theorem dL_law_336 : decode cL_law 336 = .ok (.iadd, 1) := by decide +kernel
theorem dL_law_337 : decode cL_law 337 = .ok (.iaload, 1) := by decide +kernel
theorem dL_law_338 : decode cL_law 338 = .ok (.i2l, 1) := by decide +kernel
theorem dL_law_339 : decode cL_law 339 = .ok (.ldc2_w 31, 3) := by decide +kernel
theorem dL_law_342 : decode cL_law 342 = .ok (.land, 1) := by decide +kernel
theorem dL_law_343 : decode cL_law 343 = .ok (.lor, 1) := by decide +kernel
theorem dL_law_344 : decode cL_law 344 = .ok (.invokevirtual 43, 3) := by decide +kernel
theorem dL_law_347 : decode cL_law 347 = .ok (.aload_n 2, 1) := by decide +kernel
theorem dL_law_348 : decode cL_law 348 = .ok (.aload_n 0, 1) := by decide +kernel
theorem dL_law_349 : decode cL_law 349 = .ok (.iload 4, 2) := by decide +kernel
theorem dL_law_351 : decode cL_law 351 = .ok (.iconst 1, 1) := by decide +kernel
theorem dL_law_352 : decode cL_law 352 = .ok (.iadd, 1) := by decide +kernel
theorem dL_law_353 : decode cL_law 353 = .ok (.iaload, 1) := by decide +kernel
theorem dL_law_354 : decode cL_law 354 = .ok (.aload_n 0, 1) := by decide +kernel
theorem dL_law_355 : decode cL_law 355 = .ok (.iload 4, 2) := by decide +kernel
theorem dL_law_357 : decode cL_law 357 = .ok (.iconst 2, 1) := by decide +kernel
theorem dL_law_358 : decode cL_law 358 = .ok (.iadd, 1) := by decide +kernel
theorem dL_law_359 : decode cL_law 359 = .ok (.iaload, 1) := by decide +kernel
theorem dL_law_360 : decode cL_law 360 = .ok (.aload_n 0, 1) := by decide +kernel
theorem dL_law_361 : decode cL_law 361 = .ok (.iload 4, 2) := by decide +kernel
theorem dL_law_363 : decode cL_law 363 = .ok (.iconst 3, 1) := by decide +kernel
theorem dL_law_364 : decode cL_law 364 = .ok (.iadd, 1) := by decide +kernel
theorem dL_law_365 : decode cL_law 365 = .ok (.iaload, 1) := by decide +kernel
theorem dL_law_366 : decode cL_law 366 = .ok (.aload_n 0, 1) := by decide +kernel
theorem dL_law_367 : decode cL_law 367 = .ok (.iload 4, 2) := by decide +kernel
theorem dL_law_369 : decode cL_law 369 = .ok (.iconst 4, 1) := by decide +kernel
theorem dL_law_370 : decode cL_law 370 = .ok (.iadd, 1) := by decide +kernel
theorem dL_law_371 : decode cL_law 371 = .ok (.iaload, 1) := by decide +kernel
theorem dL_law_372 : decode cL_law 372 = .ok (.i2l, 1) := by decide +kernel
theorem dL_law_373 : decode cL_law 373 = .ok (.bipush 32, 2) := by decide +kernel
theorem dL_law_375 : decode cL_law 375 = .ok (.lshl, 1) := by decide +kernel
theorem dL_law_376 : decode cL_law 376 = .ok (.aload_n 0, 1) := by decide +kernel
theorem dL_law_377 : decode cL_law 377 = .ok (.iload 4, 2) := by decide +kernel
theorem dL_law_379 : decode cL_law 379 = .ok (.iconst 5, 1) := by decide +kernel
theorem dL_law_380 : decode cL_law 380 = .ok (.iadd, 1) := by decide +kernel
theorem dL_law_381 : decode cL_law 381 = .ok (.iaload, 1) := by decide +kernel
theorem dL_law_382 : decode cL_law 382 = .ok (.i2l, 1) := by decide +kernel
theorem dL_law_383 : decode cL_law 383 = .ok (.ldc2_w 31, 3) := by decide +kernel
theorem dL_law_386 : decode cL_law 386 = .ok (.land, 1) := by decide +kernel
theorem dL_law_387 : decode cL_law 387 = .ok (.lor, 1) := by decide +kernel
theorem dL_law_388 : decode cL_law 388 = .ok (.invokevirtual 47, 3) := by decide +kernel
theorem dL_law_391 : decode cL_law 391 = .ok (.if_icmp .eq 952, 3) := by decide +kernel
theorem dL_law_394 : decode cL_law 394 = .ok (.iconst 0, 1) := by decide +kernel
theorem dL_law_395 : decode cL_law 395 = .ok (.ireturn, 1) := by decide +kernel
theorem dL_law_396 : decode cL_law 396 = .ok (.aload_n 1, 1) := by decide +kernel
theorem dL_law_397 : decode cL_law 397 = .ok (.aload_n 0, 1) := by decide +kernel
theorem dL_law_398 : decode cL_law 398 = .ok (.iload 4, 2) := by decide +kernel
theorem dL_law_400 : decode cL_law 400 = .ok (.iconst 1, 1) := by decide +kernel
theorem dL_law_401 : decode cL_law 401 = .ok (.iadd, 1) := by decide +kernel
theorem dL_law_402 : decode cL_law 402 = .ok (.iaload, 1) := by decide +kernel
theorem dL_law_403 : decode cL_law 403 = .ok (.aload_n 0, 1) := by decide +kernel
theorem dL_law_404 : decode cL_law 404 = .ok (.iload 4, 2) := by decide +kernel
theorem dL_law_406 : decode cL_law 406 = .ok (.iconst 2, 1) := by decide +kernel
theorem dL_law_407 : decode cL_law 407 = .ok (.iadd, 1) := by decide +kernel
theorem dL_law_408 : decode cL_law 408 = .ok (.iaload, 1) := by decide +kernel
theorem dL_law_409 : decode cL_law 409 = .ok (.i2l, 1) := by decide +kernel
theorem dL_law_410 : decode cL_law 410 = .ok (.bipush 32, 2) := by decide +kernel
theorem dL_law_412 : decode cL_law 412 = .ok (.lshl, 1) := by decide +kernel
theorem dL_law_413 : decode cL_law 413 = .ok (.aload_n 0, 1) := by decide +kernel
theorem dL_law_414 : decode cL_law 414 = .ok (.iload 4, 2) := by decide +kernel
theorem dL_law_416 : decode cL_law 416 = .ok (.iconst 3, 1) := by decide +kernel
theorem dL_law_417 : decode cL_law 417 = .ok (.iadd, 1) := by decide +kernel
theorem dL_law_418 : decode cL_law 418 = .ok (.iaload, 1) := by decide +kernel
theorem dL_law_419 : decode cL_law 419 = .ok (.i2l, 1) := by decide +kernel
theorem dL_law_420 : decode cL_law 420 = .ok (.ldc2_w 31, 3) := by decide +kernel
theorem dL_law_423 : decode cL_law 423 = .ok (.land, 1) := by decide +kernel
theorem dL_law_424 : decode cL_law 424 = .ok (.lor, 1) := by decide +kernel
theorem dL_law_425 : decode cL_law 425 = .ok (.invokevirtual 48, 3) := by decide +kernel
theorem dL_law_428 : decode cL_law 428 = .ok (.aload_n 2, 1) := by decide +kernel
theorem dL_law_429 : decode cL_law 429 = .ok (.aload_n 0, 1) := by decide +kernel
theorem dL_law_430 : decode cL_law 430 = .ok (.iload 4, 2) := by decide +kernel
theorem dL_law_432 : decode cL_law 432 = .ok (.iconst 1, 1) := by decide +kernel
theorem dL_law_433 : decode cL_law 433 = .ok (.iadd, 1) := by decide +kernel
theorem dL_law_434 : decode cL_law 434 = .ok (.iaload, 1) := by decide +kernel
theorem dL_law_435 : decode cL_law 435 = .ok (.aload_n 0, 1) := by decide +kernel
theorem dL_law_436 : decode cL_law 436 = .ok (.iload 4, 2) := by decide +kernel
theorem dL_law_438 : decode cL_law 438 = .ok (.iconst 2, 1) := by decide +kernel
theorem dL_law_439 : decode cL_law 439 = .ok (.iadd, 1) := by decide +kernel
theorem dL_law_440 : decode cL_law 440 = .ok (.iaload, 1) := by decide +kernel
theorem dL_law_441 : decode cL_law 441 = .ok (.i2l, 1) := by decide +kernel
theorem dL_law_442 : decode cL_law 442 = .ok (.bipush 32, 2) := by decide +kernel
theorem dL_law_444 : decode cL_law 444 = .ok (.lshl, 1) := by decide +kernel
theorem dL_law_445 : decode cL_law 445 = .ok (.aload_n 0, 1) := by decide +kernel
theorem dL_law_446 : decode cL_law 446 = .ok (.iload 4, 2) := by decide +kernel
theorem dL_law_448 : decode cL_law 448 = .ok (.iconst 3, 1) := by decide +kernel
theorem dL_law_449 : decode cL_law 449 = .ok (.iadd, 1) := by decide +kernel
theorem dL_law_450 : decode cL_law 450 = .ok (.iaload, 1) := by decide +kernel
theorem dL_law_451 : decode cL_law 451 = .ok (.i2l, 1) := by decide +kernel
theorem dL_law_452 : decode cL_law 452 = .ok (.ldc2_w 31, 3) := by decide +kernel
theorem dL_law_455 : decode cL_law 455 = .ok (.land, 1) := by decide +kernel
theorem dL_law_456 : decode cL_law 456 = .ok (.lor, 1) := by decide +kernel
theorem dL_law_457 : decode cL_law 457 = .ok (.invokevirtual 52, 3) := by decide +kernel
theorem dL_law_460 : decode cL_law 460 = .ok (.if_icmp .eq 883, 3) := by decide +kernel
theorem dL_law_463 : decode cL_law 463 = .ok (.iconst 0, 1) := by decide +kernel
theorem dL_law_464 : decode cL_law 464 = .ok (.ireturn, 1) := by decide +kernel
theorem dL_law_465 : decode cL_law 465 = .ok (.aload_n 1, 1) := by decide +kernel
theorem dL_law_466 : decode cL_law 466 = .ok (.aload_n 0, 1) := by decide +kernel
theorem dL_law_467 : decode cL_law 467 = .ok (.iload 4, 2) := by decide +kernel
theorem dL_law_469 : decode cL_law 469 = .ok (.iconst 1, 1) := by decide +kernel
theorem dL_law_470 : decode cL_law 470 = .ok (.iadd, 1) := by decide +kernel
theorem dL_law_471 : decode cL_law 471 = .ok (.iaload, 1) := by decide +kernel
theorem dL_law_472 : decode cL_law 472 = .ok (.invokevirtual 53, 3) := by decide +kernel
theorem dL_law_475 : decode cL_law 475 = .ok (.aload_n 2, 1) := by decide +kernel
theorem dL_law_476 : decode cL_law 476 = .ok (.aload_n 0, 1) := by decide +kernel
theorem dL_law_477 : decode cL_law 477 = .ok (.iload 4, 2) := by decide +kernel
theorem dL_law_479 : decode cL_law 479 = .ok (.iconst 1, 1) := by decide +kernel
theorem dL_law_480 : decode cL_law 480 = .ok (.iadd, 1) := by decide +kernel
theorem dL_law_481 : decode cL_law 481 = .ok (.iaload, 1) := by decide +kernel
theorem dL_law_482 : decode cL_law 482 = .ok (.invokevirtual 57, 3) := by decide +kernel
theorem dL_law_485 : decode cL_law 485 = .ok (.if_icmp .eq 858, 3) := by decide +kernel
theorem dL_law_488 : decode cL_law 488 = .ok (.iconst 0, 1) := by decide +kernel
theorem dL_law_489 : decode cL_law 489 = .ok (.ireturn, 1) := by decide +kernel
theorem dL_law_490 : decode cL_law 490 = .ok (.aload_n 1, 1) := by decide +kernel
theorem dL_law_491 : decode cL_law 491 = .ok (.aload_n 0, 1) := by decide +kernel
theorem dL_law_492 : decode cL_law 492 = .ok (.iload 4, 2) := by decide +kernel
theorem dL_law_494 : decode cL_law 494 = .ok (.iconst 1, 1) := by decide +kernel
theorem dL_law_495 : decode cL_law 495 = .ok (.iadd, 1) := by decide +kernel
theorem dL_law_496 : decode cL_law 496 = .ok (.iaload, 1) := by decide +kernel
theorem dL_law_497 : decode cL_law 497 = .ok (.i2l, 1) := by decide +kernel
theorem dL_law_498 : decode cL_law 498 = .ok (.bipush 32, 2) := by decide +kernel
theorem dL_law_500 : decode cL_law 500 = .ok (.lshl, 1) := by decide +kernel
theorem dL_law_501 : decode cL_law 501 = .ok (.aload_n 0, 1) := by decide +kernel
theorem dL_law_502 : decode cL_law 502 = .ok (.iload 4, 2) := by decide +kernel
theorem dL_law_504 : decode cL_law 504 = .ok (.iconst 2, 1) := by decide +kernel
theorem dL_law_505 : decode cL_law 505 = .ok (.iadd, 1) := by decide +kernel
theorem dL_law_506 : decode cL_law 506 = .ok (.iaload, 1) := by decide +kernel
theorem dL_law_507 : decode cL_law 507 = .ok (.i2l, 1) := by decide +kernel
theorem dL_law_508 : decode cL_law 508 = .ok (.ldc2_w 31, 3) := by decide +kernel
theorem dL_law_511 : decode cL_law 511 = .ok (.land, 1) := by decide +kernel
theorem dL_law_512 : decode cL_law 512 = .ok (.lor, 1) := by decide +kernel
theorem dL_law_513 : decode cL_law 513 = .ok (.aload_n 0, 1) := by decide +kernel
theorem dL_law_514 : decode cL_law 514 = .ok (.iload 4, 2) := by decide +kernel
theorem dL_law_516 : decode cL_law 516 = .ok (.iconst 3, 1) := by decide +kernel
theorem dL_law_517 : decode cL_law 517 = .ok (.iadd, 1) := by decide +kernel
theorem dL_law_518 : decode cL_law 518 = .ok (.iaload, 1) := by decide +kernel
theorem dL_law_519 : decode cL_law 519 = .ok (.i2l, 1) := by decide +kernel
theorem dL_law_520 : decode cL_law 520 = .ok (.bipush 32, 2) := by decide +kernel
theorem dL_law_522 : decode cL_law 522 = .ok (.lshl, 1) := by decide +kernel
theorem dL_law_523 : decode cL_law 523 = .ok (.aload_n 0, 1) := by decide +kernel
theorem dL_law_524 : decode cL_law 524 = .ok (.iload 4, 2) := by decide +kernel
theorem dL_law_526 : decode cL_law 526 = .ok (.iconst 4, 1) := by decide +kernel
theorem dL_law_527 : decode cL_law 527 = .ok (.iadd, 1) := by decide +kernel
theorem dL_law_528 : decode cL_law 528 = .ok (.iaload, 1) := by decide +kernel
theorem dL_law_529 : decode cL_law 529 = .ok (.i2l, 1) := by decide +kernel
theorem dL_law_530 : decode cL_law 530 = .ok (.ldc2_w 31, 3) := by decide +kernel
theorem dL_law_533 : decode cL_law 533 = .ok (.land, 1) := by decide +kernel
theorem dL_law_534 : decode cL_law 534 = .ok (.lor, 1) := by decide +kernel
theorem dL_law_535 : decode cL_law 535 = .ok (.aload_n 0, 1) := by decide +kernel
theorem dL_law_536 : decode cL_law 536 = .ok (.iload 4, 2) := by decide +kernel
theorem dL_law_538 : decode cL_law 538 = .ok (.iconst 5, 1) := by decide +kernel
theorem dL_law_539 : decode cL_law 539 = .ok (.iadd, 1) := by decide +kernel
theorem dL_law_540 : decode cL_law 540 = .ok (.iaload, 1) := by decide +kernel
theorem dL_law_541 : decode cL_law 541 = .ok (.i2l, 1) := by decide +kernel
theorem dL_law_542 : decode cL_law 542 = .ok (.bipush 32, 2) := by decide +kernel
theorem dL_law_544 : decode cL_law 544 = .ok (.lshl, 1) := by decide +kernel
theorem dL_law_545 : decode cL_law 545 = .ok (.aload_n 0, 1) := by decide +kernel
theorem dL_law_546 : decode cL_law 546 = .ok (.iload 4, 2) := by decide +kernel
theorem dL_law_548 : decode cL_law 548 = .ok (.bipush 6, 2) := by decide +kernel
theorem dL_law_550 : decode cL_law 550 = .ok (.iadd, 1) := by decide +kernel
theorem dL_law_551 : decode cL_law 551 = .ok (.iaload, 1) := by decide +kernel
theorem dL_law_552 : decode cL_law 552 = .ok (.i2l, 1) := by decide +kernel
theorem dL_law_553 : decode cL_law 553 = .ok (.ldc2_w 31, 3) := by decide +kernel
theorem dL_law_556 : decode cL_law 556 = .ok (.land, 1) := by decide +kernel
theorem dL_law_557 : decode cL_law 557 = .ok (.lor, 1) := by decide +kernel
theorem dL_law_558 : decode cL_law 558 = .ok (.invokevirtual 58, 3) := by decide +kernel
theorem dL_law_561 : decode cL_law 561 = .ok (.aload_n 2, 1) := by decide +kernel
theorem dL_law_562 : decode cL_law 562 = .ok (.aload_n 0, 1) := by decide +kernel
theorem dL_law_563 : decode cL_law 563 = .ok (.iload 4, 2) := by decide +kernel
theorem dL_law_565 : decode cL_law 565 = .ok (.iconst 1, 1) := by decide +kernel
theorem dL_law_566 : decode cL_law 566 = .ok (.iadd, 1) := by decide +kernel
theorem dL_law_567 : decode cL_law 567 = .ok (.iaload, 1) := by decide +kernel
theorem dL_law_568 : decode cL_law 568 = .ok (.i2l, 1) := by decide +kernel
theorem dL_law_569 : decode cL_law 569 = .ok (.bipush 32, 2) := by decide +kernel
theorem dL_law_571 : decode cL_law 571 = .ok (.lshl, 1) := by decide +kernel
theorem dL_law_572 : decode cL_law 572 = .ok (.aload_n 0, 1) := by decide +kernel
theorem dL_law_573 : decode cL_law 573 = .ok (.iload 4, 2) := by decide +kernel
theorem dL_law_575 : decode cL_law 575 = .ok (.iconst 2, 1) := by decide +kernel
theorem dL_law_576 : decode cL_law 576 = .ok (.iadd, 1) := by decide +kernel
theorem dL_law_577 : decode cL_law 577 = .ok (.iaload, 1) := by decide +kernel
theorem dL_law_578 : decode cL_law 578 = .ok (.i2l, 1) := by decide +kernel
theorem dL_law_579 : decode cL_law 579 = .ok (.ldc2_w 31, 3) := by decide +kernel
theorem dL_law_582 : decode cL_law 582 = .ok (.land, 1) := by decide +kernel
theorem dL_law_583 : decode cL_law 583 = .ok (.lor, 1) := by decide +kernel
theorem dL_law_584 : decode cL_law 584 = .ok (.aload_n 0, 1) := by decide +kernel
theorem dL_law_585 : decode cL_law 585 = .ok (.iload 4, 2) := by decide +kernel
theorem dL_law_587 : decode cL_law 587 = .ok (.iconst 3, 1) := by decide +kernel
theorem dL_law_588 : decode cL_law 588 = .ok (.iadd, 1) := by decide +kernel
theorem dL_law_589 : decode cL_law 589 = .ok (.iaload, 1) := by decide +kernel
theorem dL_law_590 : decode cL_law 590 = .ok (.i2l, 1) := by decide +kernel
theorem dL_law_591 : decode cL_law 591 = .ok (.bipush 32, 2) := by decide +kernel
theorem dL_law_593 : decode cL_law 593 = .ok (.lshl, 1) := by decide +kernel
theorem dL_law_594 : decode cL_law 594 = .ok (.aload_n 0, 1) := by decide +kernel
theorem dL_law_595 : decode cL_law 595 = .ok (.iload 4, 2) := by decide +kernel
theorem dL_law_597 : decode cL_law 597 = .ok (.iconst 4, 1) := by decide +kernel
theorem dL_law_598 : decode cL_law 598 = .ok (.iadd, 1) := by decide +kernel
theorem dL_law_599 : decode cL_law 599 = .ok (.iaload, 1) := by decide +kernel
theorem dL_law_600 : decode cL_law 600 = .ok (.i2l, 1) := by decide +kernel
theorem dL_law_601 : decode cL_law 601 = .ok (.ldc2_w 31, 3) := by decide +kernel
theorem dL_law_604 : decode cL_law 604 = .ok (.land, 1) := by decide +kernel
theorem dL_law_605 : decode cL_law 605 = .ok (.lor, 1) := by decide +kernel
theorem dL_law_606 : decode cL_law 606 = .ok (.aload_n 0, 1) := by decide +kernel
theorem dL_law_607 : decode cL_law 607 = .ok (.iload 4, 2) := by decide +kernel
theorem dL_law_609 : decode cL_law 609 = .ok (.iconst 5, 1) := by decide +kernel
theorem dL_law_610 : decode cL_law 610 = .ok (.iadd, 1) := by decide +kernel
theorem dL_law_611 : decode cL_law 611 = .ok (.iaload, 1) := by decide +kernel
theorem dL_law_612 : decode cL_law 612 = .ok (.i2l, 1) := by decide +kernel
theorem dL_law_613 : decode cL_law 613 = .ok (.bipush 32, 2) := by decide +kernel
theorem dL_law_615 : decode cL_law 615 = .ok (.lshl, 1) := by decide +kernel
theorem dL_law_616 : decode cL_law 616 = .ok (.aload_n 0, 1) := by decide +kernel
theorem dL_law_617 : decode cL_law 617 = .ok (.iload 4, 2) := by decide +kernel
theorem dL_law_619 : decode cL_law 619 = .ok (.bipush 6, 2) := by decide +kernel
theorem dL_law_621 : decode cL_law 621 = .ok (.iadd, 1) := by decide +kernel
theorem dL_law_622 : decode cL_law 622 = .ok (.iaload, 1) := by decide +kernel
theorem dL_law_623 : decode cL_law 623 = .ok (.i2l, 1) := by decide +kernel
theorem dL_law_624 : decode cL_law 624 = .ok (.ldc2_w 31, 3) := by decide +kernel
theorem dL_law_627 : decode cL_law 627 = .ok (.land, 1) := by decide +kernel
theorem dL_law_628 : decode cL_law 628 = .ok (.lor, 1) := by decide +kernel
theorem dL_law_629 : decode cL_law 629 = .ok (.invokevirtual 62, 3) := by decide +kernel
theorem dL_law_632 : decode cL_law 632 = .ok (.if_icmp .eq 711, 3) := by decide +kernel
theorem dL_law_635 : decode cL_law 635 = .ok (.iconst 0, 1) := by decide +kernel
theorem dL_law_636 : decode cL_law 636 = .ok (.ireturn, 1) := by decide +kernel
theorem dL_law_637 : decode cL_law 637 = .ok (.aload_n 1, 1) := by decide +kernel
theorem dL_law_638 : decode cL_law 638 = .ok (.invokevirtual 63, 3) := by decide +kernel
theorem dL_law_641 : decode cL_law 641 = .ok (.aload_n 2, 1) := by decide +kernel
theorem dL_law_642 : decode cL_law 642 = .ok (.invokevirtual 67, 3) := by decide +kernel
theorem dL_law_645 : decode cL_law 645 = .ok (.if_icmp .eq 698, 3) := by decide +kernel
theorem dL_law_648 : decode cL_law 648 = .ok (.iconst 0, 1) := by decide +kernel
theorem dL_law_649 : decode cL_law 649 = .ok (.ireturn, 1) := by decide +kernel
theorem dL_law_650 : decode cL_law 650 = .ok (.aload_n 1, 1) := by decide +kernel
theorem dL_law_651 : decode cL_law 651 = .ok (.aload_n 0, 1) := by decide +kernel
theorem dL_law_652 : decode cL_law 652 = .ok (.iload 4, 2) := by decide +kernel
theorem dL_law_654 : decode cL_law 654 = .ok (.iconst 1, 1) := by decide +kernel
theorem dL_law_655 : decode cL_law 655 = .ok (.iadd, 1) := by decide +kernel
theorem dL_law_656 : decode cL_law 656 = .ok (.iaload, 1) := by decide +kernel
theorem dL_law_657 : decode cL_law 657 = .ok (.aload_n 0, 1) := by decide +kernel
theorem dL_law_658 : decode cL_law 658 = .ok (.iload 4, 2) := by decide +kernel
theorem dL_law_660 : decode cL_law 660 = .ok (.iconst 2, 1) := by decide +kernel
theorem dL_law_661 : decode cL_law 661 = .ok (.iadd, 1) := by decide +kernel
theorem dL_law_662 : decode cL_law 662 = .ok (.iaload, 1) := by decide +kernel
theorem dL_law_663 : decode cL_law 663 = .ok (.i2l, 1) := by decide +kernel
theorem dL_law_664 : decode cL_law 664 = .ok (.bipush 32, 2) := by decide +kernel
theorem dL_law_666 : decode cL_law 666 = .ok (.lshl, 1) := by decide +kernel
theorem dL_law_667 : decode cL_law 667 = .ok (.aload_n 0, 1) := by decide +kernel
theorem dL_law_668 : decode cL_law 668 = .ok (.iload 4, 2) := by decide +kernel
theorem dL_law_670 : decode cL_law 670 = .ok (.iconst 3, 1) := by decide +kernel
theorem dL_law_671 : decode cL_law 671 = .ok (.iadd, 1) := by decide +kernel
theorem dL_law_672 : decode cL_law 672 = .ok (.iaload, 1) := by decide +kernel
theorem dL_law_673 : decode cL_law 673 = .ok (.i2l, 1) := by decide +kernel
theorem dL_law_674 : decode cL_law 674 = .ok (.ldc2_w 31, 3) := by decide +kernel
theorem dL_law_677 : decode cL_law 677 = .ok (.land, 1) := by decide +kernel
theorem dL_law_678 : decode cL_law 678 = .ok (.lor, 1) := by decide +kernel
theorem dL_law_679 : decode cL_law 679 = .ok (.invokevirtual 68, 3) := by decide +kernel
theorem dL_law_682 : decode cL_law 682 = .ok (.aload_n 2, 1) := by decide +kernel
theorem dL_law_683 : decode cL_law 683 = .ok (.aload_n 0, 1) := by decide +kernel
theorem dL_law_684 : decode cL_law 684 = .ok (.iload 4, 2) := by decide +kernel
theorem dL_law_686 : decode cL_law 686 = .ok (.iconst 1, 1) := by decide +kernel
theorem dL_law_687 : decode cL_law 687 = .ok (.iadd, 1) := by decide +kernel
theorem dL_law_688 : decode cL_law 688 = .ok (.iaload, 1) := by decide +kernel
theorem dL_law_689 : decode cL_law 689 = .ok (.aload_n 0, 1) := by decide +kernel
theorem dL_law_690 : decode cL_law 690 = .ok (.iload 4, 2) := by decide +kernel
theorem dL_law_692 : decode cL_law 692 = .ok (.iconst 2, 1) := by decide +kernel
theorem dL_law_693 : decode cL_law 693 = .ok (.iadd, 1) := by decide +kernel
theorem dL_law_694 : decode cL_law 694 = .ok (.iaload, 1) := by decide +kernel
theorem dL_law_695 : decode cL_law 695 = .ok (.i2l, 1) := by decide +kernel
theorem dL_law_696 : decode cL_law 696 = .ok (.bipush 32, 2) := by decide +kernel
theorem dL_law_698 : decode cL_law 698 = .ok (.lshl, 1) := by decide +kernel
theorem dL_law_699 : decode cL_law 699 = .ok (.aload_n 0, 1) := by decide +kernel
theorem dL_law_700 : decode cL_law 700 = .ok (.iload 4, 2) := by decide +kernel
theorem dL_law_702 : decode cL_law 702 = .ok (.iconst 3, 1) := by decide +kernel
theorem dL_law_703 : decode cL_law 703 = .ok (.iadd, 1) := by decide +kernel
theorem dL_law_704 : decode cL_law 704 = .ok (.iaload, 1) := by decide +kernel
theorem dL_law_705 : decode cL_law 705 = .ok (.i2l, 1) := by decide +kernel
theorem dL_law_706 : decode cL_law 706 = .ok (.ldc2_w 31, 3) := by decide +kernel
theorem dL_law_709 : decode cL_law 709 = .ok (.land, 1) := by decide +kernel
theorem dL_law_710 : decode cL_law 710 = .ok (.lor, 1) := by decide +kernel
theorem dL_law_711 : decode cL_law 711 = .ok (.invokevirtual 71, 3) := by decide +kernel
theorem dL_law_714 : decode cL_law 714 = .ok (.if_icmp .eq 629, 3) := by decide +kernel
theorem dL_law_717 : decode cL_law 717 = .ok (.iconst 0, 1) := by decide +kernel
theorem dL_law_718 : decode cL_law 718 = .ok (.ireturn, 1) := by decide +kernel
theorem dL_law_719 : decode cL_law 719 = .ok (.aload_n 1, 1) := by decide +kernel
theorem dL_law_720 : decode cL_law 720 = .ok (.aload_n 0, 1) := by decide +kernel
theorem dL_law_721 : decode cL_law 721 = .ok (.iload 4, 2) := by decide +kernel
theorem dL_law_723 : decode cL_law 723 = .ok (.iconst 1, 1) := by decide +kernel
theorem dL_law_724 : decode cL_law 724 = .ok (.iadd, 1) := by decide +kernel
theorem dL_law_725 : decode cL_law 725 = .ok (.iaload, 1) := by decide +kernel
theorem dL_law_726 : decode cL_law 726 = .ok (.aload_n 0, 1) := by decide +kernel
theorem dL_law_727 : decode cL_law 727 = .ok (.iload 4, 2) := by decide +kernel
theorem dL_law_729 : decode cL_law 729 = .ok (.iconst 2, 1) := by decide +kernel
theorem dL_law_730 : decode cL_law 730 = .ok (.iadd, 1) := by decide +kernel
theorem dL_law_731 : decode cL_law 731 = .ok (.iaload, 1) := by decide +kernel
theorem dL_law_732 : decode cL_law 732 = .ok (.aload_n 0, 1) := by decide +kernel
theorem dL_law_733 : decode cL_law 733 = .ok (.iload 4, 2) := by decide +kernel
theorem dL_law_735 : decode cL_law 735 = .ok (.iconst 3, 1) := by decide +kernel
theorem dL_law_736 : decode cL_law 736 = .ok (.iadd, 1) := by decide +kernel
theorem dL_law_737 : decode cL_law 737 = .ok (.iaload, 1) := by decide +kernel
theorem dL_law_738 : decode cL_law 738 = .ok (.aload_n 0, 1) := by decide +kernel
theorem dL_law_739 : decode cL_law 739 = .ok (.iload 4, 2) := by decide +kernel
theorem dL_law_741 : decode cL_law 741 = .ok (.iconst 4, 1) := by decide +kernel
theorem dL_law_742 : decode cL_law 742 = .ok (.iadd, 1) := by decide +kernel
theorem dL_law_743 : decode cL_law 743 = .ok (.iaload, 1) := by decide +kernel
theorem dL_law_744 : decode cL_law 744 = .ok (.aload_n 0, 1) := by decide +kernel
theorem dL_law_745 : decode cL_law 745 = .ok (.iload 4, 2) := by decide +kernel
theorem dL_law_747 : decode cL_law 747 = .ok (.iconst 5, 1) := by decide +kernel
theorem dL_law_748 : decode cL_law 748 = .ok (.iadd, 1) := by decide +kernel
theorem dL_law_749 : decode cL_law 749 = .ok (.iaload, 1) := by decide +kernel
theorem dL_law_750 : decode cL_law 750 = .ok (.aload_n 0, 1) := by decide +kernel
theorem dL_law_751 : decode cL_law 751 = .ok (.iload 4, 2) := by decide +kernel
theorem dL_law_753 : decode cL_law 753 = .ok (.bipush 6, 2) := by decide +kernel
theorem dL_law_755 : decode cL_law 755 = .ok (.iadd, 1) := by decide +kernel
theorem dL_law_756 : decode cL_law 756 = .ok (.iaload, 1) := by decide +kernel
theorem dL_law_757 : decode cL_law 757 = .ok (.i2l, 1) := by decide +kernel
theorem dL_law_758 : decode cL_law 758 = .ok (.bipush 32, 2) := by decide +kernel
theorem dL_law_760 : decode cL_law 760 = .ok (.lshl, 1) := by decide +kernel
theorem dL_law_761 : decode cL_law 761 = .ok (.aload_n 0, 1) := by decide +kernel
theorem dL_law_762 : decode cL_law 762 = .ok (.iload 4, 2) := by decide +kernel
theorem dL_law_764 : decode cL_law 764 = .ok (.bipush 7, 2) := by decide +kernel
theorem dL_law_766 : decode cL_law 766 = .ok (.iadd, 1) := by decide +kernel
theorem dL_law_767 : decode cL_law 767 = .ok (.iaload, 1) := by decide +kernel
theorem dL_law_768 : decode cL_law 768 = .ok (.i2l, 1) := by decide +kernel
theorem dL_law_769 : decode cL_law 769 = .ok (.ldc2_w 31, 3) := by decide +kernel
theorem dL_law_772 : decode cL_law 772 = .ok (.land, 1) := by decide +kernel
theorem dL_law_773 : decode cL_law 773 = .ok (.lor, 1) := by decide +kernel
theorem dL_law_774 : decode cL_law 774 = .ok (.invokevirtual 72, 3) := by decide +kernel
theorem dL_law_777 : decode cL_law 777 = .ok (.aload_n 2, 1) := by decide +kernel
theorem dL_law_778 : decode cL_law 778 = .ok (.aload_n 0, 1) := by decide +kernel
theorem dL_law_779 : decode cL_law 779 = .ok (.iload 4, 2) := by decide +kernel
theorem dL_law_781 : decode cL_law 781 = .ok (.iconst 1, 1) := by decide +kernel
theorem dL_law_782 : decode cL_law 782 = .ok (.iadd, 1) := by decide +kernel
theorem dL_law_783 : decode cL_law 783 = .ok (.iaload, 1) := by decide +kernel
theorem dL_law_784 : decode cL_law 784 = .ok (.aload_n 0, 1) := by decide +kernel
theorem dL_law_785 : decode cL_law 785 = .ok (.iload 4, 2) := by decide +kernel
theorem dL_law_787 : decode cL_law 787 = .ok (.iconst 2, 1) := by decide +kernel
theorem dL_law_788 : decode cL_law 788 = .ok (.iadd, 1) := by decide +kernel
theorem dL_law_789 : decode cL_law 789 = .ok (.iaload, 1) := by decide +kernel
theorem dL_law_790 : decode cL_law 790 = .ok (.aload_n 0, 1) := by decide +kernel
theorem dL_law_791 : decode cL_law 791 = .ok (.iload 4, 2) := by decide +kernel
theorem dL_law_793 : decode cL_law 793 = .ok (.iconst 3, 1) := by decide +kernel
theorem dL_law_794 : decode cL_law 794 = .ok (.iadd, 1) := by decide +kernel
theorem dL_law_795 : decode cL_law 795 = .ok (.iaload, 1) := by decide +kernel
theorem dL_law_796 : decode cL_law 796 = .ok (.aload_n 0, 1) := by decide +kernel
theorem dL_law_797 : decode cL_law 797 = .ok (.iload 4, 2) := by decide +kernel
theorem dL_law_799 : decode cL_law 799 = .ok (.iconst 4, 1) := by decide +kernel
theorem dL_law_800 : decode cL_law 800 = .ok (.iadd, 1) := by decide +kernel
theorem dL_law_801 : decode cL_law 801 = .ok (.iaload, 1) := by decide +kernel
theorem dL_law_802 : decode cL_law 802 = .ok (.aload_n 0, 1) := by decide +kernel
theorem dL_law_803 : decode cL_law 803 = .ok (.iload 4, 2) := by decide +kernel
theorem dL_law_805 : decode cL_law 805 = .ok (.iconst 5, 1) := by decide +kernel
theorem dL_law_806 : decode cL_law 806 = .ok (.iadd, 1) := by decide +kernel
theorem dL_law_807 : decode cL_law 807 = .ok (.iaload, 1) := by decide +kernel
theorem dL_law_808 : decode cL_law 808 = .ok (.aload_n 0, 1) := by decide +kernel
theorem dL_law_809 : decode cL_law 809 = .ok (.iload 4, 2) := by decide +kernel
theorem dL_law_811 : decode cL_law 811 = .ok (.bipush 6, 2) := by decide +kernel
theorem dL_law_813 : decode cL_law 813 = .ok (.iadd, 1) := by decide +kernel
theorem dL_law_814 : decode cL_law 814 = .ok (.iaload, 1) := by decide +kernel
theorem dL_law_815 : decode cL_law 815 = .ok (.i2l, 1) := by decide +kernel
theorem dL_law_816 : decode cL_law 816 = .ok (.bipush 32, 2) := by decide +kernel
theorem dL_law_818 : decode cL_law 818 = .ok (.lshl, 1) := by decide +kernel
theorem dL_law_819 : decode cL_law 819 = .ok (.aload_n 0, 1) := by decide +kernel
theorem dL_law_820 : decode cL_law 820 = .ok (.iload 4, 2) := by decide +kernel
theorem dL_law_822 : decode cL_law 822 = .ok (.bipush 7, 2) := by decide +kernel
theorem dL_law_824 : decode cL_law 824 = .ok (.iadd, 1) := by decide +kernel
theorem dL_law_825 : decode cL_law 825 = .ok (.iaload, 1) := by decide +kernel
theorem dL_law_826 : decode cL_law 826 = .ok (.i2l, 1) := by decide +kernel
theorem dL_law_827 : decode cL_law 827 = .ok (.ldc2_w 31, 3) := by decide +kernel
theorem dL_law_830 : decode cL_law 830 = .ok (.land, 1) := by decide +kernel
theorem dL_law_831 : decode cL_law 831 = .ok (.lor, 1) := by decide +kernel
theorem dL_law_832 : decode cL_law 832 = .ok (.invokevirtual 76, 3) := by decide +kernel
theorem dL_law_835 : decode cL_law 835 = .ok (.if_icmp .eq 508, 3) := by decide +kernel
theorem dL_law_838 : decode cL_law 838 = .ok (.iconst 0, 1) := by decide +kernel
theorem dL_law_839 : decode cL_law 839 = .ok (.ireturn, 1) := by decide +kernel
theorem dL_law_840 : decode cL_law 840 = .ok (.aload_n 1, 1) := by decide +kernel
theorem dL_law_841 : decode cL_law 841 = .ok (.aload_n 0, 1) := by decide +kernel
theorem dL_law_842 : decode cL_law 842 = .ok (.iload 4, 2) := by decide +kernel
theorem dL_law_844 : decode cL_law 844 = .ok (.iconst 1, 1) := by decide +kernel
theorem dL_law_845 : decode cL_law 845 = .ok (.iadd, 1) := by decide +kernel
theorem dL_law_846 : decode cL_law 846 = .ok (.iaload, 1) := by decide +kernel
theorem dL_law_847 : decode cL_law 847 = .ok (.invokevirtual 77, 3) := by decide +kernel
theorem dL_law_850 : decode cL_law 850 = .ok (.aload_n 2, 1) := by decide +kernel
theorem dL_law_851 : decode cL_law 851 = .ok (.aload_n 0, 1) := by decide +kernel
theorem dL_law_852 : decode cL_law 852 = .ok (.iload 4, 2) := by decide +kernel
theorem dL_law_854 : decode cL_law 854 = .ok (.iconst 1, 1) := by decide +kernel
theorem dL_law_855 : decode cL_law 855 = .ok (.iadd, 1) := by decide +kernel
theorem dL_law_856 : decode cL_law 856 = .ok (.iaload, 1) := by decide +kernel
theorem dL_law_857 : decode cL_law 857 = .ok (.invokevirtual 80, 3) := by decide +kernel
theorem dL_law_860 : decode cL_law 860 = .ok (.if_icmp .eq 483, 3) := by decide +kernel
theorem dL_law_863 : decode cL_law 863 = .ok (.iconst 0, 1) := by decide +kernel
theorem dL_law_864 : decode cL_law 864 = .ok (.ireturn, 1) := by decide +kernel
theorem dL_law_865 : decode cL_law 865 = .ok (.aload_n 1, 1) := by decide +kernel
theorem dL_law_866 : decode cL_law 866 = .ok (.invokevirtual 81, 3) := by decide +kernel
theorem dL_law_869 : decode cL_law 869 = .ok (.aload_n 2, 1) := by decide +kernel
theorem dL_law_870 : decode cL_law 870 = .ok (.invokevirtual 85, 3) := by decide +kernel
theorem dL_law_873 : decode cL_law 873 = .ok (.lcmp, 1) := by decide +kernel
theorem dL_law_874 : decode cL_law 874 = .ok (.ifCond .eq 469, 3) := by decide +kernel
theorem dL_law_877 : decode cL_law 877 = .ok (.iconst 0, 1) := by decide +kernel
theorem dL_law_878 : decode cL_law 878 = .ok (.ireturn, 1) := by decide +kernel
theorem dL_law_879 : decode cL_law 879 = .ok (.aload_n 1, 1) := by decide +kernel
theorem dL_law_880 : decode cL_law 880 = .ok (.aload_n 0, 1) := by decide +kernel
theorem dL_law_881 : decode cL_law 881 = .ok (.iload 4, 2) := by decide +kernel
theorem dL_law_883 : decode cL_law 883 = .ok (.iconst 1, 1) := by decide +kernel
theorem dL_law_884 : decode cL_law 884 = .ok (.iadd, 1) := by decide +kernel
theorem dL_law_885 : decode cL_law 885 = .ok (.iaload, 1) := by decide +kernel
theorem dL_law_886 : decode cL_law 886 = .ok (.i2l, 1) := by decide +kernel
theorem dL_law_887 : decode cL_law 887 = .ok (.bipush 32, 2) := by decide +kernel
theorem dL_law_889 : decode cL_law 889 = .ok (.lshl, 1) := by decide +kernel
theorem dL_law_890 : decode cL_law 890 = .ok (.aload_n 0, 1) := by decide +kernel
theorem dL_law_891 : decode cL_law 891 = .ok (.iload 4, 2) := by decide +kernel
theorem dL_law_893 : decode cL_law 893 = .ok (.iconst 2, 1) := by decide +kernel
theorem dL_law_894 : decode cL_law 894 = .ok (.iadd, 1) := by decide +kernel
theorem dL_law_895 : decode cL_law 895 = .ok (.iaload, 1) := by decide +kernel
theorem dL_law_896 : decode cL_law 896 = .ok (.i2l, 1) := by decide +kernel
theorem dL_law_897 : decode cL_law 897 = .ok (.ldc2_w 31, 3) := by decide +kernel
theorem dL_law_900 : decode cL_law 900 = .ok (.land, 1) := by decide +kernel
theorem dL_law_901 : decode cL_law 901 = .ok (.lor, 1) := by decide +kernel
theorem dL_law_902 : decode cL_law 902 = .ok (.aload_n 3, 1) := by decide +kernel
theorem dL_law_903 : decode cL_law 903 = .ok (.invokestatic 86, 3) := by decide +kernel
theorem dL_law_906 : decode cL_law 906 = .ok (.istore 5, 2) := by decide +kernel
theorem dL_law_908 : decode cL_law 908 = .ok (.aload_n 2, 1) := by decide +kernel
theorem dL_law_909 : decode cL_law 909 = .ok (.aload_n 0, 1) := by decide +kernel
theorem dL_law_910 : decode cL_law 910 = .ok (.iload 4, 2) := by decide +kernel
theorem dL_law_912 : decode cL_law 912 = .ok (.iconst 1, 1) := by decide +kernel
theorem dL_law_913 : decode cL_law 913 = .ok (.iadd, 1) := by decide +kernel
theorem dL_law_914 : decode cL_law 914 = .ok (.iaload, 1) := by decide +kernel
theorem dL_law_915 : decode cL_law 915 = .ok (.i2l, 1) := by decide +kernel
theorem dL_law_916 : decode cL_law 916 = .ok (.bipush 32, 2) := by decide +kernel
theorem dL_law_918 : decode cL_law 918 = .ok (.lshl, 1) := by decide +kernel
theorem dL_law_919 : decode cL_law 919 = .ok (.aload_n 0, 1) := by decide +kernel
theorem dL_law_920 : decode cL_law 920 = .ok (.iload 4, 2) := by decide +kernel
theorem dL_law_922 : decode cL_law 922 = .ok (.iconst 2, 1) := by decide +kernel
theorem dL_law_923 : decode cL_law 923 = .ok (.iadd, 1) := by decide +kernel
theorem dL_law_924 : decode cL_law 924 = .ok (.iaload, 1) := by decide +kernel
theorem dL_law_925 : decode cL_law 925 = .ok (.i2l, 1) := by decide +kernel
theorem dL_law_926 : decode cL_law 926 = .ok (.ldc2_w 31, 3) := by decide +kernel
theorem dL_law_929 : decode cL_law 929 = .ok (.land, 1) := by decide +kernel
theorem dL_law_930 : decode cL_law 930 = .ok (.lor, 1) := by decide +kernel
theorem dL_law_931 : decode cL_law 931 = .ok (.invokevirtual 91, 3) := by decide +kernel
theorem dL_law_934 : decode cL_law 934 = .ok (.lstore 6, 2) := by decide +kernel
theorem dL_law_936 : decode cL_law 936 = .ok (.aload_n 2, 1) := by decide +kernel
theorem dL_law_937 : decode cL_law 937 = .ok (.invokevirtual 92, 3) := by decide +kernel
theorem dL_law_940 : decode cL_law 940 = .ok (.iload 5, 2) := by decide +kernel
theorem dL_law_942 : decode cL_law 942 = .ok (.if_icmp .eq 5, 3) := by decide +kernel
theorem dL_law_945 : decode cL_law 945 = .ok (.iconst 0, 1) := by decide +kernel
theorem dL_law_946 : decode cL_law 946 = .ok (.ireturn, 1) := by decide +kernel
theorem dL_law_947 : decode cL_law 947 = .ok (.iload 5, 2) := by decide +kernel
theorem dL_law_949 : decode cL_law 949 = .ok (.ifCond .ne 14, 3) := by decide +kernel
theorem dL_law_952 : decode cL_law 952 = .ok (.aload_n 3, 1) := by decide +kernel
theorem dL_law_953 : decode cL_law 953 = .ok (.iconst 0, 1) := by decide +kernel
theorem dL_law_954 : decode cL_law 954 = .ok (.laload, 1) := by decide +kernel
theorem dL_law_955 : decode cL_law 955 = .ok (.lload 6, 2) := by decide +kernel
theorem dL_law_957 : decode cL_law 957 = .ok (.lcmp, 1) := by decide +kernel
theorem dL_law_958 : decode cL_law 958 = .ok (.ifCond .eq 5, 3) := by decide +kernel
theorem dL_law_961 : decode cL_law 961 = .ok (.iconst 0, 1) := by decide +kernel
theorem dL_law_962 : decode cL_law 962 = .ok (.ireturn, 1) := by decide +kernel
theorem dL_law_963 : decode cL_law 963 = .ok (.goto 380, 3) := by decide +kernel
theorem dL_law_966 : decode cL_law 966 = .ok (.aload_n 1, 1) := by decide +kernel
theorem dL_law_967 : decode cL_law 967 = .ok (.aload_n 0, 1) := by decide +kernel
theorem dL_law_968 : decode cL_law 968 = .ok (.iload 4, 2) := by decide +kernel
theorem dL_law_970 : decode cL_law 970 = .ok (.iconst 1, 1) := by decide +kernel
theorem dL_law_971 : decode cL_law 971 = .ok (.iadd, 1) := by decide +kernel
theorem dL_law_972 : decode cL_law 972 = .ok (.iaload, 1) := by decide +kernel
theorem dL_law_973 : decode cL_law 973 = .ok (.i2l, 1) := by decide +kernel
theorem dL_law_974 : decode cL_law 974 = .ok (.bipush 32, 2) := by decide +kernel
theorem dL_law_976 : decode cL_law 976 = .ok (.lshl, 1) := by decide +kernel
theorem dL_law_977 : decode cL_law 977 = .ok (.aload_n 0, 1) := by decide +kernel
theorem dL_law_978 : decode cL_law 978 = .ok (.iload 4, 2) := by decide +kernel
theorem dL_law_980 : decode cL_law 980 = .ok (.iconst 2, 1) := by decide +kernel
theorem dL_law_981 : decode cL_law 981 = .ok (.iadd, 1) := by decide +kernel
theorem dL_law_982 : decode cL_law 982 = .ok (.iaload, 1) := by decide +kernel
theorem dL_law_983 : decode cL_law 983 = .ok (.i2l, 1) := by decide +kernel
theorem dL_law_984 : decode cL_law 984 = .ok (.ldc2_w 31, 3) := by decide +kernel
theorem dL_law_987 : decode cL_law 987 = .ok (.land, 1) := by decide +kernel
theorem dL_law_988 : decode cL_law 988 = .ok (.lor, 1) := by decide +kernel
theorem dL_law_989 : decode cL_law 989 = .ok (.invokevirtual 95, 3) := by decide +kernel
theorem dL_law_992 : decode cL_law 992 = .ok (.aload_n 2, 1) := by decide +kernel
theorem dL_law_993 : decode cL_law 993 = .ok (.aload_n 0, 1) := by decide +kernel
theorem dL_law_994 : decode cL_law 994 = .ok (.iload 4, 2) := by decide +kernel
theorem dL_law_996 : decode cL_law 996 = .ok (.iconst 1, 1) := by decide +kernel
theorem dL_law_997 : decode cL_law 997 = .ok (.iadd, 1) := by decide +kernel
theorem dL_law_998 : decode cL_law 998 = .ok (.iaload, 1) := by decide +kernel
theorem dL_law_999 : decode cL_law 999 = .ok (.i2l, 1) := by decide +kernel
theorem dL_law_1000 : decode cL_law 1000 = .ok (.bipush 32, 2) := by decide +kernel
theorem dL_law_1002 : decode cL_law 1002 = .ok (.lshl, 1) := by decide +kernel
theorem dL_law_1003 : decode cL_law 1003 = .ok (.aload_n 0, 1) := by decide +kernel
theorem dL_law_1004 : decode cL_law 1004 = .ok (.iload 4, 2) := by decide +kernel
theorem dL_law_1006 : decode cL_law 1006 = .ok (.iconst 2, 1) := by decide +kernel
theorem dL_law_1007 : decode cL_law 1007 = .ok (.iadd, 1) := by decide +kernel
theorem dL_law_1008 : decode cL_law 1008 = .ok (.iaload, 1) := by decide +kernel
theorem dL_law_1009 : decode cL_law 1009 = .ok (.i2l, 1) := by decide +kernel
theorem dL_law_1010 : decode cL_law 1010 = .ok (.ldc2_w 31, 3) := by decide +kernel
theorem dL_law_1013 : decode cL_law 1013 = .ok (.land, 1) := by decide +kernel
theorem dL_law_1014 : decode cL_law 1014 = .ok (.lor, 1) := by decide +kernel
theorem dL_law_1015 : decode cL_law 1015 = .ok (.invokevirtual 98, 3) := by decide +kernel
theorem dL_law_1018 : decode cL_law 1018 = .ok (.lcmp, 1) := by decide +kernel
theorem dL_law_1019 : decode cL_law 1019 = .ok (.ifCond .eq 324, 3) := by decide +kernel
theorem dL_law_1022 : decode cL_law 1022 = .ok (.iconst 0, 1) := by decide +kernel
theorem dL_law_1023 : decode cL_law 1023 = .ok (.ireturn, 1) := by decide +kernel
theorem dL_law_1024 : decode cL_law 1024 = .ok (.aload_n 1, 1) := by decide +kernel
theorem dL_law_1025 : decode cL_law 1025 = .ok (.aload_n 0, 1) := by decide +kernel
theorem dL_law_1026 : decode cL_law 1026 = .ok (.iload 4, 2) := by decide +kernel
theorem dL_law_1028 : decode cL_law 1028 = .ok (.iconst 1, 1) := by decide +kernel
theorem dL_law_1029 : decode cL_law 1029 = .ok (.iadd, 1) := by decide +kernel
theorem dL_law_1030 : decode cL_law 1030 = .ok (.iaload, 1) := by decide +kernel
theorem dL_law_1031 : decode cL_law 1031 = .ok (.i2l, 1) := by decide +kernel
theorem dL_law_1032 : decode cL_law 1032 = .ok (.bipush 32, 2) := by decide +kernel
theorem dL_law_1034 : decode cL_law 1034 = .ok (.lshl, 1) := by decide +kernel
theorem dL_law_1035 : decode cL_law 1035 = .ok (.aload_n 0, 1) := by decide +kernel
theorem dL_law_1036 : decode cL_law 1036 = .ok (.iload 4, 2) := by decide +kernel
theorem dL_law_1038 : decode cL_law 1038 = .ok (.iconst 2, 1) := by decide +kernel
theorem dL_law_1039 : decode cL_law 1039 = .ok (.iadd, 1) := by decide +kernel
theorem dL_law_1040 : decode cL_law 1040 = .ok (.iaload, 1) := by decide +kernel
theorem dL_law_1041 : decode cL_law 1041 = .ok (.i2l, 1) := by decide +kernel
theorem dL_law_1042 : decode cL_law 1042 = .ok (.ldc2_w 31, 3) := by decide +kernel
theorem dL_law_1045 : decode cL_law 1045 = .ok (.land, 1) := by decide +kernel
theorem dL_law_1046 : decode cL_law 1046 = .ok (.lor, 1) := by decide +kernel
theorem dL_law_1047 : decode cL_law 1047 = .ok (.aload_n 3, 1) := by decide +kernel
theorem dL_law_1048 : decode cL_law 1048 = .ok (.invokestatic 99, 3) := by decide +kernel
theorem dL_law_1051 : decode cL_law 1051 = .ok (.istore 5, 2) := by decide +kernel
theorem dL_law_1053 : decode cL_law 1053 = .ok (.aload_n 2, 1) := by decide +kernel
theorem dL_law_1054 : decode cL_law 1054 = .ok (.aload_n 0, 1) := by decide +kernel
theorem dL_law_1055 : decode cL_law 1055 = .ok (.iload 4, 2) := by decide +kernel
theorem dL_law_1057 : decode cL_law 1057 = .ok (.iconst 1, 1) := by decide +kernel
theorem dL_law_1058 : decode cL_law 1058 = .ok (.iadd, 1) := by decide +kernel
theorem dL_law_1059 : decode cL_law 1059 = .ok (.iaload, 1) := by decide +kernel
theorem dL_law_1060 : decode cL_law 1060 = .ok (.i2l, 1) := by decide +kernel
theorem dL_law_1061 : decode cL_law 1061 = .ok (.bipush 32, 2) := by decide +kernel
theorem dL_law_1063 : decode cL_law 1063 = .ok (.lshl, 1) := by decide +kernel
theorem dL_law_1064 : decode cL_law 1064 = .ok (.aload_n 0, 1) := by decide +kernel
theorem dL_law_1065 : decode cL_law 1065 = .ok (.iload 4, 2) := by decide +kernel
theorem dL_law_1067 : decode cL_law 1067 = .ok (.iconst 2, 1) := by decide +kernel
theorem dL_law_1068 : decode cL_law 1068 = .ok (.iadd, 1) := by decide +kernel
theorem dL_law_1069 : decode cL_law 1069 = .ok (.iaload, 1) := by decide +kernel
theorem dL_law_1070 : decode cL_law 1070 = .ok (.i2l, 1) := by decide +kernel
theorem dL_law_1071 : decode cL_law 1071 = .ok (.ldc2_w 31, 3) := by decide +kernel
theorem dL_law_1074 : decode cL_law 1074 = .ok (.land, 1) := by decide +kernel
theorem dL_law_1075 : decode cL_law 1075 = .ok (.lor, 1) := by decide +kernel
theorem dL_law_1076 : decode cL_law 1076 = .ok (.invokevirtual 101, 3) := by decide +kernel
theorem dL_law_1079 : decode cL_law 1079 = .ok (.lstore 6, 2) := by decide +kernel
theorem dL_law_1081 : decode cL_law 1081 = .ok (.aload_n 2, 1) := by decide +kernel
theorem dL_law_1082 : decode cL_law 1082 = .ok (.invokevirtual 92, 3) := by decide +kernel
theorem dL_law_1085 : decode cL_law 1085 = .ok (.iload 5, 2) := by decide +kernel
theorem dL_law_1087 : decode cL_law 1087 = .ok (.if_icmp .eq 5, 3) := by decide +kernel
theorem dL_law_1090 : decode cL_law 1090 = .ok (.iconst 0, 1) := by decide +kernel
theorem dL_law_1091 : decode cL_law 1091 = .ok (.ireturn, 1) := by decide +kernel
theorem dL_law_1092 : decode cL_law 1092 = .ok (.iload 5, 2) := by decide +kernel
theorem dL_law_1094 : decode cL_law 1094 = .ok (.ifCond .ne 14, 3) := by decide +kernel
theorem dL_law_1097 : decode cL_law 1097 = .ok (.aload_n 3, 1) := by decide +kernel
theorem dL_law_1098 : decode cL_law 1098 = .ok (.iconst 0, 1) := by decide +kernel
theorem dL_law_1099 : decode cL_law 1099 = .ok (.laload, 1) := by decide +kernel
theorem dL_law_1100 : decode cL_law 1100 = .ok (.lload 6, 2) := by decide +kernel
theorem dL_law_1102 : decode cL_law 1102 = .ok (.lcmp, 1) := by decide +kernel
theorem dL_law_1103 : decode cL_law 1103 = .ok (.ifCond .eq 5, 3) := by decide +kernel
theorem dL_law_1106 : decode cL_law 1106 = .ok (.iconst 0, 1) := by decide +kernel
theorem dL_law_1107 : decode cL_law 1107 = .ok (.ireturn, 1) := by decide +kernel
theorem dL_law_1108 : decode cL_law 1108 = .ok (.goto 235, 3) := by decide +kernel
theorem dL_law_1111 : decode cL_law 1111 = .ok (.aload_n 1, 1) := by decide +kernel
theorem dL_law_1112 : decode cL_law 1112 = .ok (.invokevirtual 102, 3) := by decide +kernel
theorem dL_law_1115 : decode cL_law 1115 = .ok (.aload_n 2, 1) := by decide +kernel
theorem dL_law_1116 : decode cL_law 1116 = .ok (.invokevirtual 105, 3) := by decide +kernel
theorem dL_law_1119 : decode cL_law 1119 = .ok (.if_icmp .eq 224, 3) := by decide +kernel
theorem dL_law_1122 : decode cL_law 1122 = .ok (.iconst 0, 1) := by decide +kernel
theorem dL_law_1123 : decode cL_law 1123 = .ok (.ireturn, 1) := by decide +kernel
theorem dL_law_1124 : decode cL_law 1124 = .ok (.aload_n 1, 1) := by decide +kernel
theorem dL_law_1125 : decode cL_law 1125 = .ok (.aload_n 0, 1) := by decide +kernel
theorem dL_law_1126 : decode cL_law 1126 = .ok (.iload 4, 2) := by decide +kernel
theorem dL_law_1128 : decode cL_law 1128 = .ok (.iconst 1, 1) := by decide +kernel
theorem dL_law_1129 : decode cL_law 1129 = .ok (.iadd, 1) := by decide +kernel
theorem dL_law_1130 : decode cL_law 1130 = .ok (.iaload, 1) := by decide +kernel
theorem dL_law_1131 : decode cL_law 1131 = .ok (.aload_n 0, 1) := by decide +kernel
theorem dL_law_1132 : decode cL_law 1132 = .ok (.iload 4, 2) := by decide +kernel
theorem dL_law_1134 : decode cL_law 1134 = .ok (.iconst 2, 1) := by decide +kernel
theorem dL_law_1135 : decode cL_law 1135 = .ok (.iadd, 1) := by decide +kernel
theorem dL_law_1136 : decode cL_law 1136 = .ok (.iaload, 1) := by decide +kernel
theorem dL_law_1137 : decode cL_law 1137 = .ok (.invokevirtual 106, 3) := by decide +kernel
theorem dL_law_1140 : decode cL_law 1140 = .ok (.aload_n 2, 1) := by decide +kernel
theorem dL_law_1141 : decode cL_law 1141 = .ok (.aload_n 0, 1) := by decide +kernel
theorem dL_law_1142 : decode cL_law 1142 = .ok (.iload 4, 2) := by decide +kernel
theorem dL_law_1144 : decode cL_law 1144 = .ok (.iconst 1, 1) := by decide +kernel
theorem dL_law_1145 : decode cL_law 1145 = .ok (.iadd, 1) := by decide +kernel
theorem dL_law_1146 : decode cL_law 1146 = .ok (.iaload, 1) := by decide +kernel
theorem dL_law_1147 : decode cL_law 1147 = .ok (.aload_n 0, 1) := by decide +kernel
theorem dL_law_1148 : decode cL_law 1148 = .ok (.iload 4, 2) := by decide +kernel
theorem dL_law_1150 : decode cL_law 1150 = .ok (.iconst 2, 1) := by decide +kernel
theorem dL_law_1151 : decode cL_law 1151 = .ok (.iadd, 1) := by decide +kernel
theorem dL_law_1152 : decode cL_law 1152 = .ok (.iaload, 1) := by decide +kernel
theorem dL_law_1153 : decode cL_law 1153 = .ok (.invokevirtual 109, 3) := by decide +kernel
theorem dL_law_1156 : decode cL_law 1156 = .ok (.if_icmp .eq 187, 3) := by decide +kernel
theorem dL_law_1159 : decode cL_law 1159 = .ok (.iconst 0, 1) := by decide +kernel
theorem dL_law_1160 : decode cL_law 1160 = .ok (.ireturn, 1) := by decide +kernel
theorem dL_law_1161 : decode cL_law 1161 = .ok (.aload_n 1, 1) := by decide +kernel
theorem dL_law_1162 : decode cL_law 1162 = .ok (.aload_n 0, 1) := by decide +kernel
theorem dL_law_1163 : decode cL_law 1163 = .ok (.iload 4, 2) := by decide +kernel
theorem dL_law_1165 : decode cL_law 1165 = .ok (.iconst 1, 1) := by decide +kernel
theorem dL_law_1166 : decode cL_law 1166 = .ok (.iadd, 1) := by decide +kernel
theorem dL_law_1167 : decode cL_law 1167 = .ok (.iaload, 1) := by decide +kernel
theorem dL_law_1168 : decode cL_law 1168 = .ok (.aload_n 3, 1) := by decide +kernel
theorem dL_law_1169 : decode cL_law 1169 = .ok (.invokestatic 110, 3) := by decide +kernel
theorem dL_law_1172 : decode cL_law 1172 = .ok (.istore 5, 2) := by decide +kernel
theorem dL_law_1174 : decode cL_law 1174 = .ok (.aload_n 2, 1) := by decide +kernel
theorem dL_law_1175 : decode cL_law 1175 = .ok (.aload_n 0, 1) := by decide +kernel
theorem dL_law_1176 : decode cL_law 1176 = .ok (.iload 4, 2) := by decide +kernel
theorem dL_law_1178 : decode cL_law 1178 = .ok (.iconst 1, 1) := by decide +kernel
theorem dL_law_1179 : decode cL_law 1179 = .ok (.iadd, 1) := by decide +kernel
theorem dL_law_1180 : decode cL_law 1180 = .ok (.iaload, 1) := by decide +kernel
theorem dL_law_1181 : decode cL_law 1181 = .ok (.invokevirtual 113, 3) := by decide +kernel
theorem dL_law_1184 : decode cL_law 1184 = .ok (.lstore 6, 2) := by decide +kernel
theorem dL_law_1186 : decode cL_law 1186 = .ok (.aload_n 2, 1) := by decide +kernel
theorem dL_law_1187 : decode cL_law 1187 = .ok (.invokevirtual 92, 3) := by decide +kernel
theorem dL_law_1190 : decode cL_law 1190 = .ok (.iload 5, 2) := by decide +kernel
theorem dL_law_1192 : decode cL_law 1192 = .ok (.if_icmp .eq 5, 3) := by decide +kernel
theorem dL_law_1195 : decode cL_law 1195 = .ok (.iconst 0, 1) := by decide +kernel
theorem dL_law_1196 : decode cL_law 1196 = .ok (.ireturn, 1) := by decide +kernel
theorem dL_law_1197 : decode cL_law 1197 = .ok (.iload 5, 2) := by decide +kernel
theorem dL_law_1199 : decode cL_law 1199 = .ok (.ifCond .ne 14, 3) := by decide +kernel
theorem dL_law_1202 : decode cL_law 1202 = .ok (.aload_n 3, 1) := by decide +kernel
theorem dL_law_1203 : decode cL_law 1203 = .ok (.iconst 0, 1) := by decide +kernel
theorem dL_law_1204 : decode cL_law 1204 = .ok (.laload, 1) := by decide +kernel
theorem dL_law_1205 : decode cL_law 1205 = .ok (.lload 6, 2) := by decide +kernel
theorem dL_law_1207 : decode cL_law 1207 = .ok (.lcmp, 1) := by decide +kernel
theorem dL_law_1208 : decode cL_law 1208 = .ok (.ifCond .eq 5, 3) := by decide +kernel
theorem dL_law_1211 : decode cL_law 1211 = .ok (.iconst 0, 1) := by decide +kernel
theorem dL_law_1212 : decode cL_law 1212 = .ok (.ireturn, 1) := by decide +kernel
theorem dL_law_1213 : decode cL_law 1213 = .ok (.goto 130, 3) := by decide +kernel
theorem dL_law_1216 : decode cL_law 1216 = .ok (.aload_n 1, 1) := by decide +kernel
theorem dL_law_1217 : decode cL_law 1217 = .ok (.aload_n 0, 1) := by decide +kernel
theorem dL_law_1218 : decode cL_law 1218 = .ok (.iload 4, 2) := by decide +kernel
theorem dL_law_1220 : decode cL_law 1220 = .ok (.iconst 1, 1) := by decide +kernel
theorem dL_law_1221 : decode cL_law 1221 = .ok (.iadd, 1) := by decide +kernel
theorem dL_law_1222 : decode cL_law 1222 = .ok (.iaload, 1) := by decide +kernel
theorem dL_law_1223 : decode cL_law 1223 = .ok (.i2l, 1) := by decide +kernel
theorem dL_law_1224 : decode cL_law 1224 = .ok (.bipush 32, 2) := by decide +kernel
theorem dL_law_1226 : decode cL_law 1226 = .ok (.lshl, 1) := by decide +kernel
theorem dL_law_1227 : decode cL_law 1227 = .ok (.aload_n 0, 1) := by decide +kernel
theorem dL_law_1228 : decode cL_law 1228 = .ok (.iload 4, 2) := by decide +kernel
theorem dL_law_1230 : decode cL_law 1230 = .ok (.iconst 2, 1) := by decide +kernel
theorem dL_law_1231 : decode cL_law 1231 = .ok (.iadd, 1) := by decide +kernel
theorem dL_law_1232 : decode cL_law 1232 = .ok (.iaload, 1) := by decide +kernel
theorem dL_law_1233 : decode cL_law 1233 = .ok (.i2l, 1) := by decide +kernel
theorem dL_law_1234 : decode cL_law 1234 = .ok (.ldc2_w 31, 3) := by decide +kernel
theorem dL_law_1237 : decode cL_law 1237 = .ok (.land, 1) := by decide +kernel
theorem dL_law_1238 : decode cL_law 1238 = .ok (.lor, 1) := by decide +kernel
theorem dL_law_1239 : decode cL_law 1239 = .ok (.aload_n 0, 1) := by decide +kernel
theorem dL_law_1240 : decode cL_law 1240 = .ok (.iload 4, 2) := by decide +kernel
theorem dL_law_1242 : decode cL_law 1242 = .ok (.iconst 3, 1) := by decide +kernel
theorem dL_law_1243 : decode cL_law 1243 = .ok (.iadd, 1) := by decide +kernel
theorem dL_law_1244 : decode cL_law 1244 = .ok (.iaload, 1) := by decide +kernel
theorem dL_law_1245 : decode cL_law 1245 = .ok (.i2l, 1) := by decide +kernel
theorem dL_law_1246 : decode cL_law 1246 = .ok (.bipush 32, 2) := by decide +kernel
theorem dL_law_1248 : decode cL_law 1248 = .ok (.lshl, 1) := by decide +kernel
theorem dL_law_1249 : decode cL_law 1249 = .ok (.aload_n 0, 1) := by decide +kernel
theorem dL_law_1250 : decode cL_law 1250 = .ok (.iload 4, 2) := by decide +kernel
theorem dL_law_1252 : decode cL_law 1252 = .ok (.iconst 4, 1) := by decide +kernel
theorem dL_law_1253 : decode cL_law 1253 = .ok (.iadd, 1) := by decide +kernel
theorem dL_law_1254 : decode cL_law 1254 = .ok (.iaload, 1) := by decide +kernel
theorem dL_law_1255 : decode cL_law 1255 = .ok (.i2l, 1) := by decide +kernel
theorem dL_law_1256 : decode cL_law 1256 = .ok (.ldc2_w 31, 3) := by decide +kernel
theorem dL_law_1259 : decode cL_law 1259 = .ok (.land, 1) := by decide +kernel
theorem dL_law_1260 : decode cL_law 1260 = .ok (.lor, 1) := by decide +kernel
theorem dL_law_1261 : decode cL_law 1261 = .ok (.invokevirtual 114, 3) := by decide +kernel
theorem dL_law_1264 : decode cL_law 1264 = .ok (.aload_n 2, 1) := by decide +kernel
theorem dL_law_1265 : decode cL_law 1265 = .ok (.aload_n 0, 1) := by decide +kernel
theorem dL_law_1266 : decode cL_law 1266 = .ok (.iload 4, 2) := by decide +kernel
theorem dL_law_1268 : decode cL_law 1268 = .ok (.iconst 1, 1) := by decide +kernel
theorem dL_law_1269 : decode cL_law 1269 = .ok (.iadd, 1) := by decide +kernel
theorem dL_law_1270 : decode cL_law 1270 = .ok (.iaload, 1) := by decide +kernel
theorem dL_law_1271 : decode cL_law 1271 = .ok (.i2l, 1) := by decide +kernel
theorem dL_law_1272 : decode cL_law 1272 = .ok (.bipush 32, 2) := by decide +kernel
theorem dL_law_1274 : decode cL_law 1274 = .ok (.lshl, 1) := by decide +kernel
theorem dL_law_1275 : decode cL_law 1275 = .ok (.aload_n 0, 1) := by decide +kernel
theorem dL_law_1276 : decode cL_law 1276 = .ok (.iload 4, 2) := by decide +kernel
theorem dL_law_1278 : decode cL_law 1278 = .ok (.iconst 2, 1) := by decide +kernel
theorem dL_law_1279 : decode cL_law 1279 = .ok (.iadd, 1) := by decide +kernel
theorem dL_law_1280 : decode cL_law 1280 = .ok (.iaload, 1) := by decide +kernel
theorem dL_law_1281 : decode cL_law 1281 = .ok (.i2l, 1) := by decide +kernel
theorem dL_law_1282 : decode cL_law 1282 = .ok (.ldc2_w 31, 3) := by decide +kernel
theorem dL_law_1285 : decode cL_law 1285 = .ok (.land, 1) := by decide +kernel
theorem dL_law_1286 : decode cL_law 1286 = .ok (.lor, 1) := by decide +kernel
theorem dL_law_1287 : decode cL_law 1287 = .ok (.aload_n 0, 1) := by decide +kernel
theorem dL_law_1288 : decode cL_law 1288 = .ok (.iload 4, 2) := by decide +kernel
theorem dL_law_1290 : decode cL_law 1290 = .ok (.iconst 3, 1) := by decide +kernel
theorem dL_law_1291 : decode cL_law 1291 = .ok (.iadd, 1) := by decide +kernel
theorem dL_law_1292 : decode cL_law 1292 = .ok (.iaload, 1) := by decide +kernel
theorem dL_law_1293 : decode cL_law 1293 = .ok (.i2l, 1) := by decide +kernel
theorem dL_law_1294 : decode cL_law 1294 = .ok (.bipush 32, 2) := by decide +kernel
theorem dL_law_1296 : decode cL_law 1296 = .ok (.lshl, 1) := by decide +kernel
theorem dL_law_1297 : decode cL_law 1297 = .ok (.aload_n 0, 1) := by decide +kernel
theorem dL_law_1298 : decode cL_law 1298 = .ok (.iload 4, 2) := by decide +kernel
theorem dL_law_1300 : decode cL_law 1300 = .ok (.iconst 4, 1) := by decide +kernel
theorem dL_law_1301 : decode cL_law 1301 = .ok (.iadd, 1) := by decide +kernel
theorem dL_law_1302 : decode cL_law 1302 = .ok (.iaload, 1) := by decide +kernel
theorem dL_law_1303 : decode cL_law 1303 = .ok (.i2l, 1) := by decide +kernel
theorem dL_law_1304 : decode cL_law 1304 = .ok (.ldc2_w 31, 3) := by decide +kernel
theorem dL_law_1307 : decode cL_law 1307 = .ok (.land, 1) := by decide +kernel
theorem dL_law_1308 : decode cL_law 1308 = .ok (.lor, 1) := by decide +kernel
theorem dL_law_1309 : decode cL_law 1309 = .ok (.invokevirtual 118, 3) := by decide +kernel
theorem dL_law_1312 : decode cL_law 1312 = .ok (.lcmp, 1) := by decide +kernel
theorem dL_law_1313 : decode cL_law 1313 = .ok (.ifCond .eq 30, 3) := by decide +kernel
theorem dL_law_1316 : decode cL_law 1316 = .ok (.iconst 0, 1) := by decide +kernel
theorem dL_law_1317 : decode cL_law 1317 = .ok (.ireturn, 1) := by decide +kernel
theorem dL_law_1318 : decode cL_law 1318 = .ok (.aload_n 1, 1) := by decide +kernel
theorem dL_law_1319 : decode cL_law 1319 = .ok (.aload_n 0, 1) := by decide +kernel
theorem dL_law_1320 : decode cL_law 1320 = .ok (.iload 4, 2) := by decide +kernel
theorem dL_law_1322 : decode cL_law 1322 = .ok (.iconst 1, 1) := by decide +kernel
theorem dL_law_1323 : decode cL_law 1323 = .ok (.iadd, 1) := by decide +kernel
theorem dL_law_1324 : decode cL_law 1324 = .ok (.iaload, 1) := by decide +kernel
theorem dL_law_1325 : decode cL_law 1325 = .ok (.invokevirtual 119, 3) := by decide +kernel
theorem dL_law_1328 : decode cL_law 1328 = .ok (.aload_n 2, 1) := by decide +kernel
theorem dL_law_1329 : decode cL_law 1329 = .ok (.aload_n 0, 1) := by decide +kernel
theorem dL_law_1330 : decode cL_law 1330 = .ok (.iload 4, 2) := by decide +kernel
theorem dL_law_1332 : decode cL_law 1332 = .ok (.iconst 1, 1) := by decide +kernel
theorem dL_law_1333 : decode cL_law 1333 = .ok (.iadd, 1) := by decide +kernel
theorem dL_law_1334 : decode cL_law 1334 = .ok (.iaload, 1) := by decide +kernel
theorem dL_law_1335 : decode cL_law 1335 = .ok (.invokevirtual 122, 3) := by decide +kernel
theorem dL_law_1338 : decode cL_law 1338 = .ok (.if_icmp .eq 5, 3) := by decide +kernel
theorem dL_law_1341 : decode cL_law 1341 = .ok (.iconst 0, 1) := by decide +kernel
theorem dL_law_1342 : decode cL_law 1342 = .ok (.ireturn, 1) := by decide +kernel
theorem dL_law_1343 : decode cL_law 1343 = .ok (.iinc 4 8, 3) := by decide +kernel
theorem dL_law_1346 : decode cL_law 1346 = .ok (.goto (-1323), 3) := by decide +kernel
theorem dL_law_1349 : decode cL_law 1349 = .ok (.iconst 1, 1) := by decide +kernel
theorem dL_law_1350 : decode cL_law 1350 = .ok (.ireturn, 1) := by decide +kernel
end
section
/-! the good words of the tables; the others, that premises carry -/
def WS : List Cond := lw_tbl.filter goodWord
theorem ws_t (i : Nat) {w : Cond} (h : tables_1[i]? = some w) (g : goodWord w = true) : w ∈ WS := List.mem_filter.mpr ⟨List.mem_append_right _ (List.mem_of_getElem? h), g⟩
theorem ws_p (i : Nat) {w : Cond} (h : (k2_sels lw_privs)[i]? = some w) (g : goodWord w = true) : w ∈ WS := List.mem_filter.mpr ⟨List.mem_append_left _ (List.mem_of_getElem? h), g⟩
theorem ws_good {w : Cond} (h : w ∈ WS) : goodWord w = true := (List.mem_filter.mp h).2
theorem ws_in {w : Cond} (h : w ∈ WS) : w ∈ lw_tbl := (List.mem_filter.mp h).1
/-- a class's fields among the words, by their places -/
theorem ws_us (C : String) (T : u_T) (N : Nat) (ps : List Nat) (h : (List.range N).map (fun k => some (u_lay C T k)) = ps.map (fun i => tables_1[i]?)) (g : ((List.range N).all (fun k => goodWord (u_lay C T k))) = true) : ∀ w ∈ u_ws C T N, w ∈ WS := by
  intro w hw
  obtain ⟨k, hk, rfl⟩ := List.mem_map.mp hw
  have hg := List.all_eq_true.mp g k hk
  have h1 : some (u_lay C T k) ∈ ps.map (fun i => tables_1[i]?) := by
    rw [← h]; exact List.mem_map.mpr ⟨k, hk, rfl⟩
  obtain ⟨i, -, hi⟩ := List.mem_map.mp h1
  exact ws_t i hi hg
end
section
/-! The heap by kinds, fields and arrays (one function each), and a judgement over it: rows an instruction, calls, ends -/
abbrev Gt : Type := (Nat → ClassId) × (Nat → Nat → Nat) × (Nat → ClassId) × Nat
abbrev Zt : Type := (Nat → Nat) × (Nat → Nat) × (Nat → Nat → Value) × (Nat → Nat → Int32) × (Nat → Nat → Int64) × (Nat → Nat → Option Nat) × Nat
def zK (Z : Zt) : Nat → Nat := Z.1
def zL (Z : Zt) : Nat → Nat := Z.2.1
def zF (Z : Zt) : Nat → Nat → Value := Z.2.2.1
def zI (Z : Zt) : Nat → Nat → Int32 := Z.2.2.2.1
def zJ (Z : Zt) : Nat → Nat → Int64 := Z.2.2.2.2.1
def zR (Z : Zt) : Nat → Nat → Option Nat := Z.2.2.2.2.2.1
def zN (Z : Zt) : Nat := Z.2.2.2.2.2.2
def sF (Z : Zt) (k a : Nat) (v : Value) : Zt := (zK Z, zL Z, fun k' a' => if k' = k ∧ a' = a then v else zF Z k' a', zI Z, zJ Z, zR Z, zN Z)
def sI (Z : Zt) (a i : Nat) (v : Int32) : Zt := (zK Z, zL Z, zF Z, fun a' => if a' = a then upd (zI Z a) i v else zI Z a', zJ Z, zR Z, zN Z)
def sJ (Z : Zt) (a i : Nat) (v : Int64) : Zt := (zK Z, zL Z, zF Z, zI Z, fun a' => if a' = a then vp_updL (zJ Z a) i v else zJ Z a', zR Z, zN Z)
def sR (Z : Zt) (a i : Nat) (v : Option Nat) : Zt := (zK Z, zL Z, zF Z, zI Z, zJ Z, fun a' => if a' = a then va_up (zR Z a) i v else zR Z a', zN Z)
def nO (Z : Zt) (kd : Nat) (dv : Nat → Value) : Zt := (va_up (zK Z) (zN Z) kd, zL Z, fun k a => if a = zN Z then dv k else zF Z k a, zI Z, zJ Z, zR Z, zN Z + 1)
def nA (Z : Zt) (kd n : Nat) : Zt := (va_up (zK Z) (zN Z) kd, va_up (zL Z) (zN Z) n, zF Z, va_up (zI Z) (zN Z) (fun _ => 0), va_up (zJ Z) (zN Z) (fun _ => 0), va_up (zR Z) (zN Z) (fun _ => none), zN Z + 1)
/-- a cell that nobody looks at -/
def nW (Z : Zt) (k : Nat) : Zt := (zK Z, zL Z, zF Z, zI Z, zJ Z, zR Z, zN Z + k)
theorem zK_sF (Z : Zt) (k a : Nat) (v : Value) : zK (sF Z k a v) = zK Z := rfl
theorem zL_sF (Z : Zt) (k a : Nat) (v : Value) : zL (sF Z k a v) = zL Z := rfl
theorem zI_sF (Z : Zt) (k a : Nat) (v : Value) : zI (sF Z k a v) = zI Z := rfl
theorem zJ_sF (Z : Zt) (k a : Nat) (v : Value) : zJ (sF Z k a v) = zJ Z := rfl
theorem zR_sF (Z : Zt) (k a : Nat) (v : Value) : zR (sF Z k a v) = zR Z := rfl
theorem zN_sF (Z : Zt) (k a : Nat) (v : Value) : zN (sF Z k a v) = zN Z := rfl
theorem zF_sF (Z : Zt) (k a : Nat) (v : Value) (k' a' : Nat) : zF (sF Z k a v) k' a' = if k' = k ∧ a' = a then v else zF Z k' a' := rfl
theorem zK_sI (Z : Zt) (a i : Nat) (v : Int32) : zK (sI Z a i v) = zK Z := rfl
theorem zL_sI (Z : Zt) (a i : Nat) (v : Int32) : zL (sI Z a i v) = zL Z := rfl
theorem zF_sI (Z : Zt) (a i : Nat) (v : Int32) : zF (sI Z a i v) = zF Z := rfl
theorem zJ_sI (Z : Zt) (a i : Nat) (v : Int32) : zJ (sI Z a i v) = zJ Z := rfl
theorem zR_sI (Z : Zt) (a i : Nat) (v : Int32) : zR (sI Z a i v) = zR Z := rfl
theorem zN_sI (Z : Zt) (a i : Nat) (v : Int32) : zN (sI Z a i v) = zN Z := rfl
theorem zI_sI (Z : Zt) (a i : Nat) (v : Int32) (a' : Nat) : zI (sI Z a i v) a' = if a' = a then upd (zI Z a) i v else zI Z a' := rfl
theorem zK_sJ (Z : Zt) (a i : Nat) (v : Int64) : zK (sJ Z a i v) = zK Z := rfl
theorem zL_sJ (Z : Zt) (a i : Nat) (v : Int64) : zL (sJ Z a i v) = zL Z := rfl
theorem zF_sJ (Z : Zt) (a i : Nat) (v : Int64) : zF (sJ Z a i v) = zF Z := rfl
theorem zI_sJ (Z : Zt) (a i : Nat) (v : Int64) : zI (sJ Z a i v) = zI Z := rfl
theorem zR_sJ (Z : Zt) (a i : Nat) (v : Int64) : zR (sJ Z a i v) = zR Z := rfl
theorem zN_sJ (Z : Zt) (a i : Nat) (v : Int64) : zN (sJ Z a i v) = zN Z := rfl
theorem zJ_sJ (Z : Zt) (a i : Nat) (v : Int64) (a' : Nat) : zJ (sJ Z a i v) a' = if a' = a then vp_updL (zJ Z a) i v else zJ Z a' := rfl
theorem zK_sR (Z : Zt) (a i : Nat) (v : Option Nat) : zK (sR Z a i v) = zK Z := rfl
theorem zL_sR (Z : Zt) (a i : Nat) (v : Option Nat) : zL (sR Z a i v) = zL Z := rfl
theorem zF_sR (Z : Zt) (a i : Nat) (v : Option Nat) : zF (sR Z a i v) = zF Z := rfl
theorem zI_sR (Z : Zt) (a i : Nat) (v : Option Nat) : zI (sR Z a i v) = zI Z := rfl
theorem zJ_sR (Z : Zt) (a i : Nat) (v : Option Nat) : zJ (sR Z a i v) = zJ Z := rfl
theorem zN_sR (Z : Zt) (a i : Nat) (v : Option Nat) : zN (sR Z a i v) = zN Z := rfl
theorem zR_sR (Z : Zt) (a i : Nat) (v : Option Nat) (a' : Nat) : zR (sR Z a i v) a' = if a' = a then va_up (zR Z a) i v else zR Z a' := rfl
def tyTab : Nat → Nat → FieldType := fun c => match c with
  | 0 => tyX0
  | 1 => tyX1
  | 2 => tyX3
  | 3 => tyX4
  | 4 => tyX5
  | 5 => tyX6
  | 6 => tyX7
  | 7 => tyX8
  | 8 => tyX9
  | 9 => tyX10
  | 10 => tyX11
  | _ => tyX12
def aTy : Nat → FieldType := fun k => match k with
  | 0 => .int
  | 1 => .long
  | 2 => .boolean
  | 3 => .object RX0
  | 4 => .object RX2
  | 5 => .object RX6
  | _ => .object RX8
def TYs (G : Gt) : List (ClassId × FieldType) := (List.range 7).map (fun k => (G.2.2.1 k, aTy k))
/-- the heap H holds Z: every cell of a known kind as Z says -/
def Rep (G : Gt) (Z : Zt) (H : Heap) : Prop :=
  H.size = zN Z ∧ (∀ a, zK Z a ≠ 0 → G.2.2.2 ≤ a ∧ a < zN Z) ∧
  (∀ (a c : Nat) (q : vw_C), zK Z a = c + 1 → vwCl[c]? = some q → t_OB a (G.1 c) q.2.2 (G.2.1 c) H (fun k => zF Z k a)) ∧
  (∀ a, zK Z a = 20 → H[a]? = some (vp_cell (G.2.2.1 0) (zL Z a, .inl (zI Z a)))) ∧
  (∀ a, zK Z a = 21 → H[a]? = some (vp_cell (G.2.2.1 1) (zL Z a, .inr (.inl (zJ Z a))))) ∧
  (∀ a, zK Z a = 22 → H[a]? = some (vp_cell (G.2.2.1 2) (zL Z a, .inl (zI Z a)))) ∧
  (∀ a r, zK Z a = 23 + r → r < 4 → H[a]? = some (vp_cell (G.2.2.1 (3 + r)) (zL Z a, .inr (.inr (.inr (.inr (zR Z a)))))))
theorem vwCl_lt {c : Nat} {q : vw_C} (h : vwCl[c]? = some q) : c < 12 := (List.getElem?_eq_some_iff.mp h).1
theorem Rep_sF {G : Gt} {Z : Zt} {H H1 : Heap} (h : Rep G Z H) {a c k : Nat} {q : vw_C} {v : Value} (hk : zK Z a = c + 1) (hq : vwCl[c]? = some q) (hz : H1.size = H.size) (oq : ∀ x : Nat, x ≠ a → H1[x]? = H[x]?)
    (hob : t_OB a (G.1 c) q.2.2 (G.2.1 c) H1 (updV (fun j => zF Z j a) k v)) : Rep G (sF Z k a v) H1 := by
  obtain ⟨h1, h2, h3, h4, h5, h6, h7⟩ := h
  have hc := vwCl_lt hq
  refine ⟨by rw [hz]; exact h1, h2, fun b d r hb hr => ?_, fun b hb => ?_, fun b hb => ?_, fun b hb => ?_, fun b r hb hr => ?_⟩
  · by_cases e : b = a
    · subst e
      have hdc : d = c := by have := hk.symm.trans hb; omega
      subst hdc
      cases hq.symm.trans hr
      refine hob.to (fun j _ => ?_)
      simp only [updV, zF_sF, and_true]
    · refine ((h3 b d r hb hr).kept (oq b e)).to (fun j _ => ?_)
      simp only [zF_sF, e, and_false, if_false]
  · rw [oq b (fun e => by subst e; have := hk.symm.trans hb; omega)]; exact h4 b hb
  · rw [oq b (fun e => by subst e; have := hk.symm.trans hb; omega)]; exact h5 b hb
  · rw [oq b (fun e => by subst e; have := hk.symm.trans hb; omega)]; exact h6 b hb
  · rw [oq b (fun e => by subst e; have := hk.symm.trans hb; omega)]; exact h7 b r hb hr
theorem Rep_sI {G : Gt} {Z : Zt} {H H1 : Heap} (h : Rep G Z H) {a i w : Nat} {v : Int32} (hk : zK Z a = 20 + w) (hw : w = 0 ∨ w = 2) (hz : H1.size = H.size) (oq : ∀ x : Nat, x ≠ a → H1[x]? = H[x]?)
    (hob : H1[a]? = some (vp_cell (G.2.2.1 w) (zL Z a, .inl (upd (zI Z a) i v)))) : Rep G (sI Z a i v) H1 := by
  obtain ⟨h1, h2, h3, h4, h5, h6, h7⟩ := h
  refine ⟨by rw [hz]; exact h1, h2, fun b d r hb hr => ?_, fun b hb => ?_, fun b hb => ?_, fun b hb => ?_, fun b r hb hr => ?_⟩
  · have hc := vwCl_lt hr
    exact (h3 b d r hb hr).kept (oq b (fun e => by subst e; have := hk.symm.trans hb; omega))
  · by_cases e : b = a
    · subst e
      have : w = 0 := by have := hk.symm.trans hb; omega
      subst this
      simp only [zI_sI, if_true, zL_sI]; exact hob
    · rw [oq b e]; simp only [zI_sI, e, if_false, zL_sI]; exact h4 b hb
  · rw [oq b (fun e => by subst e; have := hk.symm.trans hb; omega)]; exact h5 b hb
  · by_cases e : b = a
    · subst e
      have : w = 2 := by have := hk.symm.trans hb; omega
      subst this
      simp only [zI_sI, if_true, zL_sI]; exact hob
    · rw [oq b e]; simp only [zI_sI, e, if_false, zL_sI]; exact h6 b hb
  · rw [oq b (fun e => by subst e; have := hk.symm.trans hb; omega)]; exact h7 b r hb hr
theorem Rep_sJ {G : Gt} {Z : Zt} {H H1 : Heap} (h : Rep G Z H) {a i : Nat} {v : Int64} (hk : zK Z a = 21) (hz : H1.size = H.size) (oq : ∀ x : Nat, x ≠ a → H1[x]? = H[x]?)
    (hob : H1[a]? = some (vp_cell (G.2.2.1 1) (zL Z a, .inr (.inl (vp_updL (zJ Z a) i v))))) : Rep G (sJ Z a i v) H1 := by
  obtain ⟨h1, h2, h3, h4, h5, h6, h7⟩ := h
  refine ⟨by rw [hz]; exact h1, h2, fun b d r hb hr => ?_, fun b hb => ?_, fun b hb => ?_, fun b hb => ?_, fun b r hb hr => ?_⟩
  · have hc := vwCl_lt hr
    exact (h3 b d r hb hr).kept (oq b (fun e => by subst e; have := hk.symm.trans hb; omega))
  · rw [oq b (fun e => by subst e; have := hk.symm.trans hb; omega)]; exact h4 b hb
  · by_cases e : b = a
    · subst e
      simp only [zJ_sJ, if_true, zL_sJ]; exact hob
    · rw [oq b e]; simp only [zJ_sJ, e, if_false, zL_sJ]; exact h5 b hb
  · rw [oq b (fun e => by subst e; have := hk.symm.trans hb; omega)]; exact h6 b hb
  · rw [oq b (fun e => by subst e; have := hk.symm.trans hb; omega)]; exact h7 b r hb hr
theorem Rep_sR {G : Gt} {Z : Zt} {H H1 : Heap} (h : Rep G Z H) {a i w : Nat} {v : Option Nat} (hk : zK Z a = 23 + w) (hw : w < 4) (hz : H1.size = H.size) (oq : ∀ x : Nat, x ≠ a → H1[x]? = H[x]?)
    (hob : H1[a]? = some (vp_cell (G.2.2.1 (3 + w)) (zL Z a, .inr (.inr (.inr (.inr (va_up (zR Z a) i v))))))) : Rep G (sR Z a i v) H1 := by
  obtain ⟨h1, h2, h3, h4, h5, h6, h7⟩ := h
  refine ⟨by rw [hz]; exact h1, h2, fun b d r hb hr => ?_, fun b hb => ?_, fun b hb => ?_, fun b hb => ?_, fun b r hb hr => ?_⟩
  · have hc := vwCl_lt hr
    exact (h3 b d r hb hr).kept (oq b (fun e => by subst e; have := hk.symm.trans hb; omega))
  · rw [oq b (fun e => by subst e; have := hk.symm.trans hb; omega)]; exact h4 b hb
  · rw [oq b (fun e => by subst e; have := hk.symm.trans hb; omega)]; exact h5 b hb
  · rw [oq b (fun e => by subst e; have := hk.symm.trans hb; omega)]; exact h6 b hb
  · by_cases e : b = a
    · subst e
      have : r = w := by have := hk.symm.trans hb; omega
      subst this
      simp only [zR_sR, if_true, zL_sR]; exact hob
    · rw [oq b e]; simp only [zR_sR, e, if_false, zL_sR]; exact h7 b r hb hr
theorem Rep_free {G : Gt} {Z : Zt} {H : Heap} (h : Rep G Z H) {a : Nat} (ha : zN Z ≤ a) : zK Z a = 0 := Decidable.byContradiction fun e => absurd (h.2.1 a e).2 (by omega)
theorem Rep_nO {G : Gt} {Z : Zt} {H H1 : Heap} (h : Rep G Z H) {c : Nat} {q : vw_C} {dv : Nat → Value} (hB : G.2.2.2 ≤ zN Z) (hq : vwCl[c]? = some q) (hz : H1.size = zN Z + 1) (oq : ∀ x : Nat, x < zN Z → H1[x]? = H[x]?)
    (hob : t_OB (zN Z) (G.1 c) q.2.2 (G.2.1 c) H1 dv) : Rep G (nO Z (c + 1) dv) H1 := by
  obtain ⟨h1, h2, h3, h4, h5, h6, h7⟩ := id h
  have hc := vwCl_lt hq
  have kk : ∀ b, zK (nO Z (c + 1) dv) b = if b = zN Z then c + 1 else zK Z b := fun b => rfl
  have lt : ∀ b, b ≠ zN Z → zK (nO Z (c + 1) dv) b ≠ 0 → b < zN Z := fun b e hb => by rw [kk, if_neg e] at hb; exact (h2 b hb).2
  refine ⟨hz, fun b hb => ?_, fun b d r hb hr => ?_, fun b hb => ?_, fun b hb => ?_, fun b hb => ?_, fun b r hb hr => ?_⟩
  · by_cases e : b = zN Z
    · subst e; exact ⟨hB, Nat.lt_succ_self _⟩
    · rw [kk, if_neg e] at hb; exact ⟨(h2 b hb).1, Nat.lt_succ_of_lt (h2 b hb).2⟩
  · by_cases e : b = zN Z
    · subst e
      rw [kk, if_pos rfl] at hb
      have : d = c := by omega
      subst this
      cases hq.symm.trans hr
      exact hob.to (fun j _ => by show dv j = if zN Z = zN Z then dv j else _; rw [if_pos rfl])
    · have hl := lt b e (by rw [hb]; omega)
      rw [kk, if_neg e] at hb
      exact ((h3 b d r hb hr).kept (oq b hl)).to (fun j _ => by show _ = if b = zN Z then dv j else zF Z j b; rw [if_neg e])
  all_goals
    have e : b ≠ zN Z := fun e => by subst e; rw [kk, if_pos rfl] at hb; omega
    have hl := lt b e (by rw [hb]; omega)
    rw [kk, if_neg e] at hb
    rw [oq b hl]
  · exact h4 b hb
  · exact h5 b hb
  · exact h6 b hb
  · exact h7 b r hb hr
theorem Rep_nA {G : Gt} {Z : Zt} {H H1 : Heap} (h : Rep G Z H) {w n : Nat} (hB : G.2.2.2 ≤ zN Z) (hw : w < 7) (hz : H1.size = zN Z + 1) (oq : ∀ x : Nat, x < zN Z → H1[x]? = H[x]?)
    (hob : H1[zN Z]? = some (arrV (G.2.2.1 w) n (fun _ => defaultValue (aTy w)))) : Rep G (nA Z (20 + w) n) H1 := by
  obtain ⟨h1, h2, h3, h4, h5, h6, h7⟩ := id h
  have kk : ∀ b, zK (nA Z (20 + w) n) b = if b = zN Z then 20 + w else zK Z b := fun b => rfl
  have lt : ∀ b, b ≠ zN Z → zK (nA Z (20 + w) n) b ≠ 0 → b < zN Z := fun b e hb => by rw [kk, if_neg e] at hb; exact (h2 b hb).2
  have fz : ∀ b, zF (nA Z (20 + w) n) b = zF Z b := fun _ => rfl
  have lz : ∀ b, zL (nA Z (20 + w) n) b = if b = zN Z then n else zL Z b := fun _ => rfl
  have iz : ∀ b, zI (nA Z (20 + w) n) b = if b = zN Z then (fun _ => 0) else zI Z b := fun _ => rfl
  have jz : ∀ b, zJ (nA Z (20 + w) n) b = if b = zN Z then (fun _ => 0) else zJ Z b := fun _ => rfl
  have rz : ∀ b, zR (nA Z (20 + w) n) b = if b = zN Z then (fun _ => none) else zR Z b := fun _ => rfl
  refine ⟨hz, fun b hb => ?_, fun b d r hb hr => ?_, fun b hb => ?_, fun b hb => ?_, fun b hb => ?_, fun b r hb hr => ?_⟩
  · by_cases e : b = zN Z
    · subst e; exact ⟨hB, Nat.lt_succ_self _⟩
    · rw [kk, if_neg e] at hb; exact ⟨(h2 b hb).1, Nat.lt_succ_of_lt (h2 b hb).2⟩
  · have hc := vwCl_lt hr
    have e : b ≠ zN Z := fun e => by subst e; rw [kk, if_pos rfl] at hb; omega
    have hl := lt b e (by rw [hb]; omega)
    rw [kk, if_neg e] at hb
    exact (h3 b d r hb hr).kept (oq b hl)
  · by_cases e : b = zN Z
    · subst e
      rw [kk, if_pos rfl] at hb
      have : w = 0 := by omega
      subst this
      rw [hob, lz, iz, if_pos rfl, if_pos rfl]; rfl
    · have hl := lt b e (by rw [hb]; omega)
      rw [kk, if_neg e] at hb
      rw [oq b hl, lz, iz, if_neg e, if_neg e]; exact h4 b hb
  · by_cases e : b = zN Z
    · subst e
      rw [kk, if_pos rfl] at hb
      have : w = 1 := by omega
      subst this
      rw [hob, lz, jz, if_pos rfl, if_pos rfl]; rfl
    · have hl := lt b e (by rw [hb]; omega)
      rw [kk, if_neg e] at hb
      rw [oq b hl, lz, jz, if_neg e, if_neg e]; exact h5 b hb
  · by_cases e : b = zN Z
    · subst e
      rw [kk, if_pos rfl] at hb
      have : w = 2 := by omega
      subst this
      rw [hob, lz, iz, if_pos rfl, if_pos rfl]; rfl
    · have hl := lt b e (by rw [hb]; omega)
      rw [kk, if_neg e] at hb
      rw [oq b hl, lz, iz, if_neg e, if_neg e]; exact h6 b hb
  · by_cases e : b = zN Z
    · subst e
      rw [kk, if_pos rfl] at hb
      have : w = 3 + r := by omega
      subst this
      rw [hob, lz, rz, if_pos rfl, if_pos rfl, vp_cell_q]
      rcases (show r = 0 ∨ r = 1 ∨ r = 2 ∨ r = 3 by omega) with rfl | rfl | rfl | rfl <;> rfl
    · have hl := lt b e (by rw [hb]; omega)
      rw [kk, if_neg e] at hb
      rw [oq b hl, lz, rz, if_neg e, if_neg e]; exact h7 b r hb hr
/-! what every method knows of the tables: the classes, the array classes, the words that premises carry -/
def nwl : List Cond := [.methodLinkNest RX11 35 yX10_init RX11, .methodLinkNest RX11 42 yX5_init RX11, .methodLinkNest RX11 51 yX6_init RX11, .methodLinkNest RX8 134 yX11_gap RX11, .methodLinkNest RX8 138 yX11_unsignedBelow RX11, .methodLinkNest RX8 155 yX11_find RX11, .methodLinkNest RX5 23 yX11_find RX11, .methodLinkNest RX9 25 yX11_gap RX11, .methodLinkNest RX9 31 yX11_unsignedRest RX11, .methodLinkNest RX9 34 yX11_unsignedQuotient RX11]
def Kn (G : Gt) (U : State) : Prop := va_K (G.1, G.2.1) vwCl (TYs G) U ∧ (∀ w ∈ nwl, va_Nw w U) ∧ va_Nw (.declares ⟨RX2, "judge", "(JLCandidateRanges$Tally;)I"⟩) U ∧ (∀ C ∈ [RX1, RX3, RX4, RX7], va_Nw (.castable C RX2) U) ∧ (∀ C ∈ [RX0, RX2, RX6, RX8], va_AO C U)
theorem nwl_warm {s U : State} (hW : s.WarmedH U.vm) : ∀ w ∈ nwl, va_Nw w s → va_Nw w U := by
  intro w hw h
  simp only [nwl, List.mem_cons, List.not_mem_nil, or_false] at hw
  rcases hw with rfl | rfl | rfl | rfl | rfl | rfl | rfl | rfl | rfl | rfl <;> exact va_Nw.warmM hW h
theorem Kn.moved {G : Gt} {s U : State} (hW : s.WarmedH U.vm) (h : Kn G s) : Kn G U :=
  ⟨va_K.moved hW.alike h.1, fun w hw => nwl_warm hW w hw (h.2.1 w hw), va_Nw.warmD hW h.2.2.1, fun C hC => va_Nw.warmC hW (h.2.2.2.1 C hC), fun C hC => va_AO.moved hW.alike (h.2.2.2.2 C hC)⟩
theorem Kn.same {G : Gt} {s U : State} (hv : s.vm = U.vm) (h : Kn G s) : Kn G U := by
  have hal : s.vm.Alike U.vm := by rw [hv]; exact Vm.Alike.refl _
  refine ⟨va_K.moved hal h.1, fun w hw => va_Nw.same ?_ hv (h.2.1 w hw), va_Nw.same rfl hv h.2.2.1, fun C hC => va_Nw.same rfl hv (h.2.2.2.1 C hC), fun C hC => va_AO.moved hal (h.2.2.2.2 C hC)⟩
  simp only [nwl, List.mem_cons, List.not_mem_nil, or_false] at hw
  rcases hw with rfl | rfl | rfl | rfl | rfl | rfl | rfl | rfl | rfl | rfl <;> rfl
abbrev Yt : Type := MethodName × ByteArray × Nat × Option FieldType
abbrev Mt : Type := Program × Env × Room × State × MethodId × Array Value × List Frame × Method × Code
abbrev Bt : Type := Nat × Nat × Nat
def rmB (B : Bt) : Room := { frames := B.1, cells := B.2.1, slots := B.2.2, locals := 64 * B.1 }
def wsY (Y : Yt) : List Cond := Cond.code Y.1 Y.2.1 Y.2.2.1 Y.2.2.2 :: WS
/-- the locals that are known, by their places -/
def aL : Nat → List (Option Value) → List (Nat × Value)
  | _, [] => []
  | i, none :: l => aL (i + 1) l
  | i, some v :: l => (i, v) :: aL (i + 1) l
theorem aL_mem {l : List (Option Value)} : ∀ (i : Nat) (q : Nat × Value), q ∈ aL i l ↔ i ≤ q.1 ∧ l[q.1 - i]? = some (some q.2) := by
  induction l with
  | nil => intro i q; simp [aL]
  | cons x l ih =>
    intro i q
    have step : (i + 1 ≤ q.1 ∧ l[q.1 - (i + 1)]? = some (some q.2)) ↔ (i < q.1 ∧ (x :: l)[q.1 - i]? = some (some q.2)) := by
      constructor
      · rintro ⟨h1, h2⟩
        refine ⟨h1, ?_⟩
        rw [show q.1 - i = (q.1 - (i + 1)) + 1 by omega, List.getElem?_cons_succ]; exact h2
      · rintro ⟨h1, h2⟩
        refine ⟨h1, ?_⟩
        rw [show q.1 - i = (q.1 - (i + 1)) + 1 by omega, List.getElem?_cons_succ] at h2; exact h2
    cases x with
    | none =>
      rw [aL, ih (i + 1) q, step]
      constructor
      · rintro ⟨h1, h2⟩; exact ⟨Nat.le_of_lt h1, h2⟩
      · rintro ⟨h1, h2⟩
        refine ⟨?_, h2⟩
        rcases Nat.lt_or_ge i q.1 with h | h
        · exact h
        · have : q.1 - i = 0 := by omega
          rw [this] at h2; simp at h2
    | some v =>
      rw [aL, List.mem_cons, ih (i + 1) q, step]
      constructor
      · rintro (h | ⟨h1, h2⟩)
        · subst h; simp
        · exact ⟨Nat.le_of_lt h1, h2⟩
      · rintro ⟨h1, h2⟩
        rcases Nat.lt_or_ge i q.1 with h | h
        · exact Or.inr ⟨h, h2⟩
        · have e : q.1 = i := by omega
          have : q.1 - i = 0 := by omega
          rw [this] at h2
          simp at h2
          exact Or.inl (by obtain ⟨a, b⟩ := q; simp only at e h2; rw [e, h2])
theorem aL_get {A : Array Slot} {nL : Nat} {ls : List (Option Value)} (h : lv_has A nL (aL 0 ls)) {k : Nat} {v : Value} (hk : ls[k]? = some (some v)) : A[k]? = some (.val v) :=
  h.2.2 (k, v) ((aL_mem 0 (k, v)).mpr ⟨Nat.zero_le _, hk⟩)
theorem lv_le {A : Array Slot} {nL : Nat} {l l' : List (Nat × Value)} (h : lv_has A nL l) (hl : ∀ q ∈ l', q ∈ l) : lv_has A nL l' := ⟨h.1, h.2.1, fun q hq => h.2.2 q (hl q hq)⟩
/-- the place before i holds no long -/
def okP (ls : List (Option Value)) (i : Nat) : Bool := match i with
  | 0 => true
  | j + 1 => match ls[j]? with
    | some (some (.long _)) => false
    | some (some (.double _)) => false
    | _ => true
theorem okP_ne {ls : List (Option Value)} {i j : Nat} {v : Value} (h : okP ls i = true) (hj : j + 1 = i) (hv : ls[j]? = some (some v)) : v.category ≠ 2 := by
  subst hj
  cases v <;> simp_all [okP, Value.category]
theorem aL_set1 {ls : List (Option Value)} {i : Nat} {v : Value} (hi : i < ls.length) (hp : okP ls i = true) : ∀ q ∈ aL 0 (ls.set i (some v)), q ∈ (i, v) :: (aL 0 ls).filter (fun q => !(q.1 == i) && !(q.1 + 1 == i && q.2.category == 2)) := by
  intro q hq
  obtain ⟨-, hq⟩ := (aL_mem 0 q).mp hq
  rw [Nat.sub_zero] at hq
  by_cases e : q.1 = i
  · rw [e, List.getElem?_set_self hi] at hq
    have : v = q.2 := by simpa using hq
    exact List.mem_cons.mpr (Or.inl (by obtain ⟨a, b⟩ := q; simp only at e this; rw [e, this]))
  · rw [List.getElem?_set_ne (Ne.symm e)] at hq
    refine List.mem_cons.mpr (Or.inr (List.mem_filter.mpr ⟨(aL_mem 0 q).mpr ⟨Nat.zero_le _, by rw [Nat.sub_zero]; exact hq⟩, ?_⟩))
    simp only [Bool.and_eq_true, Bool.not_eq_true', beq_eq_false_iff_ne, ne_eq, e, not_false_eq_true, true_and, Bool.and_eq_false_iff]
    by_cases e2 : q.1 + 1 = i
    · exact Or.inr (okP_ne hp e2 hq)
    · exact Or.inl e2
theorem aL_set2 {ls : List (Option Value)} {i : Nat} {v : Value} (hi : i < ls.length) (hp : okP ls i = true) : ∀ q ∈ aL 0 ((ls.set i (some v)).set (i + 1) none), q ∈ (i, v) :: (aL 0 ls).filter (fun q => !(q.1 == i) && (!(q.1 == i + 1) && !(q.1 + 1 == i && q.2.category == 2))) := by
  intro q hq
  obtain ⟨-, hq⟩ := (aL_mem 0 q).mp hq
  rw [Nat.sub_zero] at hq
  by_cases e1 : q.1 = i + 1
  · rw [e1] at hq
    by_cases hl : i + 1 < (ls.set i (some v)).length
    · rw [List.getElem?_set_self hl] at hq; simp at hq
    · rw [List.getElem?_eq_none (by simp at hl ⊢; omega)] at hq; cases hq
  · rw [List.getElem?_set_ne (Ne.symm e1)] at hq
    by_cases e : q.1 = i
    · rw [e, List.getElem?_set_self hi] at hq
      have : v = q.2 := by simpa using hq
      exact List.mem_cons.mpr (Or.inl (by obtain ⟨a, b⟩ := q; simp only at e this; rw [e, this]))
    · rw [List.getElem?_set_ne (Ne.symm e)] at hq
      refine List.mem_cons.mpr (Or.inr (List.mem_filter.mpr ⟨(aL_mem 0 q).mpr ⟨Nat.zero_le _, by rw [Nat.sub_zero]; exact hq⟩, ?_⟩))
      simp only [Bool.and_eq_true, Bool.not_eq_true', beq_eq_false_iff_ne, ne_eq, e, e1, not_false_eq_true, true_and, Bool.and_eq_false_iff]
      by_cases e2 : q.1 + 1 = i
      · exact Or.inr (okP_ne hp e2 hq)
      · exact Or.inl e2
/-- what a body knows -/
def Cx (G : Gt) (Y : Yt) (B : Bt) (M : Mt) : Prop :=
  M.1.tables.exec = Jvm.exec ∧ M.2.2.2.2.2.2.2.2.code = Y.2.1 ∧ M.2.2.2.2.2.2.2.2.maxLocals = Y.2.2.1 ∧ M.2.2.2.2.2.2.2.1.sig.returnType = Y.2.2.2 ∧ M.2.2.2.1.vm.findClass Y.1.cls = some M.2.2.2.2.1.cls ∧
  (∀ w ∈ WS, w.before M.2.2.2.2.2.1 M.2.2.2.1 = true) ∧ M.2.2.2.2.2.2.2.1.locks = false ∧ Kn G M.2.2.2.1 ∧ G.2.2.2 ≤ M.2.2.2.1.heap.size ∧ M.2.2.1 = rmB B ∧ M.2.2.2.2.2.2.2.1.name = Y.1.name
/-- the judgement: the body of Y, over the heap Z, at pc with these locals and this stack, comes to Q -/
def Jd (l : Launch) (G : Gt) (Y : Yt) (B : Bt) (M : Mt) (Z : Zt) (cells slots : Nat) (Q : State → Prop) (pc : Nat) (ls : List (Option Value)) (st : List Value) : Prop :=
  Cx G Y B M → ∀ (H : Heap) (locs : List Loc) (A : Array Slot), Rep G Z H → va_S (fun q => G.2.2.2 ≤ q) M.2.2.2.1.heap H locs → lv_has A Y.2.2.1 (aL 0 ls) →
    W M.1 l M.2.1 M.2.2.1 M.2.2.2.1 M.2.2.2.2.1 M.2.2.2.2.2.1 M.2.2.2.2.2.2.1 M.2.2.2.2.2.2.2.1 M.2.2.2.2.2.2.2.2 H locs cells slots Q (F0 M.2.2.2.2.1 pc A st)
def Qc (G : Gt) (Φ : Option Value → Zt → Prop) : Array Value → State → Outcome → State → Prop := fun _ st o t => ∃ (v : Option Value) (Z : Zt), o = .returned v ∧ Φ v Z ∧ Rep G Z t.heap ∧ va_F (fun q => G.2.2.2 ≤ q) st t
def Qm (G : Gt) (B : Bt) (M : Mt) (Φ : Option Value → Zt → Prop) : State → Prop := MQ M.2.2.2.2.2.2.1 (Qc G Φ) M.2.2.2.2.2.1 M.2.2.2.1 B.2.1 B.2.2 (fun q => G.2.2.2 ≤ q)
/-- a method's contract at one heap and these arguments -/
def Ct (l : Launch) (G : Gt) (Y : Yt) (B : Bt) (Z : Zt) (args : List Value) (Φ : Option Value → Zt → Prop) : Prop :=
  Met l Y.1 (wsY Y) (rmB B) (va_Pc args (fun U => Rep G Z U.heap ∧ Kn G U ∧ G.2.2.2 ≤ U.heap.size)) (Qc G Φ) B.2.1 B.2.2 (fun q => G.2.2.2 ≤ q)
theorem ct_of {l : Launch} {G : Gt} {Y : Yt} {B : Bt} {Z : Zt} {args : List Value} {Φ : Option Value → Zt → Prop} (ls : List (Option Value)) (hy : plainName Y.1.cls = true) (hl : (lg_sl args).length ≤ Y.2.2.1) (he : aL 0 ls = lv_args 0 args)
    (body : ∀ M : Mt, Jd l G Y B M Z 0 0 (Qm G B M Φ) 0 ls []) : Ct l G Y B Z args Φ := by
  refine Met.ofW (cc := Y.2.1) (maxL := Y.2.2.1) (ret := Y.2.2.2) hy rfl ?_
  intro p e s m args' below meth c s₁ Bd hml hv
  obtain ⟨rfl, hR, hK, hB⟩ := hv
  have hts := atoms_spec (ws := wsY Y) Bd.pre
  have hnm : meth.name = Y.1.name := (name_of_methodNamed Bd.named Bd.method).1
  have hl0 := lv_entry args (n := Y.2.2.1) hl
  rw [lg_entry_eq]
  exact body (p, e, rmB B, s, m, args.toArray, below, meth, c) ⟨Bd.exec, Bd.bytes, hml, Bd.returns, findClass_of_methodNamed Bd.named, fun w hw => hts w (List.mem_cons_of_mem _ hw), Bd.notSynchronized, hK, hB, rfl, hnm⟩ s.heap [] _ hR va_S.rf (by rw [he]; exact hl0)
end
section
section QR
variable {l : Launch} {G : Gt} {Y : Yt} {B : Bt} {M : Mt} {Z : Zt} {cells slots : Nat} {Q : State → Prop} {pc : Nat} {ls : List (Option Value)} {st : List Value}
theorem q_iconst {n : Int} {v : Int32} (hd : decode Y.2.1 pc = .ok (.iconst n, 1)) (hv : Int32.ofInt n = v) (k : Jd l G Y B M Z cells slots Q (pc + 1) ls (.int v :: st)) : Jd l G Y B M Z cells slots Q (pc) ls (st) := fun C H locs A hR hS hA => lv_iconst C.1 C.2.1 hd hv (k C H locs A hR hS hA)
theorem q_bipush {n : Int} {v : Int32} (hd : decode Y.2.1 pc = .ok (.bipush n, 2)) (hv : (Int8.ofInt n).toInt32 = v) (k : Jd l G Y B M Z cells slots Q (pc + 2) ls (.int v :: st)) : Jd l G Y B M Z cells slots Q (pc) ls (st) := fun C H locs A hR hS hA => lv_bipush C.1 C.2.1 hd hv (k C H locs A hR hS hA)
theorem q_sipush {n : Int} {v : Int32} (hd : decode Y.2.1 pc = .ok (.sipush n, 3)) (hv : (Int16.ofInt n).toInt32 = v) (k : Jd l G Y B M Z cells slots Q (pc + 3) ls (.int v :: st)) : Jd l G Y B M Z cells slots Q (pc) ls (st) := fun C H locs A hR hS hA => lv_sipush C.1 C.2.1 hd hv (k C H locs A hR hS hA)
theorem q_lconst {n : Fin 2} {v : Int64} (hd : decode Y.2.1 pc = .ok (.lconst n, 1)) (hv : Int64.ofNat (n : Nat) = v) (k : Jd l G Y B M Z cells slots Q (pc + 1) ls (.long v :: st)) : Jd l G Y B M Z cells slots Q (pc) ls (st) := fun C H locs A hR hS hA => lv_lconst C.1 C.2.1 hd hv (k C H locs A hR hS hA)
theorem q_aconst_null  (hd : decode Y.2.1 pc = .ok (.aconst_null, 1))  (k : Jd l G Y B M Z cells slots Q (pc + 1) ls (.null :: st)) : Jd l G Y B M Z cells slots Q (pc) ls (st) := fun C H locs A hR hS hA => lv_null C.1 C.2.1 hd  (k C H locs A hR hS hA)
theorem q_iload_n {k : Fin 4} {x : Int32} (hd : decode Y.2.1 pc = .ok (.iload_n k, 1)) (hl : ls[(k : Nat)]? = some (some (.int x))) (k : Jd l G Y B M Z cells slots Q (pc + 1) ls (.int x :: st)) : Jd l G Y B M Z cells slots Q (pc) ls (st) := fun C H locs A hR hS hA => lv_iload_n C.1 C.2.1 hd rfl (aL_get hA hl) (k C H locs A hR hS hA)
theorem q_iload {i : Nat} {x : Int32} (hd : decode Y.2.1 pc = .ok (.iload i, 2)) (hl : ls[i]? = some (some (.int x))) (k : Jd l G Y B M Z cells slots Q (pc + 2) ls (.int x :: st)) : Jd l G Y B M Z cells slots Q (pc) ls (st) := fun C H locs A hR hS hA => lv_iload C.1 C.2.1 hd (aL_get hA hl) (k C H locs A hR hS hA)
theorem q_lload_n {k : Fin 4} {x : Int64} (hd : decode Y.2.1 pc = .ok (.lload_n k, 1)) (hl : ls[(k : Nat)]? = some (some (.long x))) (k : Jd l G Y B M Z cells slots Q (pc + 1) ls (.long x :: st)) : Jd l G Y B M Z cells slots Q (pc) ls (st) := fun C H locs A hR hS hA => lv_lload_n C.1 C.2.1 hd rfl (aL_get hA hl) (k C H locs A hR hS hA)
theorem q_lload {i : Nat} {x : Int64} (hd : decode Y.2.1 pc = .ok (.lload i, 2)) (hl : ls[i]? = some (some (.long x))) (k : Jd l G Y B M Z cells slots Q (pc + 2) ls (.long x :: st)) : Jd l G Y B M Z cells slots Q (pc) ls (st) := fun C H locs A hR hS hA => lv_lload C.1 C.2.1 hd (aL_get hA hl) (k C H locs A hR hS hA)
theorem q_aload_n {k : Fin 4} {x : Nat} (hd : decode Y.2.1 pc = .ok (.aload_n k, 1)) (hl : ls[(k : Nat)]? = some (some (.ref x))) (k : Jd l G Y B M Z cells slots Q (pc + 1) ls (.ref x :: st)) : Jd l G Y B M Z cells slots Q (pc) ls (st) := fun C H locs A hR hS hA => lv_aload_n C.1 C.2.1 hd rfl (aL_get hA hl) (k C H locs A hR hS hA)
theorem q_aload {i : Nat} {x : Nat} (hd : decode Y.2.1 pc = .ok (.aload i, 2)) (hl : ls[i]? = some (some (.ref x))) (k : Jd l G Y B M Z cells slots Q (pc + 2) ls (.ref x :: st)) : Jd l G Y B M Z cells slots Q (pc) ls (st) := fun C H locs A hR hS hA => lv_aload C.1 C.2.1 hd (aL_get hA hl) (k C H locs A hR hS hA)
theorem q_aload_nN {k : Fin 4} (hd : decode Y.2.1 pc = .ok (.aload_n k, 1)) (hl : ls[(k : Nat)]? = some (some .null)) (k : Jd l G Y B M Z cells slots Q (pc + 1) ls (.null :: st)) : Jd l G Y B M Z cells slots Q (pc) ls (st) := fun C H locs A hR hS hA => lv_aload_nN C.1 C.2.1 hd rfl (aL_get hA hl) (k C H locs A hR hS hA)
theorem q_aloadN {i : Nat} (hd : decode Y.2.1 pc = .ok (.aload i, 2)) (hl : ls[i]? = some (some .null)) (k : Jd l G Y B M Z cells slots Q (pc + 2) ls (.null :: st)) : Jd l G Y B M Z cells slots Q (pc) ls (st) := fun C H locs A hR hS hA => lv_aloadN C.1 C.2.1 hd (aL_get hA hl) (k C H locs A hR hS hA)
theorem q_iadd {x y : Int32} (hd : decode Y.2.1 pc = .ok (.iadd, 1))  (k : Jd l G Y B M Z cells slots Q (pc + 1) ls (.int (x + y) :: st)) : Jd l G Y B M Z cells slots Q (pc) ls (.int y :: .int x :: st) := fun C H locs A hR hS hA => lv_iadd C.1 C.2.1 hd  (k C H locs A hR hS hA)
theorem q_isub {x y : Int32} (hd : decode Y.2.1 pc = .ok (.isub, 1))  (k : Jd l G Y B M Z cells slots Q (pc + 1) ls (.int (x - y) :: st)) : Jd l G Y B M Z cells slots Q (pc) ls (.int y :: .int x :: st) := fun C H locs A hR hS hA => lv_isub C.1 C.2.1 hd  (k C H locs A hR hS hA)
theorem q_imul {x y : Int32} (hd : decode Y.2.1 pc = .ok (.imul, 1))  (k : Jd l G Y B M Z cells slots Q (pc + 1) ls (.int (x * y) :: st)) : Jd l G Y B M Z cells slots Q (pc) ls (.int y :: .int x :: st) := fun C H locs A hR hS hA => lv_imul C.1 C.2.1 hd  (k C H locs A hR hS hA)
theorem q_iand {x y : Int32} (hd : decode Y.2.1 pc = .ok (.iand, 1))  (k : Jd l G Y B M Z cells slots Q (pc + 1) ls (.int (x &&& y) :: st)) : Jd l G Y B M Z cells slots Q (pc) ls (.int y :: .int x :: st) := fun C H locs A hR hS hA => lv_iand C.1 C.2.1 hd  (k C H locs A hR hS hA)
theorem q_irem {x y : Int32} (hd : decode Y.2.1 pc = .ok (.irem, 1)) (hne : ¬ y = 0) (k : Jd l G Y B M Z cells slots Q (pc + 1) ls (.int (x - x / y * y) :: st)) : Jd l G Y B M Z cells slots Q (pc) ls (.int y :: .int x :: st) := fun C H locs A hR hS hA => lv_irem C.1 C.2.1 hd hne (k C H locs A hR hS hA)
theorem q_idiv {x y : Int32} (hd : decode Y.2.1 pc = .ok (.idiv, 1)) (hne : ¬ y = 0) (k : Jd l G Y B M Z cells slots Q (pc + 1) ls (.int (x / y) :: st)) : Jd l G Y B M Z cells slots Q (pc) ls (.int y :: .int x :: st) := fun C H locs A hR hS hA => lv_idiv C.1 C.2.1 hd hne (k C H locs A hR hS hA)
theorem q_ineg {x : Int32} (hd : decode Y.2.1 pc = .ok (.ineg, 1))  (k : Jd l G Y B M Z cells slots Q (pc + 1) ls (.int (-x) :: st)) : Jd l G Y B M Z cells slots Q (pc) ls (.int x :: st) := fun C H locs A hR hS hA => lv_ineg C.1 C.2.1 hd  (k C H locs A hR hS hA)
theorem q_ladd {x y : Int64} (hd : decode Y.2.1 pc = .ok (.ladd, 1))  (k : Jd l G Y B M Z cells slots Q (pc + 1) ls (.long (x + y) :: st)) : Jd l G Y B M Z cells slots Q (pc) ls (.long y :: .long x :: st) := fun C H locs A hR hS hA => lv_ladd C.1 C.2.1 hd  (k C H locs A hR hS hA)
theorem q_lsub {x y : Int64} (hd : decode Y.2.1 pc = .ok (.lsub, 1))  (k : Jd l G Y B M Z cells slots Q (pc + 1) ls (.long (x - y) :: st)) : Jd l G Y B M Z cells slots Q (pc) ls (.long y :: .long x :: st) := fun C H locs A hR hS hA => lv_lsub C.1 C.2.1 hd  (k C H locs A hR hS hA)
theorem q_lmul {x y : Int64} (hd : decode Y.2.1 pc = .ok (.lmul, 1))  (k : Jd l G Y B M Z cells slots Q (pc + 1) ls (.long (x * y) :: st)) : Jd l G Y B M Z cells slots Q (pc) ls (.long y :: .long x :: st) := fun C H locs A hR hS hA => lv_lmul C.1 C.2.1 hd  (k C H locs A hR hS hA)
theorem q_land {x y : Int64} (hd : decode Y.2.1 pc = .ok (.land, 1))  (k : Jd l G Y B M Z cells slots Q (pc + 1) ls (.long (x &&& y) :: st)) : Jd l G Y B M Z cells slots Q (pc) ls (.long y :: .long x :: st) := fun C H locs A hR hS hA => lv_land C.1 C.2.1 hd  (k C H locs A hR hS hA)
theorem q_lor {x y : Int64} (hd : decode Y.2.1 pc = .ok (.lor, 1))  (k : Jd l G Y B M Z cells slots Q (pc + 1) ls (.long (x ||| y) :: st)) : Jd l G Y B M Z cells slots Q (pc) ls (.long y :: .long x :: st) := fun C H locs A hR hS hA => lv_lor C.1 C.2.1 hd  (k C H locs A hR hS hA)
theorem q_lxor {x y : Int64} (hd : decode Y.2.1 pc = .ok (.lxor, 1))  (k : Jd l G Y B M Z cells slots Q (pc + 1) ls (.long (x ^^^ y) :: st)) : Jd l G Y B M Z cells slots Q (pc) ls (.long y :: .long x :: st) := fun C H locs A hR hS hA => lv_lxor C.1 C.2.1 hd  (k C H locs A hR hS hA)
theorem q_ldiv {x y : Int64} (hd : decode Y.2.1 pc = .ok (.ldiv, 1)) (hne : ¬ y = 0) (k : Jd l G Y B M Z cells slots Q (pc + 1) ls (.long (x / y) :: st)) : Jd l G Y B M Z cells slots Q (pc) ls (.long y :: .long x :: st) := fun C H locs A hR hS hA => lv_ldiv C.1 C.2.1 hd hne (k C H locs A hR hS hA)
theorem q_lrem {x y : Int64} (hd : decode Y.2.1 pc = .ok (.lrem, 1)) (hne : ¬ y = 0) (k : Jd l G Y B M Z cells slots Q (pc + 1) ls (.long (x - x / y * y) :: st)) : Jd l G Y B M Z cells slots Q (pc) ls (.long y :: .long x :: st) := fun C H locs A hR hS hA => lv_lrem C.1 C.2.1 hd hne (k C H locs A hR hS hA)
theorem q_lneg {x : Int64} (hd : decode Y.2.1 pc = .ok (.lneg, 1))  (k : Jd l G Y B M Z cells slots Q (pc + 1) ls (.long (-x) :: st)) : Jd l G Y B M Z cells slots Q (pc) ls (.long x :: st) := fun C H locs A hR hS hA => lv_lneg C.1 C.2.1 hd  (k C H locs A hR hS hA)
theorem q_lshl {x : Int64} {y : Int32} (hd : decode Y.2.1 pc = .ok (.lshl, 1))  (k : Jd l G Y B M Z cells slots Q (pc + 1) ls (.long (x <<< (y.toInt64 &&& 63)) :: st)) : Jd l G Y B M Z cells slots Q (pc) ls (.int y :: .long x :: st) := fun C H locs A hR hS hA => lv_lshl C.1 C.2.1 hd rfl (k C H locs A hR hS hA)
theorem q_lushr {x : Int64} {y : Int32} (hd : decode Y.2.1 pc = .ok (.lushr, 1))  (k : Jd l G Y B M Z cells slots Q (pc + 1) ls (.long ((x.toUInt64 >>> (y.toInt64.toUInt64 &&& Int64.toUInt64 63)).toInt64) :: st)) : Jd l G Y B M Z cells slots Q (pc) ls (.int y :: .long x :: st) := fun C H locs A hR hS hA => lv_lushr C.1 C.2.1 hd rfl (k C H locs A hR hS hA)
theorem q_i2l {x : Int32} (hd : decode Y.2.1 pc = .ok (.i2l, 1))  (k : Jd l G Y B M Z cells slots Q (pc + 1) ls (.long x.toInt64 :: st)) : Jd l G Y B M Z cells slots Q (pc) ls (.int x :: st) := fun C H locs A hR hS hA => lv_i2l C.1 C.2.1 hd rfl (k C H locs A hR hS hA)
theorem q_l2i {x : Int64} (hd : decode Y.2.1 pc = .ok (.l2i, 1))  (k : Jd l G Y B M Z cells slots Q (pc + 1) ls (.int x.toInt32 :: st)) : Jd l G Y B M Z cells slots Q (pc) ls (.long x :: st) := fun C H locs A hR hS hA => lv_l2i C.1 C.2.1 hd rfl (k C H locs A hR hS hA)
theorem q_dup {va : Value} (hd : decode Y.2.1 pc = .ok (.dup, 1)) (hva : va.category = 1) (k : Jd l G Y B M Z cells slots Q (pc + 1) ls (va :: va :: st)) : Jd l G Y B M Z cells slots Q (pc) ls (va :: st) := fun C H locs A hR hS hA => lv_dup C.1 C.2.1 hd hva (k C H locs A hR hS hA)
theorem q_pop {va : Value} (hd : decode Y.2.1 pc = .ok (.pop, 1)) (hva : va.category = 1) (k : Jd l G Y B M Z cells slots Q (pc + 1) ls (st)) : Jd l G Y B M Z cells slots Q (pc) ls (va :: st) := fun C H locs A hR hS hA => lv_pop C.1 C.2.1 hd hva (k C H locs A hR hS hA)
theorem q_dup_x1 {va vb : Value} (hd : decode Y.2.1 pc = .ok (.dup_x1, 1)) (hva : va.category = 1) (hvb : vb.category = 1) (k : Jd l G Y B M Z cells slots Q (pc + 1) ls (va :: vb :: va :: st)) : Jd l G Y B M Z cells slots Q (pc) ls (va :: vb :: st) := fun C H locs A hR hS hA => lv_dup_x1 C.1 C.2.1 hd hva hvb (k C H locs A hR hS hA)
theorem q_dup2_11 {va vb : Value} (hd : decode Y.2.1 pc = .ok (.dup2, 1)) (hva : va.category = 1) (hvb : vb.category = 1) (k : Jd l G Y B M Z cells slots Q (pc + 1) ls (va :: vb :: va :: vb :: st)) : Jd l G Y B M Z cells slots Q (pc) ls (va :: vb :: st) := fun C H locs A hR hS hA => lv_dup2_11 C.1 C.2.1 hd hva hvb (k C H locs A hR hS hA)
theorem q_lcmp {x y : Int64} (hd : decode Y.2.1 pc = .ok (.lcmp, 1))  (k : Jd l G Y B M Z cells slots Q (pc + 1) ls (.int (lg_cmp x y) :: st)) : Jd l G Y B M Z cells slots Q (pc) ls (.long y :: .long x :: st) := fun C H locs A hR hS hA => W.lcmp C.1 C.2.1 hd  (k C H locs A hR hS hA)
theorem q_ldc2 {i : Nat} {v : Int64} (hd : decode Y.2.1 pc = .ok (.ldc2_w i, 3)) (hw : Cond.constantLong Y.1.cls i v ∈ WS) (k : Jd l G Y B M Z cells slots Q (pc + 3) ls (.long v :: st)) : Jd l G Y B M Z cells slots Q (pc) ls (st) := fun C H locs A hR hS hA => W.ldc2 C.1 C.2.1 C.2.2.2.2.1 (C.2.2.2.2.2.1 _ hw) rfl hd (k C H locs A hR hS hA)
theorem q_istore_n {k : Fin 4} {x : Int32} {ls' : List (Option Value)} (hd : decode Y.2.1 pc = .ok (.istore_n k, 1)) (hs : ls.set (k : Nat) (some (.int x)) = ls') (hp : okP ls (k : Nat) = true) (hi : (k : Nat) < ls.length) (hn : (k : Nat) + 1 ≤ Y.2.2.1) (k : Jd l G Y B M Z cells slots Q (pc + 1) ls' (st)) : Jd l G Y B M Z cells slots Q (pc) ls (.int x :: st) := fun C H locs A hR hS hA => lv_istore_n C.1 C.2.1 hd rfl hA hn rfl (fun A2 hA2 => k C H locs A2 hR hS (by rw [← hs]; exact lv_le hA2 (aL_set1 hi hp)))
theorem q_istore {i : Nat} {x : Int32} {ls' : List (Option Value)} (hd : decode Y.2.1 pc = .ok (.istore i, 2)) (hs : ls.set i (some (.int x)) = ls') (hp : okP ls i = true) (hi : i < ls.length) (hn : i + 1 ≤ Y.2.2.1) (k : Jd l G Y B M Z cells slots Q (pc + 2) ls' (st)) : Jd l G Y B M Z cells slots Q (pc) ls (.int x :: st) := fun C H locs A hR hS hA => lv_istore C.1 C.2.1 hd  hA hn rfl (fun A2 hA2 => k C H locs A2 hR hS (by rw [← hs]; exact lv_le hA2 (aL_set1 hi hp)))
theorem q_lstore_n {k : Fin 4} {x : Int64} {ls' : List (Option Value)} (hd : decode Y.2.1 pc = .ok (.lstore_n k, 1)) (hs : (ls.set (k : Nat) (some (.long x))).set ((k : Nat) + 1) none = ls') (hp : okP ls (k : Nat) = true) (hi : (k : Nat) < ls.length) (hn : (k : Nat) + 2 ≤ Y.2.2.1) (k : Jd l G Y B M Z cells slots Q (pc + 1) ls' (st)) : Jd l G Y B M Z cells slots Q (pc) ls (.long x :: st) := fun C H locs A hR hS hA => lv_lstore_n C.1 C.2.1 hd rfl hA hn rfl (fun A2 hA2 => k C H locs A2 hR hS (by rw [← hs]; exact lv_le hA2 (aL_set2 hi hp)))
theorem q_lstore {i : Nat} {x : Int64} {ls' : List (Option Value)} (hd : decode Y.2.1 pc = .ok (.lstore i, 2)) (hs : (ls.set i (some (.long x))).set (i + 1) none = ls') (hp : okP ls i = true) (hi : i < ls.length) (hn : i + 2 ≤ Y.2.2.1) (k : Jd l G Y B M Z cells slots Q (pc + 2) ls' (st)) : Jd l G Y B M Z cells slots Q (pc) ls (.long x :: st) := fun C H locs A hR hS hA => lv_lstore C.1 C.2.1 hd  hA hn rfl (fun A2 hA2 => k C H locs A2 hR hS (by rw [← hs]; exact lv_le hA2 (aL_set2 hi hp)))
theorem q_astore_n {k : Fin 4} {x : Nat} {ls' : List (Option Value)} (hd : decode Y.2.1 pc = .ok (.astore_n k, 1)) (hs : ls.set (k : Nat) (some (.ref x)) = ls') (hp : okP ls (k : Nat) = true) (hi : (k : Nat) < ls.length) (hn : (k : Nat) + 1 ≤ Y.2.2.1) (k : Jd l G Y B M Z cells slots Q (pc + 1) ls' (st)) : Jd l G Y B M Z cells slots Q (pc) ls (.ref x :: st) := fun C H locs A hR hS hA => lv_astore_n C.1 C.2.1 hd rfl hA hn rfl (fun A2 hA2 => k C H locs A2 hR hS (by rw [← hs]; exact lv_le hA2 (aL_set1 hi hp)))
theorem q_astore {i : Nat} {x : Nat} {ls' : List (Option Value)} (hd : decode Y.2.1 pc = .ok (.astore i, 2)) (hs : ls.set i (some (.ref x)) = ls') (hp : okP ls i = true) (hi : i < ls.length) (hn : i + 1 ≤ Y.2.2.1) (k : Jd l G Y B M Z cells slots Q (pc + 2) ls' (st)) : Jd l G Y B M Z cells slots Q (pc) ls (.ref x :: st) := fun C H locs A hR hS hA => lv_astore C.1 C.2.1 hd  hA hn rfl (fun A2 hA2 => k C H locs A2 hR hS (by rw [← hs]; exact lv_le hA2 (aL_set1 hi hp)))
theorem q_astore_nN {k : Fin 4} {ls' : List (Option Value)} (hd : decode Y.2.1 pc = .ok (.astore_n k, 1)) (hs : ls.set (k : Nat) (some (.null)) = ls') (hp : okP ls (k : Nat) = true) (hi : (k : Nat) < ls.length) (hn : (k : Nat) + 1 ≤ Y.2.2.1) (k : Jd l G Y B M Z cells slots Q (pc + 1) ls' (st)) : Jd l G Y B M Z cells slots Q (pc) ls (.null :: st) := fun C H locs A hR hS hA => lv_astore_nN C.1 C.2.1 hd rfl hA hn rfl (fun A2 hA2 => k C H locs A2 hR hS (by rw [← hs]; exact lv_le hA2 (aL_set1 hi hp)))
theorem q_astoreN {i : Nat} {ls' : List (Option Value)} (hd : decode Y.2.1 pc = .ok (.astore i, 2)) (hs : ls.set i (some (.null)) = ls') (hp : okP ls i = true) (hi : i < ls.length) (hn : i + 1 ≤ Y.2.2.1) (k : Jd l G Y B M Z cells slots Q (pc + 2) ls' (st)) : Jd l G Y B M Z cells slots Q (pc) ls (.null :: st) := fun C H locs A hR hS hA => lv_astoreN C.1 C.2.1 hd  hA hn rfl (fun A2 hA2 => k C H locs A2 hR hS (by rw [← hs]; exact lv_le hA2 (aL_set1 hi hp)))
theorem aL_at {A : List (Option Value)} {i : Nat} {v : Value} (h : A[i]? = some (some v)) : ∃ k : Nat, (aL 0 A)[k]? = some (i, v) := List.getElem?_of_mem ((aL_mem 0 (i, v)).mpr ⟨Nat.zero_le _, h⟩)
theorem q_iinc {i : Nat} {n : Int} {x : Int32} (c0 : Int32) {ls' : List (Option Value)} (hd : decode Y.2.1 pc = .ok (.iinc i n, 3)) (hx : ls[i]? = some (some (.int x))) (hc : Int32.ofInt n = c0) (hs : ls.set i (some (.int (x + c0))) = ls') (hp : okP ls i = true) (hi : i < ls.length) (hn : i + 1 ≤ Y.2.2.1) (k : Jd l G Y B M Z cells slots Q (pc + 3) ls' (st)) : Jd l G Y B M Z cells slots Q (pc) ls (st) := fun C H locs A hR hS hA => by
  obtain ⟨k0, hk0⟩ := aL_at hx
  exact lv_iinc C.1 C.2.1 hd hA hk0 (by rw [hc]) hn rfl (fun A2 hA2 => k C H locs A2 hR hS (by rw [← hs]; exact lv_le hA2 (aL_set1 hi hp)))
theorem q_if_eq {x : Int32} {off : Int} (tgt : Nat) (hd : decode Y.2.1 pc = .ok (.ifCond .eq off, 3)) (ht : (pc : Int) + off = (tgt : Int)) (kt : x = 0 → Jd l G Y B M Z cells slots Q (tgt) ls (st)) (kf : ¬ x = 0 → Jd l G Y B M Z cells slots Q (pc + 3) ls (st)) : Jd l G Y B M Z cells slots Q (pc) ls (.int x :: st) := fun C H locs A hR hS hA => lv_if_eq C.1 C.2.1 hd ht (fun z => kt z C H locs A hR hS hA) (fun z => kf z C H locs A hR hS hA)
theorem q_icmp_eq {x y : Int32} {off : Int} (tgt : Nat) (hd : decode Y.2.1 pc = .ok (.if_icmp .eq off, 3)) (ht : (pc : Int) + off = (tgt : Int)) (kt : x = y → Jd l G Y B M Z cells slots Q (tgt) ls (st)) (kf : ¬ x = y → Jd l G Y B M Z cells slots Q (pc + 3) ls (st)) : Jd l G Y B M Z cells slots Q (pc) ls (.int y :: .int x :: st) := fun C H locs A hR hS hA => lv_icmp_eq C.1 C.2.1 hd ht (fun z => kt z C H locs A hR hS hA) (fun z => kf z C H locs A hR hS hA)
theorem q_if_ne {x : Int32} {off : Int} (tgt : Nat) (hd : decode Y.2.1 pc = .ok (.ifCond .ne off, 3)) (ht : (pc : Int) + off = (tgt : Int)) (kt : ¬ x = 0 → Jd l G Y B M Z cells slots Q (tgt) ls (st)) (kf : x = 0 → Jd l G Y B M Z cells slots Q (pc + 3) ls (st)) : Jd l G Y B M Z cells slots Q (pc) ls (.int x :: st) := fun C H locs A hR hS hA => lv_if_ne C.1 C.2.1 hd ht (fun z => kt z C H locs A hR hS hA) (fun z => kf z C H locs A hR hS hA)
theorem q_icmp_ne {x y : Int32} {off : Int} (tgt : Nat) (hd : decode Y.2.1 pc = .ok (.if_icmp .ne off, 3)) (ht : (pc : Int) + off = (tgt : Int)) (kt : ¬ x = y → Jd l G Y B M Z cells slots Q (tgt) ls (st)) (kf : x = y → Jd l G Y B M Z cells slots Q (pc + 3) ls (st)) : Jd l G Y B M Z cells slots Q (pc) ls (.int y :: .int x :: st) := fun C H locs A hR hS hA => lv_icmp_ne C.1 C.2.1 hd ht (fun z => kt z C H locs A hR hS hA) (fun z => kf z C H locs A hR hS hA)
theorem q_if_lt {x : Int32} {off : Int} (tgt : Nat) (hd : decode Y.2.1 pc = .ok (.ifCond .lt off, 3)) (ht : (pc : Int) + off = (tgt : Int)) (kt : x < 0 → Jd l G Y B M Z cells slots Q (tgt) ls (st)) (kf : ¬ x < 0 → Jd l G Y B M Z cells slots Q (pc + 3) ls (st)) : Jd l G Y B M Z cells slots Q (pc) ls (.int x :: st) := fun C H locs A hR hS hA => lv_if_lt C.1 C.2.1 hd ht (fun z => kt z C H locs A hR hS hA) (fun z => kf z C H locs A hR hS hA)
theorem q_icmp_lt {x y : Int32} {off : Int} (tgt : Nat) (hd : decode Y.2.1 pc = .ok (.if_icmp .lt off, 3)) (ht : (pc : Int) + off = (tgt : Int)) (kt : x < y → Jd l G Y B M Z cells slots Q (tgt) ls (st)) (kf : ¬ x < y → Jd l G Y B M Z cells slots Q (pc + 3) ls (st)) : Jd l G Y B M Z cells slots Q (pc) ls (.int y :: .int x :: st) := fun C H locs A hR hS hA => lv_icmp_lt C.1 C.2.1 hd ht (fun z => kt z C H locs A hR hS hA) (fun z => kf z C H locs A hR hS hA)
theorem q_if_ge {x : Int32} {off : Int} (tgt : Nat) (hd : decode Y.2.1 pc = .ok (.ifCond .ge off, 3)) (ht : (pc : Int) + off = (tgt : Int)) (kt : 0 ≤ x → Jd l G Y B M Z cells slots Q (tgt) ls (st)) (kf : ¬ 0 ≤ x → Jd l G Y B M Z cells slots Q (pc + 3) ls (st)) : Jd l G Y B M Z cells slots Q (pc) ls (.int x :: st) := fun C H locs A hR hS hA => lv_if_ge C.1 C.2.1 hd ht (fun z => kt z C H locs A hR hS hA) (fun z => kf z C H locs A hR hS hA)
theorem q_icmp_ge {x y : Int32} {off : Int} (tgt : Nat) (hd : decode Y.2.1 pc = .ok (.if_icmp .ge off, 3)) (ht : (pc : Int) + off = (tgt : Int)) (kt : y ≤ x → Jd l G Y B M Z cells slots Q (tgt) ls (st)) (kf : ¬ y ≤ x → Jd l G Y B M Z cells slots Q (pc + 3) ls (st)) : Jd l G Y B M Z cells slots Q (pc) ls (.int y :: .int x :: st) := fun C H locs A hR hS hA => lv_icmp_ge C.1 C.2.1 hd ht (fun z => kt z C H locs A hR hS hA) (fun z => kf z C H locs A hR hS hA)
theorem q_if_gt {x : Int32} {off : Int} (tgt : Nat) (hd : decode Y.2.1 pc = .ok (.ifCond .gt off, 3)) (ht : (pc : Int) + off = (tgt : Int)) (kt : 0 < x → Jd l G Y B M Z cells slots Q (tgt) ls (st)) (kf : ¬ 0 < x → Jd l G Y B M Z cells slots Q (pc + 3) ls (st)) : Jd l G Y B M Z cells slots Q (pc) ls (.int x :: st) := fun C H locs A hR hS hA => lv_if_gt C.1 C.2.1 hd ht (fun z => kt z C H locs A hR hS hA) (fun z => kf z C H locs A hR hS hA)
theorem q_icmp_gt {x y : Int32} {off : Int} (tgt : Nat) (hd : decode Y.2.1 pc = .ok (.if_icmp .gt off, 3)) (ht : (pc : Int) + off = (tgt : Int)) (kt : y < x → Jd l G Y B M Z cells slots Q (tgt) ls (st)) (kf : ¬ y < x → Jd l G Y B M Z cells slots Q (pc + 3) ls (st)) : Jd l G Y B M Z cells slots Q (pc) ls (.int y :: .int x :: st) := fun C H locs A hR hS hA => lv_icmp_gt C.1 C.2.1 hd ht (fun z => kt z C H locs A hR hS hA) (fun z => kf z C H locs A hR hS hA)
theorem q_if_le {x : Int32} {off : Int} (tgt : Nat) (hd : decode Y.2.1 pc = .ok (.ifCond .le off, 3)) (ht : (pc : Int) + off = (tgt : Int)) (kt : x ≤ 0 → Jd l G Y B M Z cells slots Q (tgt) ls (st)) (kf : ¬ x ≤ 0 → Jd l G Y B M Z cells slots Q (pc + 3) ls (st)) : Jd l G Y B M Z cells slots Q (pc) ls (.int x :: st) := fun C H locs A hR hS hA => lv_if_le C.1 C.2.1 hd ht (fun z => kt z C H locs A hR hS hA) (fun z => kf z C H locs A hR hS hA)
theorem q_icmp_le {x y : Int32} {off : Int} (tgt : Nat) (hd : decode Y.2.1 pc = .ok (.if_icmp .le off, 3)) (ht : (pc : Int) + off = (tgt : Int)) (kt : x ≤ y → Jd l G Y B M Z cells slots Q (tgt) ls (st)) (kf : ¬ x ≤ y → Jd l G Y B M Z cells slots Q (pc + 3) ls (st)) : Jd l G Y B M Z cells slots Q (pc) ls (.int y :: .int x :: st) := fun C H locs A hR hS hA => lv_icmp_le C.1 C.2.1 hd ht (fun z => kt z C H locs A hR hS hA) (fun z => kf z C H locs A hR hS hA)
theorem lg_iffs (x y : Int64) : (lg_cmp x y = 0 ↔ x = y) ∧ (lg_cmp x y < 0 ↔ x < y) ∧ (0 ≤ lg_cmp x y ↔ y ≤ x) ∧ (0 < lg_cmp x y ↔ y < x) ∧ (lg_cmp x y ≤ 0 ↔ x ≤ y) := by
  unfold lg_cmp
  by_cases h1 : x > y
  · rw [if_pos h1]
    have h2 : y.toInt < x.toInt := Int64.lt_iff_toInt_lt.mp h1
    refine ⟨⟨fun h => absurd h (by decide), fun h => by subst h; omega⟩, ⟨fun h => absurd h (by decide), fun h => by have := Int64.lt_iff_toInt_lt.mp h; omega⟩, ⟨fun _ => Int64.le_iff_toInt_le.mpr (by omega), fun _ => by decide⟩, ⟨fun _ => h1, fun _ => by decide⟩, ⟨fun h => absurd h (by decide), fun h => by have := Int64.le_iff_toInt_le.mp h; omega⟩⟩
  · rw [if_neg h1]
    have h2 : ¬ y.toInt < x.toInt := fun h => h1 (Int64.lt_iff_toInt_lt.mpr h)
    by_cases h3 : x = y
    · subst h3
      rw [if_pos rfl]
      refine ⟨⟨fun _ => rfl, fun _ => rfl⟩, ⟨fun h => absurd h (by decide), fun h => absurd h h1⟩, ⟨fun _ => Int64.le_iff_toInt_le.mpr (Int.le_refl _), fun _ => by decide⟩, ⟨fun h => absurd h (by decide), fun h => absurd h h1⟩, ⟨fun _ => Int64.le_iff_toInt_le.mpr (Int.le_refl _), fun _ => by decide⟩⟩
    · rw [if_neg h3]
      have h4 : x.toInt ≠ y.toInt := fun h => h3 (Int64.toInt_inj.mp h)
      refine ⟨⟨fun h => absurd h (by decide), fun h => absurd h h3⟩, ⟨fun _ => Int64.lt_iff_toInt_lt.mpr (by omega), fun _ => by decide⟩, ⟨fun h => absurd h (by decide), fun h => by have := Int64.le_iff_toInt_le.mp h; omega⟩, ⟨fun h => absurd h (by decide), fun h => absurd h h1⟩, ⟨fun _ => Int64.le_iff_toInt_le.mpr (by omega), fun _ => by decide⟩⟩
theorem q_lcmp_eq {x y : Int64} {off : Int} (tgt : Nat) (hd : decode Y.2.1 pc = .ok (.lcmp, 1)) (hd2 : decode Y.2.1 (pc + 1) = .ok (.ifCond .eq off, 3)) (ht : ((pc + 1 : Nat) : Int) + off = (tgt : Int)) (kt : x = y → Jd l G Y B M Z cells slots Q (tgt) ls (st)) (kf : ¬ x = y → Jd l G Y B M Z cells slots Q (pc + 1 + 3) ls (st)) : Jd l G Y B M Z cells slots Q (pc) ls (.long y :: .long x :: st) := q_lcmp hd (q_if_eq tgt hd2 ht (fun z => kt ((lg_iffs x y).1.mp z)) (fun z => kf (fun e => z ((lg_iffs x y).1.mpr e))))
theorem q_lcmp_ne {x y : Int64} {off : Int} (tgt : Nat) (hd : decode Y.2.1 pc = .ok (.lcmp, 1)) (hd2 : decode Y.2.1 (pc + 1) = .ok (.ifCond .ne off, 3)) (ht : ((pc + 1 : Nat) : Int) + off = (tgt : Int)) (kt : ¬ x = y → Jd l G Y B M Z cells slots Q (tgt) ls (st)) (kf : x = y → Jd l G Y B M Z cells slots Q (pc + 1 + 3) ls (st)) : Jd l G Y B M Z cells slots Q (pc) ls (.long y :: .long x :: st) := q_lcmp hd (q_if_ne tgt hd2 ht (fun z => kt (fun e => z ((lg_iffs x y).1.mpr e))) (fun z => kf ((lg_iffs x y).1.mp z)))
theorem q_lcmp_lt {x y : Int64} {off : Int} (tgt : Nat) (hd : decode Y.2.1 pc = .ok (.lcmp, 1)) (hd2 : decode Y.2.1 (pc + 1) = .ok (.ifCond .lt off, 3)) (ht : ((pc + 1 : Nat) : Int) + off = (tgt : Int)) (kt : x < y → Jd l G Y B M Z cells slots Q (tgt) ls (st)) (kf : ¬ x < y → Jd l G Y B M Z cells slots Q (pc + 1 + 3) ls (st)) : Jd l G Y B M Z cells slots Q (pc) ls (.long y :: .long x :: st) := q_lcmp hd (q_if_lt tgt hd2 ht (fun z => kt ((lg_iffs x y).2.1.mp z)) (fun z => kf (fun e => z ((lg_iffs x y).2.1.mpr e))))
theorem q_lcmp_ge {x y : Int64} {off : Int} (tgt : Nat) (hd : decode Y.2.1 pc = .ok (.lcmp, 1)) (hd2 : decode Y.2.1 (pc + 1) = .ok (.ifCond .ge off, 3)) (ht : ((pc + 1 : Nat) : Int) + off = (tgt : Int)) (kt : y ≤ x → Jd l G Y B M Z cells slots Q (tgt) ls (st)) (kf : ¬ y ≤ x → Jd l G Y B M Z cells slots Q (pc + 1 + 3) ls (st)) : Jd l G Y B M Z cells slots Q (pc) ls (.long y :: .long x :: st) := q_lcmp hd (q_if_ge tgt hd2 ht (fun z => kt ((lg_iffs x y).2.2.1.mp z)) (fun z => kf (fun e => z ((lg_iffs x y).2.2.1.mpr e))))
theorem q_lcmp_gt {x y : Int64} {off : Int} (tgt : Nat) (hd : decode Y.2.1 pc = .ok (.lcmp, 1)) (hd2 : decode Y.2.1 (pc + 1) = .ok (.ifCond .gt off, 3)) (ht : ((pc + 1 : Nat) : Int) + off = (tgt : Int)) (kt : y < x → Jd l G Y B M Z cells slots Q (tgt) ls (st)) (kf : ¬ y < x → Jd l G Y B M Z cells slots Q (pc + 1 + 3) ls (st)) : Jd l G Y B M Z cells slots Q (pc) ls (.long y :: .long x :: st) := q_lcmp hd (q_if_gt tgt hd2 ht (fun z => kt ((lg_iffs x y).2.2.2.1.mp z)) (fun z => kf (fun e => z ((lg_iffs x y).2.2.2.1.mpr e))))
theorem q_lcmp_le {x y : Int64} {off : Int} (tgt : Nat) (hd : decode Y.2.1 pc = .ok (.lcmp, 1)) (hd2 : decode Y.2.1 (pc + 1) = .ok (.ifCond .le off, 3)) (ht : ((pc + 1 : Nat) : Int) + off = (tgt : Int)) (kt : x ≤ y → Jd l G Y B M Z cells slots Q (tgt) ls (st)) (kf : ¬ x ≤ y → Jd l G Y B M Z cells slots Q (pc + 1 + 3) ls (st)) : Jd l G Y B M Z cells slots Q (pc) ls (.long y :: .long x :: st) := q_lcmp hd (q_if_le tgt hd2 ht (fun z => kt ((lg_iffs x y).2.2.2.2.mp z)) (fun z => kf (fun e => z ((lg_iffs x y).2.2.2.2.mpr e))))
theorem q_goto {off : Int} (tgt : Nat) (hd : decode Y.2.1 pc = .ok (.goto off, 3)) (ht : (pc : Int) + off = (tgt : Int)) (k : Jd l G Y B M Z cells slots Q (tgt) ls (st)) : Jd l G Y B M Z cells slots Q (pc) ls (st) := fun C H locs A hR hS hA => lv_goto C.1 C.2.1 hd ht (k C H locs A hR hS hA)
theorem q_ifnonnull {x : Nat} {off : Int} (tgt : Nat) (hd : decode Y.2.1 pc = .ok (.ifnonnull off, 3)) (ht : (pc : Int) + off = (tgt : Int)) (k : Jd l G Y B M Z cells slots Q (tgt) ls (st)) : Jd l G Y B M Z cells slots Q (pc) ls (.ref x :: st) := fun C H locs A hR hS hA => lv_ifnonnull C.1 C.2.1 hd ht (k C H locs A hR hS hA)
theorem q_ifnonnullN {off : Int} (hd : decode Y.2.1 pc = .ok (.ifnonnull off, 3)) (k : Jd l G Y B M Z cells slots Q (pc + 3) ls (st)) : Jd l G Y B M Z cells slots Q (pc) ls (.null :: st) := fun C H locs A hR hS hA => lv_ifnonnullN C.1 C.2.1 hd (k C H locs A hR hS hA)
theorem q_ifnull {x : Nat} {off : Int} (hd : decode Y.2.1 pc = .ok (.ifnull off, 3)) (k : Jd l G Y B M Z cells slots Q (pc + 3) ls (st)) : Jd l G Y B M Z cells slots Q (pc) ls (.ref x :: st) := fun C H locs A hR hS hA => lv_ifnull C.1 C.2.1 hd (k C H locs A hR hS hA)
theorem q_ifnullN {off : Int} (tgt : Nat) (hd : decode Y.2.1 pc = .ok (.ifnull off, 3)) (ht : (pc : Int) + off = (tgt : Int)) (k : Jd l G Y B M Z cells slots Q (tgt) ls (st)) : Jd l G Y B M Z cells slots Q (pc) ls (.null :: st) := fun C H locs A hR hS hA => lv_ifnullN C.1 C.2.1 hd ht (k C H locs A hR hS hA)
theorem q_lookup {dflt : Int} {ps : Array (Int × Int)} {len : Nat} {x : Int32} {off : Int} (tgt : Nat) (hd : decode Y.2.1 pc = .ok (.lookupswitch dflt ps, len)) (hp : (ps.toList.zip (ps.toList.drop 1)).all (fun (a, next) => a.1 < next.1) = true) (ho : Op.lookupswitch.offset ps.toList dflt x.toInt = off) (ht : (pc : Int) + off = (tgt : Int)) (k : Jd l G Y B M Z cells slots Q (tgt) ls (st)) : Jd l G Y B M Z cells slots Q (pc) ls (.int x :: st) := fun C H locs A hR hS hA => lv_lookup C.1 C.2.1 hd hp ho ht (k C H locs A hR hS hA)
theorem q_tableIn {dflt lo hi : Int} {offs : Array Int} {len : Nat} {x : Int32} {off : Int} (tgt : Nat) (hd : decode Y.2.1 pc = .ok (.tableswitch dflt lo hi offs, len)) (h1 : ¬ x.toInt < lo) (h2 : ¬ hi < x.toInt) (ho : offs[(x.toInt - lo).toNat]? = some off) (ht : (pc : Int) + off = (tgt : Int)) (k : Jd l G Y B M Z cells slots Q (tgt) ls (st)) : Jd l G Y B M Z cells slots Q (pc) ls (.int x :: st) := fun C H locs A hR hS hA => lv_tableIn C.1 C.2.1 hd h1 h2 ho ht (k C H locs A hR hS hA)
theorem q_tableOut {dflt lo hi : Int} {offs : Array Int} {len : Nat} {x : Int32} (tgt : Nat) (hd : decode Y.2.1 pc = .ok (.tableswitch dflt lo hi offs, len)) (h : x.toInt < lo ∨ hi < x.toInt) (ht : (pc : Int) + dflt = (tgt : Int)) (k : Jd l G Y B M Z cells slots Q (tgt) ls (st)) : Jd l G Y B M Z cells slots Q (pc) ls (.int x :: st) := fun C H locs A hR hS hA => lv_tableOut C.1 C.2.1 hd h ht (k C H locs A hR hS hA)
def ΦI (Ψ : Int32 → Zt → Prop) : Option Value → Zt → Prop := fun v Z => ∃ r, v = some (.int r) ∧ Ψ r Z
def ΦL (Ψ : Int64 → Zt → Prop) : Option Value → Zt → Prop := fun v Z => ∃ r, v = some (.long r) ∧ Ψ r Z
def ΦV (Ψ : Zt → Prop) : Option Value → Zt → Prop := fun v Z => v = none ∧ Ψ Z
def ΦA (Ψ : Option Nat → Zt → Prop) : Option Value → Zt → Prop := fun v Z => ∃ r, v = some (va_rf r) ∧ Ψ r Z
theorem q_end {Φ : Option Value → Zt → Prop} {v : Option Value} (h : Φ v Z) {H : Heap} {locs : List Loc} (hR : Rep G Z H) (hS : va_S (fun q => G.2.2.2 ≤ q) M.2.2.2.1.heap H locs) : ∀ t : State, t.heap = H → M.2.2.2.1.WarmedH t.vm → Qc G Φ M.2.2.2.2.2.1 M.2.2.2.1 (.returned v) t := fun t ht _ => ⟨v, Z, rfl, h, by rw [ht]; exact hR, hS.F ht⟩
theorem q_ireturn {Ψ : Int32 → Zt → Prop} {x : Int32} (hd : decode Y.2.1 pc = .ok (.ireturn, 1)) (ht : Y.2.2.2 = some .int) (hc : cells ≤ B.2.1) (hs : slots ≤ B.2.2) (h : Ψ x Z) : Jd l G Y B M Z cells slots (Qm G B M (ΦI Ψ)) (pc) ls ([.int x]) := fun C H locs A hR hS hA => W.widen hc hs (W.iret C.1 C.2.1 (C.2.2.2.1.trans ht) (q_end (show ΦI Ψ (some (.int x)) Z from ⟨x, rfl, h⟩) hR hS) hS.2.2 hd C.2.2.2.2.2.2.1)
theorem q_zreturn {Ψ : Int32 → Zt → Prop} {x : Int32} (hd : decode Y.2.1 pc = .ok (.ireturn, 1)) (ht : Y.2.2.2 = some .boolean) (hn : narrow .boolean (.int x) = .int x) (hc : cells ≤ B.2.1) (hs : slots ≤ B.2.2) (h : Ψ x Z) : Jd l G Y B M Z cells slots (Qm G B M (ΦI Ψ)) (pc) ls ([.int x]) := fun C H locs A hR hS hA => W.widen hc hs (W.zret C.1 C.2.1 (C.2.2.2.1.trans ht) hn (q_end (show ΦI Ψ (some (.int x)) Z from ⟨x, rfl, h⟩) hR hS) hS.2.2 hd C.2.2.2.2.2.2.1)
theorem q_lreturn {Ψ : Int64 → Zt → Prop} {x : Int64} (hd : decode Y.2.1 pc = .ok (.lreturn, 1)) (ht : Y.2.2.2 = some .long) (hc : cells ≤ B.2.1) (hs : slots ≤ B.2.2) (h : Ψ x Z) : Jd l G Y B M Z cells slots (Qm G B M (ΦL Ψ)) (pc) ls ([.long x]) := fun C H locs A hR hS hA => W.widen hc hs (W.lret C.1 C.2.1 (C.2.2.2.1.trans ht) (q_end (show ΦL Ψ (some (.long x)) Z from ⟨x, rfl, h⟩) hR hS) hS.2.2 hd C.2.2.2.2.2.2.1)
theorem q_return {Ψ : Zt → Prop} (hd : decode Y.2.1 pc = .ok (.return_, 1)) (ht : Y.2.2.2 = none) (hc : cells ≤ B.2.1) (hs : slots ≤ B.2.2) (h : Ψ Z) : Jd l G Y B M Z cells slots (Qm G B M (ΦV Ψ)) (pc) ls ([]) := fun C H locs A hR hS hA => W.widen hc hs (W.vret C.1 C.2.1 (C.2.2.2.1.trans ht) (q_end (show ΦV Ψ none Z from ⟨rfl, h⟩) hR hS) hS.2.2 hd C.2.2.2.2.2.2.1)
theorem q_areturn {Ψ : Option Nat → Zt → Prop} {x : Nat} {rt : FieldType} (hd : decode Y.2.1 pc = .ok (.areturn, 1)) (ht : Y.2.2.2 = some rt) (hrt : (∃ n, rt = .object n) ∨ ∃ t, rt = .array t) (hc : cells ≤ B.2.1) (hs : slots ≤ B.2.2) (h : Ψ (some x) Z) : Jd l G Y B M Z cells slots (Qm G B M (ΦA Ψ)) (pc) ls ([.ref x]) := fun C H locs A hR hS hA => W.widen hc hs (W.aret C.1 C.2.1 (C.2.2.2.1.trans ht) hrt (Or.inr ⟨x, rfl⟩) (q_end (show ΦA Ψ (some (.ref x)) Z from ⟨some x, rfl, h⟩) hR hS) hS.2.2 hd C.2.2.2.2.2.2.1)
theorem q_areturnN {Ψ : Option Nat → Zt → Prop} {rt : FieldType} (hd : decode Y.2.1 pc = .ok (.areturn, 1)) (ht : Y.2.2.2 = some rt) (hrt : (∃ n, rt = .object n) ∨ ∃ t, rt = .array t) (hc : cells ≤ B.2.1) (hs : slots ≤ B.2.2) (h : Ψ none Z) : Jd l G Y B M Z cells slots (Qm G B M (ΦA Ψ)) (pc) ls ([.null]) := fun C H locs A hR hS hA => W.widen hc hs (W.aret C.1 C.2.1 (C.2.2.2.1.trans ht) hrt (Or.inl rfl) (q_end (show ΦA Ψ (some .null) Z from ⟨none, rfl, h⟩) hR hS) hS.2.2 hd C.2.2.2.2.2.2.1)
end QR
end
section
set_option maxRecDepth 100000 in
theorem usW_0 : ∀ w ∈ u_ws RX0 TX0 2, w ∈ WS := ws_us RX0 TX0 2 [117, 119] (by decide +kernel) (by decide +kernel)
set_option maxRecDepth 100000 in
theorem usW_1 : ∀ w ∈ u_ws RX1 TX1 4, w ∈ WS := ws_us RX1 TX1 4 [288, 289, 284, 286] (by decide +kernel) (by decide +kernel)
set_option maxRecDepth 100000 in
theorem usW_2 : ∀ w ∈ u_ws RX3 TX3 6, w ∈ WS := ws_us RX3 TX3 6 [237, 239, 229, 231, 233, 235] (by decide +kernel) (by decide +kernel)
set_option maxRecDepth 100000 in
theorem usW_3 : ∀ w ∈ u_ws RX4 TX4 5, w ∈ WS := ws_us RX4 TX4 5 [306, 307, 300, 302, 304] (by decide +kernel) (by decide +kernel)
set_option maxRecDepth 100000 in
theorem usW_4 : ∀ w ∈ u_ws RX5 TX5 3, w ∈ WS := ws_us RX5 TX5 3 [78, 80, 82] (by decide +kernel) (by decide +kernel)
set_option maxRecDepth 100000 in
theorem usW_5 : ∀ w ∈ u_ws RX6 TX6 4, w ∈ WS := ws_us RX6 TX6 4 [100, 102, 104, 106] (by decide +kernel) (by decide +kernel)
set_option maxRecDepth 100000 in
theorem usW_6 : ∀ w ∈ u_ws RX7 TX7 5, w ∈ WS := ws_us RX7 TX7 5 [265, 266, 259, 261, 263] (by decide +kernel) (by decide +kernel)
set_option maxRecDepth 100000 in
theorem usW_7 : ∀ w ∈ u_ws RX8 TX8 9, w ∈ WS := ws_us RX8 TX8 9 [436, 438, 440, 442, 444, 446, 448, 450, 452] (by decide +kernel) (by decide +kernel)
set_option maxRecDepth 100000 in
theorem usW_8 : ∀ w ∈ u_ws RX9 TX9 4, w ∈ WS := ws_us RX9 TX9 4 [410, 412, 414, 416] (by decide +kernel) (by decide +kernel)
set_option maxRecDepth 100000 in
theorem usW_9 : ∀ w ∈ u_ws RX10 TX10 6, w ∈ WS := ws_us RX10 TX10 6 [53, 55, 57, 59, 61, 63] (by decide +kernel) (by decide +kernel)
set_option maxRecDepth 100000 in
theorem usW_10 : ∀ w ∈ u_ws RX11 TX11 9, w ∈ WS := ws_us RX11 TX11 9 [131, 133, 135, 137, 139, 141, 143, 145, 147] (by decide +kernel) (by decide +kernel)
set_option maxRecDepth 100000 in
theorem usW_11 : ∀ w ∈ u_ws RX12 TX12 41, w ∈ WS := ws_us RX12 TX12 41 [777, 779, 781, 783, 785, 787, 789, 791, 793, 795, 797, 799, 801, 803, 805, 807, 809, 811, 813, 815, 817, 819, 821, 823, 825, 827, 829, 831, 833, 835, 837, 839, 841, 843, 845, 847, 849, 851, 853, 855, 857] (by decide +kernel) (by decide +kernel)
theorem clW {c : Nat} {q : vw_C} (hq : vwCl[c]? = some q) : ∀ w ∈ u_ws q.1 q.2.1 q.2.2, w ∈ WS := by
  match c, hq with
  | 0, hq => cases hq; exact usW_0
  | 1, hq => cases hq; exact usW_1
  | 2, hq => cases hq; exact usW_2
  | 3, hq => cases hq; exact usW_3
  | 4, hq => cases hq; exact usW_4
  | 5, hq => cases hq; exact usW_5
  | 6, hq => cases hq; exact usW_6
  | 7, hq => cases hq; exact usW_7
  | 8, hq => cases hq; exact usW_8
  | 9, hq => cases hq; exact usW_9
  | 10, hq => cases hq; exact usW_10
  | 11, hq => cases hq; exact usW_11
  | c + 12, hq => exact absurd (vwCl_lt hq) (by omega)
theorem clTy {c : Nat} {q : vw_C} (hq : vwCl[c]? = some q) : ∀ k, k < q.2.2 → parseFieldDescriptor (q.2.1 k).2.2.1 = some (tyTab c k) := by
  match c, hq with
  | 0, hq => cases hq; exact tyX0_ok
  | 1, hq => cases hq; exact tyX1_ok
  | 2, hq => cases hq; exact tyX3_ok
  | 3, hq => cases hq; exact tyX4_ok
  | 4, hq => cases hq; exact tyX5_ok
  | 5, hq => cases hq; exact tyX6_ok
  | 6, hq => cases hq; exact tyX7_ok
  | 7, hq => cases hq; exact tyX8_ok
  | 8, hq => cases hq; exact tyX9_ok
  | 9, hq => cases hq; exact tyX10_ok
  | 10, hq => cases hq; exact tyX11_ok
  | 11, hq => cases hq; exact tyX12_ok
  | c + 12, hq => exact absurd (vwCl_lt hq) (by omega)
theorem clNm {c : Nat} {q : vw_C} (hq : vwCl[c]? = some q) : ∀ a, a < q.2.2 → ∀ b, b < q.2.2 → a ≠ b → (q.2.1 a).2.1 ≠ (q.2.1 b).2.1 := by
  match c, hq with
  | 0, hq => cases hq; exact nmX0
  | 1, hq => cases hq; exact nmX1
  | 2, hq => cases hq; exact nmX3
  | 3, hq => cases hq; exact nmX4
  | 4, hq => cases hq; exact nmX5
  | 5, hq => cases hq; exact nmX6
  | 6, hq => cases hq; exact nmX7
  | 7, hq => cases hq; exact nmX8
  | 8, hq => cases hq; exact nmX9
  | 9, hq => cases hq; exact nmX10
  | 10, hq => cases hq; exact nmX11
  | 11, hq => cases hq; exact nmX12
  | c + 12, hq => exact absurd (vwCl_lt hq) (by omega)
end
section
/-! the judgement's rows on the heap, and calls -/
def fOK (own : String) (i c k : Nat) : Prop := ∃ (q : vw_C) (ref : String), vwCl[c]? = some q ∧ k < q.2.2 ∧ Cond.fieldLink own i ref (q.2.1 k).2.1 (q.2.1 k).2.2.1 ∈ WS ∧ (ref = (q.2.1 k).1 ∨ Cond.sameField ref (q.2.1 k).1 (q.2.1 k).2.1 (q.2.1 k).2.2.1 ∈ WS)
def nOK (own : String) (i c : Nat) : Prop := ∃ q : vw_C, vwCl[c]? = some q ∧ Cond.classLink own i q.1 ∈ WS ∧ Cond.instantiable q.1 q.2.2 ∈ WS ∧ Cond.initialized q.1 ∈ WS
def nPar (Y : Yt) : Option Nat := (parseMethodDescriptor Y.1.desc).map (fun d => d.parameters.length)
def dOK (Y : Yt) : Prop := Y.1.cls ≠ "java/lang/invoke/MethodHandle" ∧ Y.1.cls ≠ "java/lang/invoke/VarHandle" ∧ (nPar Y).isSome = true ∧ Y.2.2.1 ≤ 45
def bOK (own : String) (i : Nat) (Y : Yt) : Prop := Cond.code Y.1 Y.2.1 Y.2.2.1 Y.2.2.2 ∈ WS ∧ Cond.initialized Y.1.cls ∈ WS ∧ Cond.methodLink own i Y.1 ∈ WS ∧ (Y.1.cls ≠ "java/lang/invoke/MethodHandle" ∧ Y.1.cls ≠ "java/lang/invoke/VarHandle" ∧ (nPar Y).isSome = true ∧ Y.2.2.1 ≤ 45)
def sOK (own : String) (i : Nat) (Y : Yt) : Prop := bOK own i Y ∧ Cond.static Y.1 ∈ WS
def iOK (own : String) (i : Nat) (Y : Yt) : Prop := bOK own i Y ∧ Y.1.name = "<init>" ∧ Cond.instanceMethod Y.1 ∈ WS
def vOK (own : String) (i : Nat) (Y : Yt) : Prop := bOK own i Y ∧ Cond.instanceMethod Y.1 ∈ WS ∧ Cond.selects Y.1.cls Y.1 Y.1 ∈ WS
def sNOK (own : String) (i : Nat) (Y : Yt) : Prop := Cond.code Y.1 Y.2.1 Y.2.2.1 Y.2.2.2 ∈ WS ∧ Cond.initialized Y.1.cls ∈ WS ∧ Cond.static Y.1 ∈ WS ∧ Cond.methodLinkNest own i Y.1 RX11 ∈ nwl ∧ (Y.1.cls ≠ "java/lang/invoke/MethodHandle" ∧ Y.1.cls ≠ "java/lang/invoke/VarHandle" ∧ (nPar Y).isSome = true ∧ Y.2.2.1 ≤ 45)
def iNOK (own : String) (i : Nat) (Y : Yt) : Prop := Cond.code Y.1 Y.2.1 Y.2.2.1 Y.2.2.2 ∈ WS ∧ Cond.initialized Y.1.cls ∈ WS ∧ Y.1.name = "<init>" ∧ Cond.instanceMethod Y.1 ∈ WS ∧ Cond.methodLinkNest own i Y.1 RX11 ∈ nwl ∧ (Y.1.cls ≠ "java/lang/invoke/MethodHandle" ∧ Y.1.cls ≠ "java/lang/invoke/VarHandle" ∧ (nPar Y).isSome = true ∧ Y.2.2.1 ≤ 45)
theorem ty_at {G : Gt} {k : Nat} (h : k < 7) : (TYs G)[k]? = some (G.2.2.1 k, aTy k) := by
  simp [TYs, h]
theorem tyG {G : Gt} {U : State} (h : Kn G U) {k : Nat} (hk : k < 7) : ArrOfT U (G.2.2.1 k) (aTy k) ∧ va_RA U (G.2.2.1 k) (aTy k) := h.1.2 k _ (ty_at hk)
section QH
variable {l : Launch} {G : Gt} {Y : Yt} {B : Bt} {M : Mt} {Z : Zt} {cells slots : Nat} {Q : State → Prop} {pc : Nat} {ls : List (Option Value)} {st : List Value}
theorem q_getf {i c k a : Nat} {v : Value} (hd : decode Y.2.1 pc = .ok (.getfield i, 3)) (hw : fOK Y.1.cls i c k) (hk : zK Z a = c + 1) (hv : zF Z k a = v) (kk : Jd l G Y B M Z cells slots Q (pc + 3) ls (v :: st)) : Jd l G Y B M Z cells slots Q pc ls (.ref a :: st) := by
  intro C H locs A hR hS hA
  obtain ⟨q, ref, hq, hkN, hlink, hsame⟩ := hw
  obtain ⟨hx, hb, hml, hr, hown, hts, hlk, hKn, hB, hRm, hnm⟩ := id C
  obtain ⟨cell, q1, q2, q3, q4⟩ := hR.2.2.1 a c q hk hq
  obtain ⟨hS', hfc, kC, hkC, hkind⟩ := hKn.1.1 c q hq
  obtain ⟨cf, kf, fi, f, hi, hsl⟩ := hS' k hkN
  have hsm : M.2.2.2.1.fieldFound? ref (q.2.1 k).2.1 (q.2.1 k).2.2.1 = some (cf, kf, fi, f) := by
    rcases hsame with e | e
    · rw [e]; exact hi
    · exact u_same (hts _ e) _ hi
  refine W.getf hx hb hown (hts _ hlink) hsm (u_facts hfc hkC (u_lays hts (clW hq) hkN) hi).1 q1 (by rw [q3]; exact fun h => by cases h) (v := v) ?_ rfl rfl hd (kk C H locs A hR hS hA)
  rw [hsl, q4 k hkN]
  exact congrArg some hv
theorem q_putf {i c k a : Nat} {v : Value} (hd : decode Y.2.1 pc = .ok (.putfield i, 3)) (hw : fOK Y.1.cls i c k) (hf : (vwCl[c]?).map (fun q => (q.2.1 k).2.2.2) = some false) (hk : zK Z a = c + 1) (hn : narrow (tyTab c k) v = v) (hfit : fits (tyTab c k) v = true)
    (kk : Jd l G Y B M (sF Z k a v) cells slots Q (pc + 3) ls st) : Jd l G Y B M Z cells slots Q pc ls (v :: .ref a :: st) := by
  intro C H locs A hR hS hA
  obtain ⟨q, ref, hq, hkN, hlink, hsame⟩ := hw
  rw [hq] at hf
  have hf : (q.2.1 k).2.2.2 = false := Option.some.inj hf
  obtain ⟨hx, hb, hml, hr, hown, hts, hlk, hKn, hB, hRm, hnm⟩ := id C
  have hap := va_apart (own := Y.1.cls) hts (clW hq) (tyTab c) (clTy hq) (clNm hq) hKn.1 hq
  obtain ⟨cell, q1, q2, q3, q4⟩ := hR.2.2.1 a c q hk hq
  obtain ⟨hS', hfc, kC, hkC, hkind⟩ := hKn.1.1 c q hq
  obtain ⟨cf, kf, fi, f, hi, hsl⟩ := hS' k hkN
  have hsm : M.2.2.2.1.fieldFound? ref (q.2.1 k).2.1 (q.2.1 k).2.2.1 = some (cf, kf, fi, f) := by
    rcases hsame with e | e
    · rw [e]; exact hi
    · exact u_same (hts _ e) _ hi
  have hlay := hts _ (clW hq _ (u_in_lay hkN))
  unfold u_lay at hlay
  rw [if_neg (by rw [hf]; decide)] at hlay
  have hst := (u_facts hfc hkC (u_lays hts (clW hq) hkN) hi).1
  have h6 := u_store hfc hkC hkind hlay hi (clTy hq k hkN) hn hfit
  refine W.putK hx hb (f := f) ⟨hown, hts _ hlink, ⟨_, _, _, hsm⟩, hst⟩ (by rw [q2]; exact h6) q1 q3 (by rw [hsl]; exact k2_hasslot (q4 k hkN)) rfl rfl hd fun H' e1 e2 e3 => ?_
  rw [hsl] at e1 ⊢
  exact kk C H' _ A (Rep_sF hR hk hq e2 e3 ⟨_, e1, q2, q3, t_set q4 hap hkN v⟩) (hS.put e2 e3 (hR.2.1 a (by rw [hk]; omega)).1) hA
theorem q_putF {i c k a : Nat} {v : Value} (hd : decode Y.2.1 pc = .ok (.putfield i, 3)) (hw : fOK Y.1.cls i c k) (hf : (vwCl[c]?).map (fun q => (q.2.1 k).2.2.2) = some true) (hdc : (vwCl[c]?).map (fun q => (q.2.1 k).1) = some Y.1.cls) (hin : Y.1.name = "<init>") (hk : zK Z a = c + 1) (hn : narrow (tyTab c k) v = v) (hfit : fits (tyTab c k) v = true)
    (kk : Jd l G Y B M (sF Z k a v) cells slots Q (pc + 3) ls st) : Jd l G Y B M Z cells slots Q pc ls (v :: .ref a :: st) := by
  intro C H locs A hR hS hA
  obtain ⟨q, ref, hq, hkN, hlink, hsame⟩ := hw
  rw [hq] at hf hdc
  have hf : (q.2.1 k).2.2.2 = true := Option.some.inj hf
  have hdc : (q.2.1 k).1 = Y.1.cls := Option.some.inj hdc
  obtain ⟨hx, hb, hml, hr, hown, hts, hlk, hKn, hB, hRm, hnm⟩ := id C
  have hap := va_apart (own := Y.1.cls) hts (clW hq) (tyTab c) (clTy hq) (clNm hq) hKn.1 hq
  obtain ⟨cell, q1, q2, q3, q4⟩ := hR.2.2.1 a c q hk hq
  obtain ⟨hS', hfc, kC, hkC, hkind⟩ := hKn.1.1 c q hq
  obtain ⟨cf, kf, fi, f, hi, hsl⟩ := hS' k hkN
  have hsm : M.2.2.2.1.fieldFound? ref (q.2.1 k).2.1 (q.2.1 k).2.2.1 = some (cf, kf, fi, f) := by
    rcases hsame with e | e
    · rw [e]; exact hi
    · exact u_same (hts _ e) _ hi
  have hlay := hts _ (clW hq _ (u_in_lay hkN))
  unfold u_lay at hlay
  rw [if_pos hf] at hlay
  have hst := (u_facts hfc hkC (u_lays hts (clW hq) hkN) hi).1
  have hcf : M.2.2.2.2.1.cls = cf := by
    obtain ⟨_, _, c', _, _, _, -, -, hf', -, -, -, hown2, -⟩ := Cond.laysFinal_spec hlay
    have e1 : c' = cf := by have := hi.symm.trans hf'; simp at this; exact this.1.symm
    rw [hdc] at hown2
    rw [← e1]; exact Option.some.inj (hown.symm.trans hown2)
  have h6 := u_fits hfc hkC hkind (Or.inr hlay) hi (clTy hq k hkN) hn hfit
  refine W.putFinK hx hb hown (hts _ hlink) hsm hst hcf (by rw [hnm]; exact hin) (by rw [q2]; exact h6) q1 q3 (by rw [hsl]; exact k2_hasslot (q4 k hkN)) rfl rfl hd fun H' e1 e2 e3 => ?_
  rw [hsl] at e1 ⊢
  exact kk C H' _ A (Rep_sF hR hk hq e2 e3 ⟨_, e1, q2, q3, t_set q4 hap hkN v⟩) (hS.put e2 e3 (hR.2.1 a (by rw [hk]; omega)).1) hA
theorem q_iald {a : Nat} {i : Int32} (hd : decode Y.2.1 pc = .ok (.iaload, 1)) (hk : zK Z a = 20) (hi : vp_in i (zL Z a)) (kk : Jd l G Y B M Z cells slots Q (pc + 1) ls (.int (zI Z a i.toNatClampNeg) :: st)) : Jd l G Y B M Z cells slots Q pc ls (.int i :: .ref a :: st) := by
  intro C H locs A hR hS hA
  have hlt : i.toNatClampNeg < zL Z a := Nat.not_le.mp fun q => hi (Or.inr q)
  exact W.iald (v := .int (zI Z a i.toNatClampNeg)) C.1 C.2.1 (hR.2.2.2.1 a hk) ((tyG C.2.2.2.2.2.2.2.1 (k := 0) (by decide)).1 _ (fun j => .int (zI Z a j))) (fun q => by cases q) (by show ¬ (i < 0 ∨ (arrV _ _ _).slots.size ≤ _); rw [arrV_size]; exact hi) (by show (arrV _ _ _).slots[_]? = _; rw [arrV_read _ _ hlt]) rfl rfl hd (kk C H locs A hR hS hA)
theorem q_lald {a : Nat} {i : Int32} (hd : decode Y.2.1 pc = .ok (.laload, 1)) (hk : zK Z a = 21) (hi : vp_in i (zL Z a)) (kk : Jd l G Y B M Z cells slots Q (pc + 1) ls (.long (zJ Z a i.toNatClampNeg) :: st)) : Jd l G Y B M Z cells slots Q pc ls (.int i :: .ref a :: st) := by
  intro C H locs A hR hS hA
  have hlt : i.toNatClampNeg < zL Z a := Nat.not_le.mp fun q => hi (Or.inr q)
  exact W.lald (v := .long (zJ Z a i.toNatClampNeg)) C.1 C.2.1 (hR.2.2.2.2.1 a hk) ((tyG C.2.2.2.2.2.2.2.1 (k := 1) (by decide)).1 _ (fun j => .long (zJ Z a j))) (fun q => by cases q) (by show ¬ (i < 0 ∨ (arrV _ _ _).slots.size ≤ _); rw [arrV_size]; exact hi) (by show (arrV _ _ _).slots[_]? = _; rw [arrV_read _ _ hlt]) rfl rfl hd (kk C H locs A hR hS hA)
theorem q_zald {a : Nat} {i : Int32} (hd : decode Y.2.1 pc = .ok (.baload, 1)) (hk : zK Z a = 22) (hi : vp_in i (zL Z a)) (kk : Jd l G Y B M Z cells slots Q (pc + 1) ls (.int (zI Z a i.toNatClampNeg) :: st)) : Jd l G Y B M Z cells slots Q pc ls (.int i :: .ref a :: st) := by
  intro C H locs A hR hS hA
  have hlt : i.toNatClampNeg < zL Z a := Nat.not_le.mp fun q => hi (Or.inr q)
  exact W.zald (v := .int (zI Z a i.toNatClampNeg)) C.1 C.2.1 (hR.2.2.2.2.2.1 a hk) ((tyG C.2.2.2.2.2.2.2.1 (k := 2) (by decide)).1 _ (fun j => .int (zI Z a j))) (fun q => by cases q) (by show ¬ (i < 0 ∨ (arrV _ _ _).slots.size ≤ _); rw [arrV_size]; exact hi) (by show (arrV _ _ _).slots[_]? = _; rw [arrV_read _ _ hlt]) rfl rfl hd (kk C H locs A hR hS hA)
theorem aTy_ref {w : Nat} (h : w < 4) : ∃ C, aTy (3 + w) = .object C := by
  rcases (show w = 0 ∨ w = 1 ∨ w = 2 ∨ w = 3 by omega) with rfl | rfl | rfl | rfl <;> exact ⟨_, rfl⟩
theorem q_aald {a : Nat} {i : Int32} (w : Nat) (hd : decode Y.2.1 pc = .ok (.aaload, 1)) (hw : w < 4) (hk : zK Z a = 23 + w) (hi : vp_in i (zL Z a)) {v : Value} (hv : va_rf (zR Z a i.toNatClampNeg) = v) (kk : Jd l G Y B M Z cells slots Q (pc + 1) ls (v :: st)) : Jd l G Y B M Z cells slots Q pc ls (.int i :: .ref a :: st) := by
  intro C H locs A hR hS hA
  subst hv
  have hlt : i.toNatClampNeg < zL Z a := Nat.not_le.mp fun q => hi (Or.inr q)
  obtain ⟨c0, hc0⟩ := aTy_ref hw
  exact W.aald (v := va_rf (zR Z a i.toNatClampNeg)) (ty := aTy (3 + w)) C.1 C.2.1 (hR.2.2.2.2.2.2 a w hk hw) ((tyG C.2.2.2.2.2.2.2.1 (k := 3 + w) (by omega)).1 _ (fun j => va_rf (zR Z a j))) (by rw [hc0]; rfl) (fun q => by cases q) (by show ¬ (i < 0 ∨ (arrV _ _ _).slots.size ≤ _); rw [arrV_size]; exact hi) (by show (arrV _ _ _).slots[_]? = _; rw [arrV_read _ _ hlt]) rfl rfl hd (kk C H locs A hR hS hA)
theorem q_alenJ {a : Nat} (hd : decode Y.2.1 pc = .ok (.arraylength, 1)) (hk : zK Z a = 21) (kk : Jd l G Y B M Z cells slots Q (pc + 1) ls (.int (Int32.ofNat (zL Z a)) :: st)) : Jd l G Y B M Z cells slots Q pc ls (.ref a :: st) := by
  intro C H locs A hR hS hA
  exact W.alen (n := Int32.ofNat (zL Z a)) C.1 C.2.1 (hR.2.2.2.2.1 a hk) ((tyG C.2.2.2.2.2.2.2.1 (k := 1) (by decide)).1 _ (fun j => .long (zJ Z a j))) (by rw [vp_cell_l, arrV_size] <;> rfl) rfl rfl hd (kk C H locs A hR hS hA)
theorem q_iast {a : Nat} {i x : Int32} (hd : decode Y.2.1 pc = .ok (.iastore, 1)) (hk : zK Z a = 20) (hi : vp_in i (zL Z a)) (kk : Jd l G Y B M (sI Z a i.toNatClampNeg x) cells slots Q (pc + 1) ls st) : Jd l G Y B M Z cells slots Q pc ls (.int x :: .int i :: .ref a :: st) := by
  intro C H locs A hR hS hA
  refine W.iast C.1 C.2.1 (hR.2.2.2.1 a hk) ((tyG C.2.2.2.2.2.2.2.1 (k := 0) (by decide)).1 _ (fun j => .int (zI Z a j))) (fun q => by cases q) (by show ¬ (i < 0 ∨ (arrV _ _ _).slots.size ≤ _); rw [arrV_size]; exact hi) rfl rfl hd fun H1 e z oq => ?_
  refine kk C H1 _ A (Rep_sI (w := 0) hR hk (Or.inl rfl) z oq ?_) (hS.put z oq (hR.2.1 a (by rw [hk]; omega)).1) hA
  rw [e, vp_cell_i, vp_cell_i, arrV_store]
  congr 2
  funext q
  by_cases hq : q = i.toNatClampNeg
  · subst hq; simp [updV, upd]
  · simp [updV, upd, hq]
theorem q_zast {a : Nat} {i x : Int32} (hd : decode Y.2.1 pc = .ok (.bastore, 1)) (hk : zK Z a = 22) (hi : vp_in i (zL Z a)) (hx0 : vp_nar .boolean x = x) (kk : Jd l G Y B M (sI Z a i.toNatClampNeg x) cells slots Q (pc + 1) ls st) : Jd l G Y B M Z cells slots Q pc ls (.int x :: .int i :: .ref a :: st) := by
  intro C H locs A hR hS hA
  refine W.zast C.1 C.2.1 (hR.2.2.2.2.2.1 a hk) ((tyG C.2.2.2.2.2.2.2.1 (k := 2) (by decide)).1 _ (fun j => .int (zI Z a j))) (fun q => by cases q) (by show ¬ (i < 0 ∨ (arrV _ _ _).slots.size ≤ _); rw [arrV_size]; exact hi) rfl rfl hd fun H1 e z oq => ?_
  refine kk C H1 _ A (Rep_sI (w := 2) hR hk (Or.inr rfl) z oq ?_) (hS.put z oq (hR.2.1 a (by rw [hk]; omega)).1) hA
  rw [e, vp_cell_i, vp_cell_i, arrV_store]
  congr 2
  funext q
  by_cases hq : q = i.toNatClampNeg
  · subst hq; simp only [updV, upd, if_true]; rw [show narrow .boolean (.int x) = .int (vp_nar .boolean x) from rfl, hx0]
  · simp [updV, upd, hq]
theorem q_last {a : Nat} {i : Int32} {x : Int64} (hd : decode Y.2.1 pc = .ok (.lastore, 1)) (hk : zK Z a = 21) (hi : vp_in i (zL Z a)) (kk : Jd l G Y B M (sJ Z a i.toNatClampNeg x) cells slots Q (pc + 1) ls st) : Jd l G Y B M Z cells slots Q pc ls (.long x :: .int i :: .ref a :: st) := by
  intro C H locs A hR hS hA
  refine W.last C.1 C.2.1 (hR.2.2.2.2.1 a hk) ((tyG C.2.2.2.2.2.2.2.1 (k := 1) (by decide)).1 _ (fun j => .long (zJ Z a j))) (fun q => by cases q) (by show ¬ (i < 0 ∨ (arrV _ _ _).slots.size ≤ _); rw [arrV_size]; exact hi) rfl rfl hd fun H1 e z oq => ?_
  refine kk C H1 _ A (Rep_sJ hR hk z oq ?_) (hS.put z oq (hR.2.1 a (by rw [hk]; omega)).1) hA
  rw [e, vp_cell_l, vp_cell_l, arrV_store]
  congr 2
  funext q
  by_cases hq : q = i.toNatClampNeg
  · subst hq; simp [updV, vp_updL]
  · simp [updV, vp_updL, hq]
/-- a new object; its fields hold 0 and null -/
theorem q_new {i c : Nat} {n : Nat} (hd : decode Y.2.1 pc = .ok (.new i, 3)) (hw : nOK Y.1.cls i c) (hn : (vwCl[c]?).map (fun q => q.2.2) = some n) (hc : cells + 1 ≤ B.2.1) (hs : slots + n ≤ B.2.2) (kk : Jd l G Y B M (nO Z (c + 1) (fun k => defaultValue (tyTab c k))) (cells + 1) (slots + n) Q (pc + 3) ls (.ref (zN Z) :: st)) : Jd l G Y B M Z cells slots Q pc ls st := by
  intro C H locs A hR hS hA
  obtain ⟨q, hq, hlink, hins, hini⟩ := hw
  rw [hq] at hn
  have hn : q.2.2 = n := Option.some.inj hn
  subst hn
  obtain ⟨hx, hb, hml, hr, hown, hts, hlk, hKn, hB, hRm, hnm⟩ := id C
  have hu := hKn.1.1 c q hq
  refine W.newcK hx hb hown (hts _ hlink) (hts _ hins) (hts _ hini) rfl hd (by rw [hRm]; exact hc) (by rw [hRm]; exact hs) hu.2.1 hR.1 fun H1 kC hkC e1 z1 o1 => ?_
  exact kk C H1 locs A (Rep_nO hR (Nat.le_trans hB (by rw [← hR.1]; exact hS.1)) hq z1 o1 (u_born (tyTab c) hts (clW hq) hu hkC e1 (clTy hq))) ⟨Nat.le_trans hS.1 (by rw [hR.1, z1]; omega), fun x h1 h2 => (o1 x (by rw [← hR.1]; exact Nat.lt_of_lt_of_le h1 hS.1)).trans (hS.2.1 x h1 h2), hS.2.2⟩ hA
theorem q_newa {n : Int32} {N w : Nat} {at0 : ArrayType} (hd : decode Y.2.1 pc = .ok (.newarray at0, 2)) (hty : newarray.typeOf at0 = aTy w) (hw : w < 3) (ha : Cond.arrayClass (aTy w) ∈ WS) (h0 : ¬ n < 0) (hN : n.toNatClampNeg = N) (hbt : N * componentBytes (aTy w) ≤ 536870912) (hc : cells + 1 ≤ B.2.1) (hs : slots + N ≤ B.2.2)
    (kk : Jd l G Y B M (nA Z (20 + w) N) (cells + 1) (slots + N) Q (pc + 2) ls (.ref (zN Z) :: st)) : Jd l G Y B M Z cells slots Q pc ls (.int n :: st) := by
  intro C H locs A hR hS hA
  obtain ⟨hx, hb, hml, hr, hown, hts, hlk, hKn, hB, hRm, hnm⟩ := id C
  refine va_newaK hx hb (by rw [hty]; exact hts _ ha) rfl hd rfl h0 hN (by rw [hty]; exact hbt) (by rw [hRm]; exact hc) (by rw [hRm]; exact hs) hR.1 fun H1 cA e1 z1 o1 hAr hNm => ?_
  rw [hty] at e1 hNm
  have hcA : cA = G.2.2.1 w := by
    have h := (tyG hKn (k := w) (by omega)).2
    rcases (show w = 0 ∨ w = 1 ∨ w = 2 by omega) with rfl | rfl | rfl
    · exact Option.some.inj (hNm.symm.trans h)
    · exact Option.some.inj (hNm.symm.trans h)
    · exact Option.some.inj (hNm.symm.trans h)
  subst hcA
  exact kk C H1 locs A (Rep_nA hR (Nat.le_trans hB (by rw [← hR.1]; exact hS.1)) (by omega) z1 o1 e1) ⟨Nat.le_trans hS.1 (by rw [hR.1, z1]; omega), fun x h1 h2 => (o1 x (by rw [← hR.1]; exact Nat.lt_of_lt_of_le h1 hS.1)).trans (hS.2.1 x h1 h2), hS.2.2⟩ hA
theorem q_anew {i : Nat} {n : Int32} {N w : Nat} (cn : String) (hd : decode Y.2.1 pc = .ok (.anewarray i, 3)) (hw : w < 4) (hcn : aTy (3 + w) = .object cn) (hin : cn ∈ [RX0, RX2, RX6, RX8]) (hl : Cond.classLink Y.1.cls i cn ∈ WS) (h0 : ¬ n < 0) (hN : n.toNatClampNeg = N) (hbt : N * 4 ≤ 536870912) (hc : cells + 1 ≤ B.2.1) (hs : slots + N ≤ B.2.2)
    (kk : Jd l G Y B M (nA Z (23 + w) N) (cells + 1) (slots + N) Q (pc + 3) ls (.ref (zN Z) :: st)) : Jd l G Y B M Z cells slots Q pc ls (.int n :: st) := by
  intro C H locs A hR hS hA
  obtain ⟨hx, hb, hml, hr, hown, hts, hlk, hKn, hB, hRm, hnm⟩ := id C
  subst hN
  refine W.anew hx hb hown (hts _ hl) (va_AO.use (hKn.2.2.2.2 cn hin)) rfl hd rfl h0 hbt (by rw [hRm]; exact hc) (by rw [hRm]; exact hs) fun cA kA comp f1 f2 f3 f4 => ?_
  generalize hH1 : H.push ({ cls := cA, slots := Array.replicate n.toNatClampNeg .null, vm := .none } : Cell) = H1
  have z1 : H1.size = H.size + 1 := by rw [← hH1, Array.size_push]
  have e1 : H1[H.size]? = some (arrV cA n.toNatClampNeg (fun _ => .null)) := by rw [← hH1, Array.getElem?_push_size, ← arrV_new]
  have o1 : ∀ q : Nat, q < H.size → H1[q]? = H[q]? := fun q hq => by rw [← hH1, Array.getElem?_push, if_neg (Nat.ne_of_lt hq)]
  have hcA : cA = G.2.2.1 (3 + w) := by
    have h := (tyG hKn (k := 3 + w) (by omega)).2
    rw [hcn] at h
    obtain ⟨_, _, -, -, -, h4⟩ := h
    exact Option.some.inj (f1.symm.trans h4)
  subst hcA
  have hdv : defaultValue (aTy (3 + w)) = .null := by rw [hcn]; rfl
  have hkk := kk C H1 locs A (by
    have := Rep_nA (w := 3 + w) (n := n.toNatClampNeg) hR (Nat.le_trans hB (by rw [← hR.1]; exact hS.1)) (by omega) (by rw [z1, hR.1]) (fun x hx => o1 x (by rw [hR.1]; exact hx)) (by rw [hdv, ← hR.1]; exact e1)
    rw [show 20 + (3 + w) = 23 + w by omega] at this
    exact this) ⟨Nat.le_trans hS.1 (by omega), fun x h1 h2 => (o1 x (Nat.lt_of_lt_of_le h1 hS.1)).trans (hS.2.1 x h1 h2), hS.2.2⟩ hA
  rw [hR.1]
  exact hkk
/-- Object's own constructor -/
theorem q_objInit {i a : Nat} (hd : decode Y.2.1 pc = .ok (.invokespecial i, 3)) (hl : Cond.methodLink Y.1.cls i objectInit ∈ WS) (hi : Cond.instanceMethod objectInit ∈ WS) (hcd : Cond.code objectInit ⟨#[0xb1]⟩ 1 none ∈ WS) (hB1 : 1 ≤ B.1) (hW : (st.map fun v => v.category).sum ≤ 8) (kk : Jd l G Y B M Z cells slots Q (pc + 3) ls st) : Jd l G Y B M Z cells slots Q pc ls (.ref a :: st) := by
  intro C H locs A hR hS hA
  obtain ⟨hx, hb, hml, hr, hown, hts, hlk, hKn, hB, hRm, hnm⟩ := id C
  refine W.objInit hx hb hown (hts _ hl) (hts _ hi) (hts _ hcd) rfl (by rw [hml]; exact hA.1) rfl hd (by rw [hRm]; exact hB1) ?_ (kk C H locs A hR hS hA)
  rw [hRm]
  show 2 * 0 + _ + 12 ≤ 64 * B.1
  omega
end QH
theorem wsY_good (Y0 Y : Yt) (h : Cond.code Y.1 Y.2.1 Y.2.2.1 Y.2.2.2 ∈ WS) : GoodIn WS (wsY Y) := by
  intro w hw
  rcases List.mem_cons.mp hw with rfl | hw
  · exact ⟨h, good_of_word (ws_good h)⟩
  · exact ⟨hw, good_of_word (ws_good hw)⟩
theorem Pc_blind (G : Gt) (Z : Zt) (av : List Value) : FrameBlind (va_Pc av (fun U => Rep G Z U.heap ∧ Kn G U ∧ G.2.2.2 ≤ U.heap.size)) := fun a U g mk h => ⟨h.1, h.2.1, Kn.same (s := U) (U := U.calling g mk a) rfl h.2.2.1, h.2.2.2⟩
section QC
variable {l : Launch} {G : Gt} {Y Y' : Yt} {B B' : Bt} {M : Mt} {Z : Zt} {cells slots : Nat} {Q : State → Prop} {pc : Nat} {ls : List (Option Value)} {st rest av : List Value} {Φ : Option Value → Zt → Prop}
theorem q_nPar {Y : Yt} (h : (nPar Y).isSome = true) {n : Nat} (hn : nPar Y = some n) : (parseMethodDescriptor Y.1.desc).map (fun d => d.parameters.length) = some n := hn
theorem q_cb {own : String} {i : Nat} (C : Cx G Y B M) (hw : bOK own i Y') (hB : B'.1 + 1 ≤ B.1) {n : Nat} (hn : nPar Y' = some n) : CallB M.2.2.1 M.2.2.2.1 M.2.2.2.2.2.1 own i Y'.1 Y'.2.1 Y'.2.2.1 Y'.2.2.2 (wsY Y') (rmB B') B'.2.1 B'.2.2 n := by
  obtain ⟨h1, h2, h3, h4, h5, h6, h7⟩ := hw
  have hts := C.2.2.2.2.2.1
  refine callB_of (Ts := WS) n hts (wsY_good Y Y' h1) rfl rfl rfl (hts _ h2) (hts _ h3) ⟨h4, h5, hn⟩ ?_
  rw [C.2.2.2.2.2.2.2.2.2.1]
  show B'.1 + 1 ≤ B.1 ∧ 8 + (Y'.2.2.1 + 11) + 64 * B'.1 ≤ 64 * B.1
  omega
theorem q_run {g : JFrame} {mc ms : Nat} (H : Heap) (locs : List Loc) (A : Array Slot) (hg : g = F0 M.2.2.2.2.1 pc A st) {a : Array Value} (C : Cx G Y B M) (hS : va_S (fun q => G.2.2.2 ≤ q) M.2.2.2.1.heap H locs) (hA : lv_has A Y.2.2.1 (aL 0 ls))
    (hr : va_Run M.1 l M.2.1 M.2.2.1 M.2.2.2.1 M.2.2.2.2.1 M.2.2.2.2.2.1 M.2.2.2.2.2.2.1 M.2.2.2.2.2.2.2.1 M.2.2.2.2.2.2.2.2 H locs cells slots mc ms (F0 M.2.2.2.2.1 pc A st) rest (Qc G Φ a) (fun q => G.2.2.2 ≤ q))
    (kk : ∀ (v : Option Value) (Z' : Zt), Φ v Z' → Jd l G Y B M Z' (cells + mc) (slots + ms) Q (pc + 3) ls (v.toList ++ rest)) :
    W M.1 l M.2.1 M.2.2.1 M.2.2.2.1 M.2.2.2.2.1 M.2.2.2.2.2.1 M.2.2.2.2.2.2.1 M.2.2.2.2.2.2.2.1 M.2.2.2.2.2.2.2.2 H locs cells slots Q (F0 M.2.2.2.2.1 pc A st) := by
  intro T hT X
  obtain ⟨v, st₀, t, T', L, h0, X', hL, e1, e2, ⟨v', Z', hv, hΦ, hRt, hz, hF⟩, stp⟩ := hr T hT X
  cases hv
  rw [h0] at hz hF
  obtain ⟨t2, a1, b1⟩ := kk v Z' hΦ C T'.heap (locs ++ L) A (by rw [e1]; exact hRt) ⟨Nat.le_trans hS.1 (by rw [e1]; exact hz), fun q h1 h2 => by rw [e1, hF q (Nat.lt_of_lt_of_le h1 hS.1) h2]; exact hS.2.1 q h1 h2, fun q hq => by
      rcases List.mem_append.mp hq with h | h
      · exact hS.2.2 q h
      · exact hL q h⟩ hA T' rfl X'
  exact ⟨t2, stp t2 a1, b1⟩
theorem q_pre {H : Heap} {locs : List Loc} (C : Cx G Y B M) (hR : Rep G Z H) (hS : va_S (fun q => G.2.2.2 ≤ q) M.2.2.2.1.heap H locs) : PreS M.2.2.2.1 H (va_Pc av (fun U => Rep G Z U.heap ∧ Kn G U ∧ G.2.2.2 ≤ U.heap.size)) av :=
  ⟨Pc_blind G Z av, fun U hU hW => ⟨rfl, by rw [hU]; exact hR, C.2.2.2.2.2.2.2.1.moved hW, by rw [hU]; exact Nat.le_trans C.2.2.2.2.2.2.2.2.1 hS.1⟩⟩
theorem q_callS {i : Nat} (hd : decode Y.2.1 pc = .ok (.invokestatic i, 3)) (hw : sOK Y.1.cls i Y') (hM : Ct l G Y' B' Z av Φ) (hst : st = av.reverse ++ rest) (hn : nPar Y' = some av.length) (hB : B'.1 + 1 ≤ B.1) (hc : cells + B'.2.1 ≤ B.2.1) (hs : slots + B'.2.2 ≤ B.2.2) (hW : (rest.map fun v => v.category).sum ≤ 8)
    (kk : ∀ (v : Option Value) (Z' : Zt), Φ v Z' → Jd l G Y B M Z' (cells + B'.2.1) (slots + B'.2.2) Q (pc + 3) ls (v.toList ++ rest)) : Jd l G Y B M Z cells slots Q pc ls st := by
  intro C H locs A hR hS hA
  refine q_run H locs A rfl C hS hA (va_runS (As := av) (rest := rest) (g := F0 M.2.2.2.2.1 pc A st) ⟨C.1, C.2.1, C.2.2.1, C.2.2.2.2.1, C.2.2.2.2.2.1⟩ hM ⟨q_cb C hw.1 hB hn, C.2.2.2.2.2.1 _ hw.2⟩ (q_pre C hR hS) rfl rfl hA.1 hst ?_ hd ?_) kk
  · show 2 * 0 + _ ≤ 8; omega
  · rw [C.2.2.2.2.2.2.2.2.2.1]; exact ⟨hc, hs⟩
theorem q_callI {i b : Nat} (hd : decode Y.2.1 pc = .ok (.invokespecial i, 3)) (hw : iOK Y.1.cls i Y') (hrt : Y'.2.2.2 = none) (hM : Ct l G Y' B' Z (.ref b :: av) Φ) (hst : st = av.reverse ++ .ref b :: rest) (hn : nPar Y' = some av.length) (hB : B'.1 + 1 ≤ B.1) (hc : cells + B'.2.1 ≤ B.2.1) (hs : slots + B'.2.2 ≤ B.2.2) (hW : (rest.map fun v => v.category).sum ≤ 8)
    (kk : ∀ (v : Option Value) (Z' : Zt), Φ v Z' → Jd l G Y B M Z' (cells + B'.2.1) (slots + B'.2.2) Q (pc + 3) ls (v.toList ++ rest)) : Jd l G Y B M Z cells slots Q pc ls st := by
  intro C H locs A hR hS hA
  refine q_run H locs A rfl C hS hA (va_runI (As := av) (rest := rest) (g := F0 M.2.2.2.2.1 pc A st) ⟨C.1, C.2.1, C.2.2.1, C.2.2.2.2.1, C.2.2.2.2.2.1⟩ hM ⟨by rw [← hrt]; exact q_cb C hw.1 hB hn, hw.2.1, C.2.2.2.2.2.1 _ hw.2.2⟩ (q_pre C hR hS) rfl rfl hA.1 hst ?_ hd ?_) kk
  · show 2 * 0 + _ ≤ 8; omega
  · rw [C.2.2.2.2.2.2.2.2.2.1]; exact ⟨hc, hs⟩
theorem q_recv {H : Heap} {b c : Nat} {q : vw_C} (C : Cx G Y B M) (hR : Rep G Z H) (hk : zK Z b = c + 1) (hq : vwCl[c]? = some q) : ∃ cellB : Cell, H[b]? = some cellB ∧ cellB.vm.isStatics = false ∧ M.2.2.2.1.vm.findClass q.1 = some cellB.cls := by
  obtain ⟨cell, q1, q2, q3, q4⟩ := hR.2.2.1 b c q hk hq
  exact ⟨cell, q1, by rw [q3]; rfl, by rw [q2]; exact (C.2.2.2.2.2.2.2.1.1.1 c q hq).2.1⟩
theorem q_callV {i b : Nat} (c : Nat) (hd : decode Y.2.1 pc = .ok (.invokevirtual i, 3)) (hw : vOK Y.1.cls i Y') (hc0 : (vwCl[c]?).map (fun q => q.1) = some Y'.1.cls) (hk : zK Z b = c + 1) (hM : Ct l G Y' B' Z (.ref b :: av) Φ) (hst : st = av.reverse ++ .ref b :: rest) (hn : nPar Y' = some av.length) (hB : B'.1 + 1 ≤ B.1) (hc : cells + B'.2.1 ≤ B.2.1) (hs : slots + B'.2.2 ≤ B.2.2) (hW : (rest.map fun v => v.category).sum ≤ 8)
    (kk : ∀ (v : Option Value) (Z' : Zt), Φ v Z' → Jd l G Y B M Z' (cells + B'.2.1) (slots + B'.2.2) Q (pc + 3) ls (v.toList ++ rest)) : Jd l G Y B M Z cells slots Q pc ls st := by
  intro C H locs A hR hS hA
  obtain ⟨q, hq, hqc⟩ := Option.map_eq_some_iff.mp hc0
  have hpre := q_pre (av := .ref b :: av) C hR hS
  have hrec := q_recv C hR hk hq
  rw [hqc] at hrec
  refine q_run H locs A rfl C hS hA (va_runV (As := av) (rest := rest) (g := F0 M.2.2.2.2.1 pc A st) (C := Y'.1.cls) ⟨C.1, C.2.1, C.2.2.1, C.2.2.2.2.1, C.2.2.2.2.2.1⟩ hM ⟨q_cb C hw.1 hB hn, C.2.2.2.2.2.1 _ hw.2.1, C.2.2.2.2.2.1 _ hw.2.2⟩ ⟨hpre.1, hrec, hpre.2⟩ rfl rfl hA.1 hst ?_ hd ?_) kk
  · show 2 * 0 + _ ≤ 8; omega
  · rw [C.2.2.2.2.2.2.2.2.2.1]; exact ⟨hc, hs⟩
theorem q_cn {own : String} {i : Nat} (C : Cx G Y B M) (h1 : Cond.code Y'.1 Y'.2.1 Y'.2.2.1 Y'.2.2.2 ∈ WS) (h2 : Cond.initialized Y'.1.cls ∈ WS) (h3 : Cond.methodLinkNest own i Y'.1 RX11 ∈ nwl) (hd : Y'.1.cls ≠ "java/lang/invoke/MethodHandle" ∧ Y'.1.cls ≠ "java/lang/invoke/VarHandle" ∧ (nPar Y').isSome = true ∧ Y'.2.2.1 ≤ 45) (hB : B'.1 + 1 ≤ B.1) {n : Nat} (hn : nPar Y' = some n) : va_CN M.2.2.1 M.2.2.2.1 M.2.2.2.2.2.1 own i Y'.1 RX11 Y'.2.1 Y'.2.2.1 Y'.2.2.2 (wsY Y') (rmB B') B'.2.1 B'.2.2 n := by
  have hts := C.2.2.2.2.2.1
  refine va_cnB (Ts := WS) n hts (wsY_good Y Y' h1) rfl rfl rfl (C.2.2.2.2.2.2.2.1.2.1 _ h3) (hts _ h2) ⟨hd.1, hd.2.1, hn⟩ ?_
  rw [C.2.2.2.2.2.2.2.2.2.1]
  show B'.1 + 1 ≤ B.1 ∧ 8 + (Y'.2.2.1 + 11) + 64 * B'.1 ≤ 64 * B.1
  have := hd.2.2.2
  omega
theorem q_callSN {i : Nat} (hd : decode Y.2.1 pc = .ok (.invokestatic i, 3)) (hw : sNOK Y.1.cls i Y') (hM : Ct l G Y' B' Z av Φ) (hst : st = av.reverse ++ rest) (hn : nPar Y' = some av.length) (hB : B'.1 + 1 ≤ B.1) (hc : cells + B'.2.1 ≤ B.2.1) (hs : slots + B'.2.2 ≤ B.2.2) (hW : (rest.map fun v => v.category).sum ≤ 8)
    (kk : ∀ (v : Option Value) (Z' : Zt), Φ v Z' → Jd l G Y B M Z' (cells + B'.2.1) (slots + B'.2.2) Q (pc + 3) ls (v.toList ++ rest)) : Jd l G Y B M Z cells slots Q pc ls st := by
  intro C H locs A hR hS hA
  refine q_run H locs A rfl C hS hA (va_runSN (As := av) (rest := rest) (g := F0 M.2.2.2.2.1 pc A st) ⟨C.1, C.2.1, C.2.2.1, C.2.2.2.2.1, C.2.2.2.2.2.1⟩ hM ⟨q_cn C hw.1 hw.2.1 hw.2.2.2.1 hw.2.2.2.2 hB hn, C.2.2.2.2.2.1 _ hw.2.2.1, trivial⟩ (q_pre C hR hS) rfl rfl hA.1 hst ?_ hd ?_) kk
  · show 2 * 0 + _ ≤ 8; omega
  · rw [C.2.2.2.2.2.2.2.2.2.1]; exact ⟨hc, hs⟩
theorem q_callIN {i b : Nat} (hd : decode Y.2.1 pc = .ok (.invokespecial i, 3)) (hw : iNOK Y.1.cls i Y') (hrt : Y'.2.2.2 = none) (hM : Ct l G Y' B' Z (.ref b :: av) Φ) (hst : st = av.reverse ++ .ref b :: rest) (hn : nPar Y' = some av.length) (hB : B'.1 + 1 ≤ B.1) (hc : cells + B'.2.1 ≤ B.2.1) (hs : slots + B'.2.2 ≤ B.2.2) (hW : (rest.map fun v => v.category).sum ≤ 8)
    (kk : ∀ (v : Option Value) (Z' : Zt), Φ v Z' → Jd l G Y B M Z' (cells + B'.2.1) (slots + B'.2.2) Q (pc + 3) ls (v.toList ++ rest)) : Jd l G Y B M Z cells slots Q pc ls st := by
  intro C H locs A hR hS hA
  refine q_run H locs A rfl C hS hA (va_runIN (As := av) (rest := rest) (g := F0 M.2.2.2.2.1 pc A st) ⟨C.1, C.2.1, C.2.2.1, C.2.2.2.2.1, C.2.2.2.2.2.1⟩ hM ⟨by rw [← hrt]; exact q_cn C hw.1 hw.2.1 hw.2.2.2.2.1 hw.2.2.2.2.2 hB hn, hw.2.2.1, C.2.2.2.2.2.1 _ hw.2.2.2.1⟩ (q_pre C hR hS) rfl rfl hA.1 hst ?_ hd ?_) kk
  · show 2 * 0 + _ ≤ 8; omega
  · rw [C.2.2.2.2.2.2.2.2.2.1]; exact ⟨hc, hs⟩
end QC
end
section
theorem fk_X10_9_9 : fOK RX10 9 9 0 := ⟨_, RX10, rfl, by decide, (ws_t 42 (by decide +kernel) rfl), Or.inl rfl⟩
theorem fk_X11_228_9 : fOK RX11 228 9 0 := ⟨_, RX10, rfl, by decide, (ws_t 43 (by decide +kernel) rfl), Or.inl rfl⟩
theorem fk_X10_15_9 : fOK RX10 15 9 1 := ⟨_, RX10, rfl, by decide, (ws_t 44 (by decide +kernel) rfl), Or.inl rfl⟩
theorem fk_X11_220_9 : fOK RX11 220 9 1 := ⟨_, RX10, rfl, by decide, (ws_t 45 (by decide +kernel) rfl), Or.inl rfl⟩
theorem fk_X10_19_9 : fOK RX10 19 9 2 := ⟨_, RX10, rfl, by decide, (ws_t 46 (by decide +kernel) rfl), Or.inl rfl⟩
theorem fk_X11_223_9 : fOK RX11 223 9 2 := ⟨_, RX10, rfl, by decide, (ws_t 47 (by decide +kernel) rfl), Or.inl rfl⟩
theorem fk_X10_29_9 : fOK RX10 29 9 3 := ⟨_, RX10, rfl, by decide, (ws_t 48 (by decide +kernel) rfl), Or.inl rfl⟩
theorem fk_X11_213_9 : fOK RX11 213 9 3 := ⟨_, RX10, rfl, by decide, (ws_t 49 (by decide +kernel) rfl), Or.inl rfl⟩
theorem fk_X10_26_9 : fOK RX10 26 9 4 := ⟨_, RX10, rfl, by decide, (ws_t 50 (by decide +kernel) rfl), Or.inl rfl⟩
theorem fk_X11_237_9 : fOK RX11 237 9 4 := ⟨_, RX10, rfl, by decide, (ws_t 51 (by decide +kernel) rfl), Or.inl rfl⟩
theorem fk_X10_22_9 : fOK RX10 22 9 5 := ⟨_, RX10, rfl, by decide, (ws_t 52 (by decide +kernel) rfl), Or.inl rfl⟩
theorem fk_X5_15_4 : fOK RX5 15 4 0 := ⟨_, RX5, rfl, by decide, (ws_t 74 (by decide +kernel) rfl), Or.inl rfl⟩
theorem fk_X11_240_4 : fOK RX11 240 4 0 := ⟨_, RX5, rfl, by decide, (ws_t 75 (by decide +kernel) rfl), Or.inl rfl⟩
theorem fk_X5_9_4 : fOK RX5 9 4 1 := ⟨_, RX5, rfl, by decide, (ws_t 76 (by decide +kernel) rfl), Or.inl rfl⟩
theorem fk_X5_19_4 : fOK RX5 19 4 2 := ⟨_, RX5, rfl, by decide, (ws_t 77 (by decide +kernel) rfl), Or.inl rfl⟩
theorem fk_X6_9_5 : fOK RX6 9 5 0 := ⟨_, RX6, rfl, by decide, (ws_t 90 (by decide +kernel) rfl), Or.inl rfl⟩
theorem fk_X7_48_5 : fOK RX7 48 5 0 := ⟨_, RX6, rfl, by decide, (ws_t 91 (by decide +kernel) rfl), Or.inl rfl⟩
theorem fk_X8_109_5 : fOK RX8 109 5 0 := ⟨_, RX6, rfl, by decide, (ws_t 92 (by decide +kernel) rfl), Or.inl rfl⟩
theorem fk_X6_15_5 : fOK RX6 15 5 1 := ⟨_, RX6, rfl, by decide, (ws_t 93 (by decide +kernel) rfl), Or.inl rfl⟩
theorem fk_X7_23_5 : fOK RX7 23 5 1 := ⟨_, RX6, rfl, by decide, (ws_t 94 (by decide +kernel) rfl), Or.inl rfl⟩
theorem fk_X6_19_5 : fOK RX6 19 5 2 := ⟨_, RX6, rfl, by decide, (ws_t 95 (by decide +kernel) rfl), Or.inl rfl⟩
theorem fk_X8_107_5 : fOK RX8 107 5 2 := ⟨_, RX6, rfl, by decide, (ws_t 96 (by decide +kernel) rfl), Or.inl rfl⟩
theorem fk_X11_161_5 : fOK RX11 161 5 2 := ⟨_, RX6, rfl, by decide, (ws_t 97 (by decide +kernel) rfl), Or.inl rfl⟩
theorem fk_X6_22_5 : fOK RX6 22 5 3 := ⟨_, RX6, rfl, by decide, (ws_t 98 (by decide +kernel) rfl), Or.inl rfl⟩
theorem fk_X7_37_5 : fOK RX7 37 5 3 := ⟨_, RX6, rfl, by decide, (ws_t 99 (by decide +kernel) rfl), Or.inl rfl⟩
theorem fk_X0_9_0 : fOK RX0 9 0 0 := ⟨_, RX0, rfl, by decide, (ws_t 114 (by decide +kernel) rfl), Or.inl rfl⟩
theorem fk_X11_79_0 : fOK RX11 79 0 0 := ⟨_, RX0, rfl, by decide, (ws_t 115 (by decide +kernel) rfl), Or.inl rfl⟩
theorem fk_X0_15_0 : fOK RX0 15 0 1 := ⟨_, RX0, rfl, by decide, (ws_t 116 (by decide +kernel) rfl), Or.inl rfl⟩
theorem fk_X11_11_10 : fOK RX11 11 10 0 := ⟨_, RX11, rfl, by decide, (ws_t 122 (by decide +kernel) rfl), Or.inl rfl⟩
theorem fk_X11_17_10 : fOK RX11 17 10 1 := ⟨_, RX11, rfl, by decide, (ws_t 123 (by decide +kernel) rfl), Or.inl rfl⟩
theorem fk_X11_23_10 : fOK RX11 23 10 2 := ⟨_, RX11, rfl, by decide, (ws_t 124 (by decide +kernel) rfl), Or.inl rfl⟩
theorem fk_X11_29_10 : fOK RX11 29 10 3 := ⟨_, RX11, rfl, by decide, (ws_t 125 (by decide +kernel) rfl), Or.inl rfl⟩
theorem fk_X11_97_10 : fOK RX11 97 10 4 := ⟨_, RX11, rfl, by decide, (ws_t 126 (by decide +kernel) rfl), Or.inl rfl⟩
theorem fk_X11_234_10 : fOK RX11 234 10 5 := ⟨_, RX11, rfl, by decide, (ws_t 127 (by decide +kernel) rfl), Or.inl rfl⟩
theorem fk_X11_36_10 : fOK RX11 36 10 6 := ⟨_, RX11, rfl, by decide, (ws_t 128 (by decide +kernel) rfl), Or.inl rfl⟩
theorem fk_X11_43_10 : fOK RX11 43 10 7 := ⟨_, RX11, rfl, by decide, (ws_t 129 (by decide +kernel) rfl), Or.inl rfl⟩
theorem fk_X11_47_10 : fOK RX11 47 10 8 := ⟨_, RX11, rfl, by decide, (ws_t 130 (by decide +kernel) rfl), Or.inl rfl⟩
theorem kl_X6_31 : Cond.constantLong RX6 31 (12) ∈ WS := (ws_t 177 (by decide +kernel) rfl)
theorem fk_X3_17_2 : fOK RX3 17 2 2 := ⟨_, RX3, rfl, by decide, (ws_t 215 (by decide +kernel) rfl), Or.inl rfl⟩
theorem fk_X3_22_2 : fOK RX3 22 2 3 := ⟨_, RX3, rfl, by decide, (ws_t 216 (by decide +kernel) rfl), Or.inl rfl⟩
theorem fk_X3_26_2 : fOK RX3 26 2 4 := ⟨_, RX3, rfl, by decide, (ws_t 217 (by decide +kernel) rfl), Or.inl rfl⟩
theorem fk_X3_29_2 : fOK RX3 29 2 5 := ⟨_, RX3, rfl, by decide, (ws_t 218 (by decide +kernel) rfl), Or.inl rfl⟩
theorem fk_X2_7_1 : fOK RX2 7 1 0 := ⟨_, RX2, rfl, by decide, (ws_t 219 (by decide +kernel) rfl), Or.inl rfl⟩
theorem fk_X2_7_2 : fOK RX2 7 2 0 := ⟨_, RX2, rfl, by decide, (ws_t 219 (by decide +kernel) rfl), Or.inl rfl⟩
theorem fk_X2_7_3 : fOK RX2 7 3 0 := ⟨_, RX2, rfl, by decide, (ws_t 219 (by decide +kernel) rfl), Or.inl rfl⟩
theorem fk_X2_7_6 : fOK RX2 7 6 0 := ⟨_, RX2, rfl, by decide, (ws_t 219 (by decide +kernel) rfl), Or.inl rfl⟩
theorem fk_X7_28_6 : fOK RX7 28 6 0 := ⟨_, RX7, rfl, by decide, (ws_t 220 (by decide +kernel) rfl), Or.inr (ws_t 221 (by decide +kernel) rfl)⟩
theorem fk_X1_29_1 : fOK RX1 29 1 0 := ⟨_, RX1, rfl, by decide, (ws_t 222 (by decide +kernel) rfl), Or.inr (ws_t 223 (by decide +kernel) rfl)⟩
theorem fk_X4_26_3 : fOK RX4 26 3 0 := ⟨_, RX4, rfl, by decide, (ws_t 224 (by decide +kernel) rfl), Or.inr (ws_t 225 (by decide +kernel) rfl)⟩
theorem fk_X3_1_1 : fOK RX3 1 1 1 := ⟨_, RX2, rfl, by decide, (ws_t 226 (by decide +kernel) rfl), Or.inl rfl⟩
theorem fk_X3_1_2 : fOK RX3 1 2 1 := ⟨_, RX2, rfl, by decide, (ws_t 226 (by decide +kernel) rfl), Or.inl rfl⟩
theorem fk_X3_1_3 : fOK RX3 1 3 1 := ⟨_, RX2, rfl, by decide, (ws_t 226 (by decide +kernel) rfl), Or.inl rfl⟩
theorem fk_X3_1_6 : fOK RX3 1 6 1 := ⟨_, RX2, rfl, by decide, (ws_t 226 (by decide +kernel) rfl), Or.inl rfl⟩
theorem fk_X2_13_1 : fOK RX2 13 1 1 := ⟨_, RX2, rfl, by decide, (ws_t 227 (by decide +kernel) rfl), Or.inl rfl⟩
theorem fk_X2_13_2 : fOK RX2 13 2 1 := ⟨_, RX2, rfl, by decide, (ws_t 227 (by decide +kernel) rfl), Or.inl rfl⟩
theorem fk_X2_13_3 : fOK RX2 13 3 1 := ⟨_, RX2, rfl, by decide, (ws_t 227 (by decide +kernel) rfl), Or.inl rfl⟩
theorem fk_X2_13_6 : fOK RX2 13 6 1 := ⟨_, RX2, rfl, by decide, (ws_t 227 (by decide +kernel) rfl), Or.inl rfl⟩
theorem fk_X11_263_1 : fOK RX11 263 1 1 := ⟨_, RX2, rfl, by decide, (ws_t 228 (by decide +kernel) rfl), Or.inl rfl⟩
theorem fk_X11_263_2 : fOK RX11 263 2 1 := ⟨_, RX2, rfl, by decide, (ws_t 228 (by decide +kernel) rfl), Or.inl rfl⟩
theorem fk_X11_263_3 : fOK RX11 263 3 1 := ⟨_, RX2, rfl, by decide, (ws_t 228 (by decide +kernel) rfl), Or.inl rfl⟩
theorem fk_X11_263_6 : fOK RX11 263 6 1 := ⟨_, RX2, rfl, by decide, (ws_t 228 (by decide +kernel) rfl), Or.inl rfl⟩
theorem fk_X7_9_6 : fOK RX7 9 6 2 := ⟨_, RX7, rfl, by decide, (ws_t 256 (by decide +kernel) rfl), Or.inl rfl⟩
theorem fk_X7_15_6 : fOK RX7 15 6 3 := ⟨_, RX7, rfl, by decide, (ws_t 257 (by decide +kernel) rfl), Or.inl rfl⟩
theorem fk_X7_19_6 : fOK RX7 19 6 4 := ⟨_, RX7, rfl, by decide, (ws_t 258 (by decide +kernel) rfl), Or.inl rfl⟩
theorem kl_X11_253 : Cond.constantLong RX11 253 (3) ∈ WS := (ws_t 274 (by decide +kernel) rfl)
theorem fk_X1_9_1 : fOK RX1 9 1 2 := ⟨_, RX1, rfl, by decide, (ws_t 282 (by decide +kernel) rfl), Or.inl rfl⟩
theorem fk_X1_15_1 : fOK RX1 15 1 3 := ⟨_, RX1, rfl, by decide, (ws_t 283 (by decide +kernel) rfl), Or.inl rfl⟩
theorem fk_X4_9_3 : fOK RX4 9 3 2 := ⟨_, RX4, rfl, by decide, (ws_t 297 (by decide +kernel) rfl), Or.inl rfl⟩
theorem fk_X4_15_3 : fOK RX4 15 3 3 := ⟨_, RX4, rfl, by decide, (ws_t 298 (by decide +kernel) rfl), Or.inl rfl⟩
theorem fk_X4_18_3 : fOK RX4 18 3 4 := ⟨_, RX4, rfl, by decide, (ws_t 299 (by decide +kernel) rfl), Or.inl rfl⟩
theorem kl_X1_38 : Cond.constantLong RX1 38 (3) ∈ WS := (ws_t 326 (by decide +kernel) rfl)
theorem kl_X4_39 : Cond.constantLong RX4 39 (12) ∈ WS := (ws_t 354 (by decide +kernel) rfl)
theorem kl_X11_122 : Cond.constantLong RX11 122 (-1) ∈ WS := (ws_t 388 (by decide +kernel) rfl)
theorem kl_X11_267 : Cond.constantLong RX11 267 (-9223372036854775808) ∈ WS := (ws_t 395 (by decide +kernel) rfl)
theorem kl_X11_130 : Cond.constantLong RX11 130 (9223372036854775807) ∈ WS := (ws_t 396 (by decide +kernel) rfl)
theorem fk_X9_7_8 : fOK RX9 7 8 0 := ⟨_, RX9, rfl, by decide, (ws_t 404 (by decide +kernel) rfl), Or.inl rfl⟩
theorem fk_X9_13_8 : fOK RX9 13 8 1 := ⟨_, RX9, rfl, by decide, (ws_t 405 (by decide +kernel) rfl), Or.inl rfl⟩
theorem fk_X9_16_8 : fOK RX9 16 8 2 := ⟨_, RX9, rfl, by decide, (ws_t 406 (by decide +kernel) rfl), Or.inl rfl⟩
theorem fk_X9_20_8 : fOK RX9 20 8 3 := ⟨_, RX9, rfl, by decide, (ws_t 407 (by decide +kernel) rfl), Or.inl rfl⟩
theorem fk_X5_27_8 : fOK RX5 27 8 3 := ⟨_, RX9, rfl, by decide, (ws_t 408 (by decide +kernel) rfl), Or.inl rfl⟩
theorem fk_X8_87_8 : fOK RX8 87 8 3 := ⟨_, RX9, rfl, by decide, (ws_t 409 (by decide +kernel) rfl), Or.inl rfl⟩
theorem fk_X8_11_7 : fOK RX8 11 7 0 := ⟨_, RX8, rfl, by decide, (ws_t 423 (by decide +kernel) rfl), Or.inl rfl⟩
theorem fk_X11_151_7 : fOK RX11 151 7 0 := ⟨_, RX8, rfl, by decide, (ws_t 424 (by decide +kernel) rfl), Or.inl rfl⟩
theorem fk_X8_15_7 : fOK RX8 15 7 1 := ⟨_, RX8, rfl, by decide, (ws_t 425 (by decide +kernel) rfl), Or.inl rfl⟩
theorem fk_X11_266_7 : fOK RX11 266 7 1 := ⟨_, RX8, rfl, by decide, (ws_t 426 (by decide +kernel) rfl), Or.inl rfl⟩
theorem fk_X8_18_7 : fOK RX8 18 7 2 := ⟨_, RX8, rfl, by decide, (ws_t 427 (by decide +kernel) rfl), Or.inl rfl⟩
theorem fk_X11_175_7 : fOK RX11 175 7 2 := ⟨_, RX8, rfl, by decide, (ws_t 428 (by decide +kernel) rfl), Or.inl rfl⟩
theorem fk_X8_22_7 : fOK RX8 22 7 3 := ⟨_, RX8, rfl, by decide, (ws_t 429 (by decide +kernel) rfl), Or.inl rfl⟩
theorem fk_X11_154_7 : fOK RX11 154 7 3 := ⟨_, RX8, rfl, by decide, (ws_t 430 (by decide +kernel) rfl), Or.inl rfl⟩
theorem fk_X8_26_7 : fOK RX8 26 7 4 := ⟨_, RX8, rfl, by decide, (ws_t 431 (by decide +kernel) rfl), Or.inl rfl⟩
theorem fk_X8_30_7 : fOK RX8 30 7 5 := ⟨_, RX8, rfl, by decide, (ws_t 432 (by decide +kernel) rfl), Or.inl rfl⟩
theorem fk_X8_33_7 : fOK RX8 33 7 6 := ⟨_, RX8, rfl, by decide, (ws_t 433 (by decide +kernel) rfl), Or.inl rfl⟩
theorem fk_X8_37_7 : fOK RX8 37 7 7 := ⟨_, RX8, rfl, by decide, (ws_t 434 (by decide +kernel) rfl), Or.inl rfl⟩
theorem fk_X8_40_7 : fOK RX8 40 7 8 := ⟨_, RX8, rfl, by decide, (ws_t 435 (by decide +kernel) rfl), Or.inl rfl⟩
theorem kl_X8_90 : Cond.constantLong RX8 90 (200) ∈ WS := (ws_t 530 (by decide +kernel) rfl)
theorem kl_X9_23 : Cond.constantLong RX9 23 (-1) ∈ WS := (ws_t 607 (by decide +kernel) rfl)
theorem fk_X12_99_11 : fOK RX12 99 11 0 := ⟨_, RX12, rfl, by decide, (ws_t 736 (by decide +kernel) rfl), Or.inl rfl⟩
theorem fk_X12_7_11 : fOK RX12 7 11 1 := ⟨_, RX12, rfl, by decide, (ws_t 737 (by decide +kernel) rfl), Or.inl rfl⟩
theorem fk_X12_13_11 : fOK RX12 13 11 2 := ⟨_, RX12, rfl, by decide, (ws_t 738 (by decide +kernel) rfl), Or.inl rfl⟩
theorem fk_X12_16_11 : fOK RX12 16 11 3 := ⟨_, RX12, rfl, by decide, (ws_t 739 (by decide +kernel) rfl), Or.inl rfl⟩
theorem fk_X12_20_11 : fOK RX12 20 11 4 := ⟨_, RX12, rfl, by decide, (ws_t 740 (by decide +kernel) rfl), Or.inl rfl⟩
theorem fk_X12_23_11 : fOK RX12 23 11 5 := ⟨_, RX12, rfl, by decide, (ws_t 741 (by decide +kernel) rfl), Or.inl rfl⟩
theorem fk_X12_103_11 : fOK RX12 103 11 6 := ⟨_, RX12, rfl, by decide, (ws_t 742 (by decide +kernel) rfl), Or.inl rfl⟩
theorem fk_X12_26_11 : fOK RX12 26 11 7 := ⟨_, RX12, rfl, by decide, (ws_t 743 (by decide +kernel) rfl), Or.inl rfl⟩
theorem fk_X12_29_11 : fOK RX12 29 11 8 := ⟨_, RX12, rfl, by decide, (ws_t 744 (by decide +kernel) rfl), Or.inl rfl⟩
theorem fk_X12_32_11 : fOK RX12 32 11 9 := ⟨_, RX12, rfl, by decide, (ws_t 745 (by decide +kernel) rfl), Or.inl rfl⟩
theorem fk_X12_35_11 : fOK RX12 35 11 10 := ⟨_, RX12, rfl, by decide, (ws_t 746 (by decide +kernel) rfl), Or.inl rfl⟩
theorem fk_X12_38_11 : fOK RX12 38 11 11 := ⟨_, RX12, rfl, by decide, (ws_t 747 (by decide +kernel) rfl), Or.inl rfl⟩
theorem fk_X12_41_11 : fOK RX12 41 11 12 := ⟨_, RX12, rfl, by decide, (ws_t 748 (by decide +kernel) rfl), Or.inl rfl⟩
theorem fk_X12_113_11 : fOK RX12 113 11 13 := ⟨_, RX12, rfl, by decide, (ws_t 749 (by decide +kernel) rfl), Or.inl rfl⟩
theorem fk_X12_116_11 : fOK RX12 116 11 14 := ⟨_, RX12, rfl, by decide, (ws_t 750 (by decide +kernel) rfl), Or.inl rfl⟩
theorem fk_X12_110_11 : fOK RX12 110 11 15 := ⟨_, RX12, rfl, by decide, (ws_t 751 (by decide +kernel) rfl), Or.inl rfl⟩
theorem fk_X12_137_11 : fOK RX12 137 11 16 := ⟨_, RX12, rfl, by decide, (ws_t 752 (by decide +kernel) rfl), Or.inl rfl⟩
theorem fk_X12_44_11 : fOK RX12 44 11 17 := ⟨_, RX12, rfl, by decide, (ws_t 753 (by decide +kernel) rfl), Or.inl rfl⟩
theorem fk_X12_47_11 : fOK RX12 47 11 18 := ⟨_, RX12, rfl, by decide, (ws_t 754 (by decide +kernel) rfl), Or.inl rfl⟩
theorem fk_X12_50_11 : fOK RX12 50 11 19 := ⟨_, RX12, rfl, by decide, (ws_t 755 (by decide +kernel) rfl), Or.inl rfl⟩
theorem fk_X12_53_11 : fOK RX12 53 11 20 := ⟨_, RX12, rfl, by decide, (ws_t 756 (by decide +kernel) rfl), Or.inl rfl⟩
theorem fk_X12_56_11 : fOK RX12 56 11 21 := ⟨_, RX12, rfl, by decide, (ws_t 757 (by decide +kernel) rfl), Or.inl rfl⟩
theorem fk_X12_59_11 : fOK RX12 59 11 22 := ⟨_, RX12, rfl, by decide, (ws_t 758 (by decide +kernel) rfl), Or.inl rfl⟩
theorem fk_X12_62_11 : fOK RX12 62 11 23 := ⟨_, RX12, rfl, by decide, (ws_t 759 (by decide +kernel) rfl), Or.inl rfl⟩
theorem fk_X12_65_11 : fOK RX12 65 11 24 := ⟨_, RX12, rfl, by decide, (ws_t 760 (by decide +kernel) rfl), Or.inl rfl⟩
theorem fk_X12_69_11 : fOK RX12 69 11 25 := ⟨_, RX12, rfl, by decide, (ws_t 761 (by decide +kernel) rfl), Or.inl rfl⟩
theorem fk_X12_72_11 : fOK RX12 72 11 26 := ⟨_, RX12, rfl, by decide, (ws_t 762 (by decide +kernel) rfl), Or.inl rfl⟩
theorem fk_X12_75_11 : fOK RX12 75 11 27 := ⟨_, RX12, rfl, by decide, (ws_t 763 (by decide +kernel) rfl), Or.inl rfl⟩
theorem fk_X12_78_11 : fOK RX12 78 11 28 := ⟨_, RX12, rfl, by decide, (ws_t 764 (by decide +kernel) rfl), Or.inl rfl⟩
theorem fk_X12_81_11 : fOK RX12 81 11 29 := ⟨_, RX12, rfl, by decide, (ws_t 765 (by decide +kernel) rfl), Or.inl rfl⟩
theorem fk_X12_84_11 : fOK RX12 84 11 30 := ⟨_, RX12, rfl, by decide, (ws_t 766 (by decide +kernel) rfl), Or.inl rfl⟩
theorem fk_X12_159_11 : fOK RX12 159 11 31 := ⟨_, RX12, rfl, by decide, (ws_t 767 (by decide +kernel) rfl), Or.inl rfl⟩
theorem fk_X12_187_11 : fOK RX12 187 11 32 := ⟨_, RX12, rfl, by decide, (ws_t 768 (by decide +kernel) rfl), Or.inl rfl⟩
theorem fk_X12_87_11 : fOK RX12 87 11 33 := ⟨_, RX12, rfl, by decide, (ws_t 769 (by decide +kernel) rfl), Or.inl rfl⟩
theorem fk_X12_90_11 : fOK RX12 90 11 34 := ⟨_, RX12, rfl, by decide, (ws_t 770 (by decide +kernel) rfl), Or.inl rfl⟩
theorem fk_X12_93_11 : fOK RX12 93 11 35 := ⟨_, RX12, rfl, by decide, (ws_t 771 (by decide +kernel) rfl), Or.inl rfl⟩
theorem fk_X12_199_11 : fOK RX12 199 11 36 := ⟨_, RX12, rfl, by decide, (ws_t 772 (by decide +kernel) rfl), Or.inl rfl⟩
theorem fk_X12_202_11 : fOK RX12 202 11 37 := ⟨_, RX12, rfl, by decide, (ws_t 773 (by decide +kernel) rfl), Or.inl rfl⟩
theorem fk_X12_206_11 : fOK RX12 206 11 38 := ⟨_, RX12, rfl, by decide, (ws_t 774 (by decide +kernel) rfl), Or.inl rfl⟩
theorem fk_X12_209_11 : fOK RX12 209 11 39 := ⟨_, RX12, rfl, by decide, (ws_t 775 (by decide +kernel) rfl), Or.inl rfl⟩
theorem fk_X12_96_11 : fOK RX12 96 11 40 := ⟨_, RX12, rfl, by decide, (ws_t 776 (by decide +kernel) rfl), Or.inl rfl⟩
theorem kl_X12_123 : Cond.constantLong RX12 123 (-1) ∈ WS := (ws_t 897 (by decide +kernel) rfl)
theorem kl_X12_125 : Cond.constantLong RX12 125 (12) ∈ WS := (ws_t 898 (by decide +kernel) rfl)
theorem kl_X12_135 : Cond.constantLong RX12 135 (3) ∈ WS := (ws_t 903 (by decide +kernel) rfl)
theorem kl_X12_140 : Cond.constantLong RX12 140 (2) ∈ WS := (ws_t 915 (by decide +kernel) rfl)
theorem kl_X12_148 : Cond.constantLong RX12 148 (9223372036854775807) ∈ WS := (ws_t 916 (by decide +kernel) rfl)
theorem kl_X12_157 : Cond.constantLong RX12 157 (200) ∈ WS := (ws_t 945 (by decide +kernel) rfl)
theorem kl_X12_193 : Cond.constantLong RX12 193 (-9223372036854775808) ∈ WS := (ws_t 976 (by decide +kernel) rfl)
theorem kl_L_31 : Cond.constantLong RL 31 (4294967295) ∈ WS := (ws_t 1015 (by decide +kernel) rfl)
theorem nk_L_8 : nOK RL 8 10 := ⟨_, rfl, (ws_t 20 (by decide +kernel) rfl), (ws_t 21 (by decide +kernel) rfl), (ws_t 1 (by decide +kernel) rfl)⟩
theorem nk_X11_9 : nOK RX11 9 5 := ⟨_, rfl, (ws_t 28 (by decide +kernel) rfl), (ws_t 85 (by decide +kernel) rfl), (ws_t 4 (by decide +kernel) rfl)⟩
theorem ck_X11_9 : Cond.classLink RX11 9 RX6 ∈ WS := (ws_t 28 (by decide +kernel) rfl)
theorem nk_X11_15 : nOK RX11 15 0 := ⟨_, rfl, (ws_t 30 (by decide +kernel) rfl), (ws_t 109 (by decide +kernel) rfl), (ws_t 5 (by decide +kernel) rfl)⟩
theorem ck_X11_15 : Cond.classLink RX11 15 RX0 ∈ WS := (ws_t 30 (by decide +kernel) rfl)
theorem ck_X11_21 : Cond.classLink RX11 21 RX2 ∈ WS := (ws_t 32 (by decide +kernel) rfl)
theorem nk_X11_27 : nOK RX11 27 7 := ⟨_, rfl, (ws_t 34 (by decide +kernel) rfl), (ws_t 397 (by decide +kernel) rfl), (ws_t 14 (by decide +kernel) rfl)⟩
theorem ck_X11_27 : Cond.classLink RX11 27 RX8 ∈ WS := (ws_t 34 (by decide +kernel) rfl)
theorem nk_X11_33 : nOK RX11 33 9 := ⟨_, rfl, (ws_t 36 (by decide +kernel) rfl), (ws_t 37 (by decide +kernel) rfl), (ws_t 2 (by decide +kernel) rfl)⟩
theorem nk_X11_40 : nOK RX11 40 4 := ⟨_, rfl, (ws_t 68 (by decide +kernel) rfl), (ws_t 69 (by decide +kernel) rfl), (ws_t 3 (by decide +kernel) rfl)⟩
theorem nk_X11_241 : nOK RX11 241 2 := ⟨_, rfl, (ws_t 203 (by decide +kernel) rfl), (ws_t 204 (by decide +kernel) rfl), (ws_t 9 (by decide +kernel) rfl)⟩
theorem nk_X11_246 : nOK RX11 246 6 := ⟨_, rfl, (ws_t 250 (by decide +kernel) rfl), (ws_t 251 (by decide +kernel) rfl), (ws_t 11 (by decide +kernel) rfl)⟩
theorem nk_X11_251 : nOK RX11 251 1 := ⟨_, rfl, (ws_t 272 (by decide +kernel) rfl), (ws_t 273 (by decide +kernel) rfl), (ws_t 12 (by decide +kernel) rfl)⟩
theorem nk_X11_95 : nOK RX11 95 3 := ⟨_, rfl, (ws_t 291 (by decide +kernel) rfl), (ws_t 292 (by decide +kernel) rfl), (ws_t 13 (by decide +kernel) rfl)⟩
theorem nk_X11_132 : nOK RX11 132 8 := ⟨_, rfl, (ws_t 398 (by decide +kernel) rfl), (ws_t 399 (by decide +kernel) rfl), (ws_t 15 (by decide +kernel) rfl)⟩
theorem nk_X9_8 : nOK RX9 8 8 := ⟨_, rfl, (ws_t 477 (by decide +kernel) rfl), (ws_t 399 (by decide +kernel) rfl), (ws_t 15 (by decide +kernel) rfl)⟩
theorem nk_L_23 : nOK RL 23 11 := ⟨_, rfl, (ws_t 730 (by decide +kernel) rfl), (ws_t 731 (by decide +kernel) rfl), (ws_t 6 (by decide +kernel) rfl)⟩
abbrev YX11_init : Yt := (yX11_init, cX11_init, 2, none)
theorem cd_X11_init : Cond.code YX11_init.1 YX11_init.2.1 YX11_init.2.2.1 YX11_init.2.2.2 ∈ WS := (ws_t 24 (by decide +kernel) rfl)
abbrev YX10_init : Yt := (yX10_init, cX10_init, 1, none)
theorem cd_X10_init : Cond.code YX10_init.1 YX10_init.2.1 YX10_init.2.2.1 YX10_init.2.2.2 ∈ WS := (ws_t 40 (by decide +kernel) rfl)
abbrev YX5_init : Yt := (yX5_init, cX5_init, 1, none)
theorem cd_X5_init : Cond.code YX5_init.1 YX5_init.2.1 YX5_init.2.2.1 YX5_init.2.2.2 ∈ WS := (ws_t 72 (by decide +kernel) rfl)
abbrev YX6_init : Yt := (yX6_init, cX6_init, 1, none)
theorem cd_X6_init : Cond.code YX6_init.1 YX6_init.2.1 YX6_init.2.2.1 YX6_init.2.2.2 ∈ WS := (ws_t 88 (by decide +kernel) rfl)
abbrev YX0_init : Yt := (yX0_init, cX0_init, 2, none)
theorem cd_X0_init : Cond.code YX0_init.1 YX0_init.2.1 YX0_init.2.2.1 YX0_init.2.2.2 ∈ WS := (ws_t 112 (by decide +kernel) rfl)
abbrev YX11_shelf : Yt := (yX11_shelf, cX11_shelf, 6, (some .int))
theorem cd_X11_shelf : Cond.code YX11_shelf.1 YX11_shelf.2.1 YX11_shelf.2.2.1 YX11_shelf.2.2.2 ∈ WS := (ws_t 153 (by decide +kernel) rfl)
abbrev YX11_shelfAt : Yt := (yX11_shelfAt, cX11_shelfAt, 2, (some (.object "CandidateRanges$Shelf")))
theorem cd_X11_shelfAt : Cond.code YX11_shelfAt.1 YX11_shelfAt.2.1 YX11_shelfAt.2.2.1 YX11_shelfAt.2.2.2 ∈ WS := (ws_t 157 (by decide +kernel) rfl)
abbrev YX6_hold : Yt := (yX6_hold, cX6_hold, 3, none)
theorem cd_X6_hold : Cond.code YX6_hold.1 YX6_hold.2.1 YX6_hold.2.2.1 YX6_hold.2.2.2 ∈ WS := (ws_t 161 (by decide +kernel) rfl)
abbrev YJ7_fill_d0a16 : Yt := (yJ7_fill_d0a16, cJ7_fill_d0a16, 5, none)
theorem cd_J7_fill_d0a16 : Cond.code YJ7_fill_d0a16.1 YJ7_fill_d0a16.2.1 YJ7_fill_d0a16.2.2.1 YJ7_fill_d0a16.2.2.2 ∈ WS := (ws_t 164 (by decide +kernel) rfl)
abbrev YX11_item : Yt := (yX11_item, cX11_item, 7, (some .int))
theorem cd_X11_item : Cond.code YX11_item.1 YX11_item.2.1 YX11_item.2.2.1 YX11_item.2.2.2 ∈ WS := (ws_t 168 (by decide +kernel) rfl)
abbrev YX6_rowFailure : Yt := (yX6_rowFailure, cX6_rowFailure, 1, (some .int))
theorem cd_X6_rowFailure : Cond.code YX6_rowFailure.1 YX6_rowFailure.2.1 YX6_rowFailure.2.2.1 YX6_rowFailure.2.2.2 ∈ WS := (ws_t 172 (by decide +kernel) rfl)
abbrev YX6_hasItem : Yt := (yX6_hasItem, cX6_hasItem, 3, (some .boolean))
theorem cd_X6_hasItem : Cond.code YX6_hasItem.1 YX6_hasItem.2.1 YX6_hasItem.2.2.1 YX6_hasItem.2.2.2 ∈ WS := (ws_t 176 (by decide +kernel) rfl)
abbrev YX6_setItem : Yt := (yX6_setItem, cX6_setItem, 4, none)
theorem cd_X6_setItem : Cond.code YX6_setItem.1 YX6_setItem.2.1 YX6_setItem.2.2.1 YX6_setItem.2.2.2 ∈ WS := (ws_t 181 (by decide +kernel) rfl)
abbrev YX11_box : Yt := (yX11_box, cX11_box, 4, (some .int))
theorem cd_X11_box : Cond.code YX11_box.1 YX11_box.2.1 YX11_box.2.2.1 YX11_box.2.2.2 ∈ WS := (ws_t 186 (by decide +kernel) rfl)
abbrev YX11_boxAt : Yt := (yX11_boxAt, cX11_boxAt, 2, (some (.object "CandidateRanges$Box")))
theorem cd_X11_boxAt : Cond.code YX11_boxAt.1 YX11_boxAt.2.1 YX11_boxAt.2.2.1 YX11_boxAt.2.2.2 ∈ WS := (ws_t 190 (by decide +kernel) rfl)
abbrev YX11_filter : Yt := (yX11_filter, cX11_filter, 6, (some .int))
theorem cd_X11_filter : Cond.code YX11_filter.1 YX11_filter.2.1 YX11_filter.2.2.1 YX11_filter.2.2.2 ∈ WS := (ws_t 194 (by decide +kernel) rfl)
abbrev YX11_filterOfFilters : Yt := (yX11_filterOfFilters, cX11_filterOfFilters, 7, (some .int))
theorem cd_X11_filterOfFilters : Cond.code YX11_filterOfFilters.1 YX11_filterOfFilters.2.1 YX11_filterOfFilters.2.2.1 YX11_filterOfFilters.2.2.2 ∈ WS := (ws_t 198 (by decide +kernel) rfl)
abbrev YX11_filterAt : Yt := (yX11_filterAt, cX11_filterAt, 2, (some (.object "CandidateRanges$Filter")))
theorem cd_X11_filterAt : Cond.code YX11_filterAt.1 YX11_filterAt.2.1 YX11_filterAt.2.2.1 YX11_filterAt.2.2.2 ∈ WS := (ws_t 202 (by decide +kernel) rfl)
abbrev YX3_init : Yt := (yX3_init, cX3_init, 5, none)
theorem cd_X3_init : Cond.code YX3_init.1 YX3_init.2.1 YX3_init.2.2.1 YX3_init.2.2.2 ∈ WS := (ws_t 207 (by decide +kernel) rfl)
abbrev YJ9_max_7cf53 : Yt := (yJ9_max_7cf53, cJ9_max_7cf53, 2, (some .int))
theorem cd_J9_max_7cf53 : Cond.code YJ9_max_7cf53.1 YJ9_max_7cf53.2.1 YJ9_max_7cf53.2.2.1 YJ9_max_7cf53.2.2.2 ∈ WS := (ws_t 210 (by decide +kernel) rfl)
abbrev YX2_init : Yt := (yX2_init, cX2_init, 3, none)
theorem cd_X2_init : Cond.code YX2_init.1 YX2_init.2.1 YX2_init.2.2.1 YX2_init.2.2.2 ∈ WS := (ws_t 213 (by decide +kernel) rfl)
abbrev YX11_keepFilter : Yt := (yX11_keepFilter, cX11_keepFilter, 2, (some .int))
theorem cd_X11_keepFilter : Cond.code YX11_keepFilter.1 YX11_keepFilter.2.1 YX11_keepFilter.2.2.1 YX11_keepFilter.2.2.2 ∈ WS := (ws_t 245 (by decide +kernel) rfl)
abbrev YX11_filterOfShelf : Yt := (yX11_filterOfShelf, cX11_filterOfShelf, 7, (some .int))
theorem cd_X11_filterOfShelf : Cond.code YX11_filterOfShelf.1 YX11_filterOfShelf.2.1 YX11_filterOfShelf.2.2.1 YX11_filterOfShelf.2.2.2 ∈ WS := (ws_t 249 (by decide +kernel) rfl)
abbrev YX7_init : Yt := (yX7_init, cX7_init, 6, none)
theorem cd_X7_init : Cond.code YX7_init.1 YX7_init.2.1 YX7_init.2.2.1 YX7_init.2.2.2 ∈ WS := (ws_t 254 (by decide +kernel) rfl)
abbrev YX11_filterOfBox : Yt := (yX11_filterOfBox, cX11_filterOfBox, 5, (some .int))
theorem cd_X11_filterOfBox : Cond.code YX11_filterOfBox.1 YX11_filterOfBox.2.1 YX11_filterOfBox.2.2.1 YX11_filterOfBox.2.2.2 ∈ WS := (ws_t 271 (by decide +kernel) rfl)
abbrev YJ9_abs_067f4 : Yt := (yJ9_abs_067f4, cJ9_abs_067f4, 2, (some .long))
theorem cd_J9_abs_067f4 : Cond.code YJ9_abs_067f4.1 YJ9_abs_067f4.2.1 YJ9_abs_067f4.2.2.1 YJ9_abs_067f4.2.2.2 ∈ WS := (ws_t 277 (by decide +kernel) rfl)
abbrev YX1_init : Yt := (yX1_init, cX1_init, 4, none)
theorem cd_X1_init : Cond.code YX1_init.1 YX1_init.2.1 YX1_init.2.2.1 YX1_init.2.2.2 ∈ WS := (ws_t 280 (by decide +kernel) rfl)
abbrev YX4_init : Yt := (yX4_init, cX4_init, 6, none)
theorem cd_X4_init : Cond.code YX4_init.1 YX4_init.2.1 YX4_init.2.2.1 YX4_init.2.2.2 ∈ WS := (ws_t 295 (by decide +kernel) rfl)
abbrev YX11_ask : Yt := (yX11_ask, cX11_ask, 5, (some .int))
theorem cd_X11_ask : Cond.code YX11_ask.1 YX11_ask.2.1 YX11_ask.2.2.1 YX11_ask.2.2.2 ∈ WS := (ws_t 312 (by decide +kernel) rfl)
abbrev YX10_beginAsk : Yt := (yX10_beginAsk, cX10_beginAsk, 1, none)
theorem cd_X10_beginAsk : Cond.code YX10_beginAsk.1 YX10_beginAsk.2.1 YX10_beginAsk.2.2.1 YX10_beginAsk.2.2.2 ∈ WS := (ws_t 316 (by decide +kernel) rfl)
abbrev YX1_judge : Yt := (yX1_judge, cX1_judge, 4, (some .int))
theorem cd_X1_judge : Cond.code YX1_judge.1 YX1_judge.2.1 YX1_judge.2.2.1 YX1_judge.2.2.2 ∈ WS := (ws_t 322 (by decide +kernel) rfl)
abbrev YX1_thingFor : Yt := (yX1_thingFor, cX1_thingFor, 4, (some .int))
theorem cd_X1_thingFor : Cond.code YX1_thingFor.1 YX1_thingFor.2.1 YX1_thingFor.2.2.1 YX1_thingFor.2.2.2 ∈ WS := (ws_t 325 (by decide +kernel) rfl)
abbrev YX0_put : Yt := (yX0_put, cX0_put, 3, (some .boolean))
theorem cd_X0_put : Cond.code YX0_put.1 YX0_put.2.1 YX0_put.2.2.1 YX0_put.2.2.2 ∈ WS := (ws_t 330 (by decide +kernel) rfl)
abbrev YX0_takes : Yt := (yX0_takes, cX0_takes, 2, (some .boolean))
theorem cd_X0_takes : Cond.code YX0_takes.1 YX0_takes.2.1 YX0_takes.2.2.1 YX0_takes.2.2.2 ∈ WS := (ws_t 334 (by decide +kernel) rfl)
abbrev YX10_fail : Yt := (yX10_fail, cX10_fail, 3, (some .int))
theorem cd_X10_fail : Cond.code YX10_fail.1 YX10_fail.2.1 YX10_fail.2.2.1 YX10_fail.2.2.2 ∈ WS := (ws_t 338 (by decide +kernel) rfl)
abbrev YX3_judge : Yt := (yX3_judge, cX3_judge, 5, (some .int))
theorem cd_X3_judge : Cond.code YX3_judge.1 YX3_judge.2.1 YX3_judge.2.2.1 YX3_judge.2.2.2 ∈ WS := (ws_t 341 (by decide +kernel) rfl)
abbrev YX4_judge : Yt := (yX4_judge, cX4_judge, 4, (some .int))
theorem cd_X4_judge : Cond.code YX4_judge.1 YX4_judge.2.1 YX4_judge.2.2.1 YX4_judge.2.2.2 ∈ WS := (ws_t 344 (by decide +kernel) rfl)
abbrev YX2_verdict : Yt := (yX2_verdict, cX2_verdict, 1, (some .int))
theorem cd_X2_verdict : Cond.code YX2_verdict.1 YX2_verdict.2.1 YX2_verdict.2.2.1 YX2_verdict.2.2.2 ∈ WS := (ws_t 348 (by decide +kernel) rfl)
abbrev YX4_judgeRoom : Yt := (yX4_judgeRoom, cX4_judgeRoom, 4, (some .int))
theorem cd_X4_judgeRoom : Cond.code YX4_judgeRoom.1 YX4_judgeRoom.2.1 YX4_judgeRoom.2.2.1 YX4_judgeRoom.2.2.2 ∈ WS := (ws_t 353 (by decide +kernel) rfl)
abbrev YX7_judge : Yt := (yX7_judge, cX7_judge, 4, (some .int))
theorem cd_X7_judge : Cond.code YX7_judge.1 YX7_judge.2.1 YX7_judge.2.2.1 YX7_judge.2.2.2 ∈ WS := (ws_t 356 (by decide +kernel) rfl)
abbrev YX3_leavesItToSecond : Yt := (yX3_leavesItToSecond, cX3_leavesItToSecond, 2, (some .boolean))
theorem cd_X3_leavesItToSecond : Cond.code YX3_leavesItToSecond.1 YX3_leavesItToSecond.2.1 YX3_leavesItToSecond.2.2.1 YX3_leavesItToSecond.2.2.2 ∈ WS := (ws_t 364 (by decide +kernel) rfl)
abbrev YX10_canBeMet : Yt := (yX10_canBeMet, cX10_canBeMet, 1, (some .boolean))
theorem cd_X10_canBeMet : Cond.code YX10_canBeMet.1 YX10_canBeMet.2.1 YX10_canBeMet.2.2.1 YX10_canBeMet.2.2.2 ∈ WS := (ws_t 367 (by decide +kernel) rfl)
abbrev YX11_asked : Yt := (yX11_asked, cX11_asked, 3, (some .int))
theorem cd_X11_asked : Cond.code YX11_asked.1 YX11_asked.2.1 YX11_asked.2.2.1 YX11_asked.2.2.2 ∈ WS := (ws_t 373 (by decide +kernel) rfl)
abbrev YX3_timesAsked : Yt := (yX3_timesAsked, cX3_timesAsked, 1, (some .int))
theorem cd_X3_timesAsked : Cond.code YX3_timesAsked.1 YX3_timesAsked.2.1 YX3_timesAsked.2.2.1 YX3_timesAsked.2.2.2 ∈ WS := (ws_t 380 (by decide +kernel) rfl)
abbrev YX2_timesAsked : Yt := (yX2_timesAsked, cX2_timesAsked, 1, (some .int))
theorem cd_X2_timesAsked : Cond.code YX2_timesAsked.1 YX2_timesAsked.2.1 YX2_timesAsked.2.2.1 YX2_timesAsked.2.2.2 ∈ WS := (ws_t 383 (by decide +kernel) rfl)
abbrev YX11_span : Yt := (yX11_span, cX11_span, 9, (some .int))
theorem cd_X11_span : Cond.code YX11_span.1 YX11_span.2.1 YX11_span.2.2.1 YX11_span.2.2.2 ∈ WS := (ws_t 387 (by decide +kernel) rfl)
abbrev YX11_unsignedQuotient : Yt := (yX11_unsignedQuotient, cX11_unsignedQuotient, 6, (some .long))
theorem cd_X11_unsignedQuotient : Cond.code YX11_unsignedQuotient.1 YX11_unsignedQuotient.2.1 YX11_unsignedQuotient.2.2.1 YX11_unsignedQuotient.2.2.2 ∈ WS := (ws_t 391 (by decide +kernel) rfl)
abbrev YX11_unsignedBelow : Yt := (yX11_unsignedBelow, cX11_unsignedBelow, 4, (some .boolean))
theorem cd_X11_unsignedBelow : Cond.code YX11_unsignedBelow.1 YX11_unsignedBelow.2.1 YX11_unsignedBelow.2.2.1 YX11_unsignedBelow.2.2.2 ∈ WS := (ws_t 394 (by decide +kernel) rfl)
abbrev YX9_init : Yt := (yX9_init, cX9_init, 8, none)
theorem cd_X9_init : Cond.code YX9_init.1 YX9_init.2.1 YX9_init.2.2.1 YX9_init.2.2.2 ∈ WS := (ws_t 402 (by decide +kernel) rfl)
abbrev YX8_init : Yt := (yX8_init, cX8_init, 2, none)
theorem cd_X8_init : Cond.code YX8_init.1 YX8_init.2.1 YX8_init.2.2.1 YX8_init.2.2.2 ∈ WS := (ws_t 421 (by decide +kernel) rfl)
abbrev YX11_keepSource : Yt := (yX11_keepSource, cX11_keepSource, 2, (some .int))
theorem cd_X11_keepSource : Cond.code YX11_keepSource.1 YX11_keepSource.2.1 YX11_keepSource.2.2.1 YX11_keepSource.2.2.2 ∈ WS := (ws_t 458 (by decide +kernel) rfl)
abbrev YX11_list : Yt := (yX11_list, cX11_list, 2, (some .int))
theorem cd_X11_list : Cond.code YX11_list.1 YX11_list.2.1 YX11_list.2.2.1 YX11_list.2.2.2 ∈ WS := (ws_t 462 (by decide +kernel) rfl)
abbrev YX8_init_ : Yt := (yX8_init_, cX8_init_, 9, none)
theorem cd_X8_init_ : Cond.code YX8_init_.1 YX8_init_.2.1 YX8_init_.2.2.1 YX8_init_.2.2.2 ∈ WS := (ws_t 465 (by decide +kernel) rfl)
abbrev YX8_depthOver : Yt := (yX8_depthOver, cX8_depthOver, 2, (some .int))
theorem cd_X8_depthOver : Cond.code YX8_depthOver.1 YX8_depthOver.2.1 YX8_depthOver.2.2.1 YX8_depthOver.2.2.2 ∈ WS := (ws_t 468 (by decide +kernel) rfl)
abbrev YX8_plainOver : Yt := (yX8_plainOver, cX8_plainOver, 3, (some (.object "CandidateRanges$Stretch")))
theorem cd_X8_plainOver : Cond.code YX8_plainOver.1 YX8_plainOver.2.1 YX8_plainOver.2.2.1 YX8_plainOver.2.2.2 ∈ WS := (ws_t 472 (by decide +kernel) rfl)
abbrev YX9_turned : Yt := (yX9_turned, cX9_turned, 1, (some (.object "CandidateRanges$Stretch")))
theorem cd_X9_turned : Cond.code YX9_turned.1 YX9_turned.2.1 YX9_turned.2.2.1 YX9_turned.2.2.2 ∈ WS := (ws_t 476 (by decide +kernel) rfl)
abbrev YX9_numberAt : Yt := (yX9_numberAt, cX9_numberAt, 3, (some .long))
theorem cd_X9_numberAt : Cond.code YX9_numberAt.1 YX9_numberAt.2.1 YX9_numberAt.2.2.1 YX9_numberAt.2.2.2 ∈ WS := (ws_t 481 (by decide +kernel) rfl)
abbrev YX9_every : Yt := (yX9_every, cX9_every, 2, (some (.object "CandidateRanges$Stretch")))
theorem cd_X9_every : Cond.code YX9_every.1 YX9_every.2.1 YX9_every.2.2.1 YX9_every.2.2.2 ∈ WS := (ws_t 486 (by decide +kernel) rfl)
abbrev YX11_add : Yt := (yX11_add, cX11_add, 5, (some .int))
theorem cd_X11_add : Cond.code YX11_add.1 YX11_add.2.1 YX11_add.2.2.1 YX11_add.2.2.2 ∈ WS := (ws_t 490 (by decide +kernel) rfl)
abbrev YX11_sourceAt : Yt := (yX11_sourceAt, cX11_sourceAt, 2, (some (.object "CandidateRanges$Source")))
theorem cd_X11_sourceAt : Cond.code YX11_sourceAt.1 YX11_sourceAt.2.1 YX11_sourceAt.2.2.1 YX11_sourceAt.2.2.2 ∈ WS := (ws_t 494 (by decide +kernel) rfl)
abbrev YX6_append : Yt := (yX6_append, cX6_append, 3, (some .boolean))
theorem cd_X6_append : Cond.code YX6_append.1 YX6_append.2.1 YX6_append.2.2.1 YX6_append.2.2.2 ∈ WS := (ws_t 498 (by decide +kernel) rfl)
abbrev YX11_source : Yt := (yX11_source, cX11_source, 13, (some .int))
theorem cd_X11_source : Cond.code YX11_source.1 YX11_source.2.1 YX11_source.2.2.1 YX11_source.2.2.2 ∈ WS := (ws_t 502 (by decide +kernel) rfl)
abbrev YX11_countFits : Yt := (yX11_countFits, cX11_countFits, 2, (some .boolean))
theorem cd_X11_countFits : Cond.code YX11_countFits.1 YX11_countFits.2.1 YX11_countFits.2.2.1 YX11_countFits.2.2.2 ∈ WS := (ws_t 505 (by decide +kernel) rfl)
abbrev YX11_sourceOfShelf : Yt := (yX11_sourceOfShelf, cX11_sourceOfShelf, 3, (some .int))
theorem cd_X11_sourceOfShelf : Cond.code YX11_sourceOfShelf.1 YX11_sourceOfShelf.2.1 YX11_sourceOfShelf.2.2.1 YX11_sourceOfShelf.2.2.2 ∈ WS := (ws_t 509 (by decide +kernel) rfl)
abbrev YX11_range : Yt := (yX11_range, cX11_range, 4, (some .int))
theorem cd_X11_range : Cond.code YX11_range.1 YX11_range.2.1 YX11_range.2.2.1 YX11_range.2.2.2 ∈ WS := (ws_t 513 (by decide +kernel) rfl)
abbrev YX10_beginRange : Yt := (yX10_beginRange, cX10_beginRange, 1, none)
theorem cd_X10_beginRange : Cond.code YX10_beginRange.1 YX10_beginRange.2.1 YX10_beginRange.2.2.1 YX10_beginRange.2.2.2 ∈ WS := (ws_t 517 (by decide +kernel) rfl)
abbrev YX5_becomePlain : Yt := (yX5_becomePlain, cX5_becomePlain, 2, none)
theorem cd_X5_becomePlain : Cond.code YX5_becomePlain.1 YX5_becomePlain.2.1 YX5_becomePlain.2.2.1 YX5_becomePlain.2.2.2 ∈ WS := (ws_t 521 (by decide +kernel) rfl)
abbrev YX8_gather : Yt := (yX8_gather, cX8_gather, 6, (some .int))
theorem cd_X8_gather : Cond.code YX8_gather.1 YX8_gather.2.1 YX8_gather.2.2.1 YX8_gather.2.2.2 ∈ WS := (ws_t 525 (by decide +kernel) rfl)
abbrev YX8_gatherPlain : Yt := (yX8_gatherPlain, cX8_gatherPlain, 5, (some .int))
theorem cd_X8_gatherPlain : Cond.code YX8_gatherPlain.1 YX8_gatherPlain.2.1 YX8_gatherPlain.2.2.1 YX8_gatherPlain.2.2.2 ∈ WS := (ws_t 529 (by decide +kernel) rfl)
abbrev YX8_gatherRow : Yt := (yX8_gatherRow, cX8_gatherRow, 6, (some .int))
theorem cd_X8_gatherRow : Cond.code YX8_gatherRow.1 YX8_gatherRow.2.1 YX8_gatherRow.2.2.1 YX8_gatherRow.2.2.2 ∈ WS := (ws_t 535 (by decide +kernel) rfl)
abbrev YX8_keepOfOne : Yt := (yX8_keepOfOne, cX8_keepOfOne, 5, (some .int))
theorem cd_X8_keepOfOne : Cond.code YX8_keepOfOne.1 YX8_keepOfOne.2.1 YX8_keepOfOne.2.2.1 YX8_keepOfOne.2.2.2 ∈ WS := (ws_t 542 (by decide +kernel) rfl)
abbrev YX8_turn : Yt := (yX8_turn, cX8_turn, 7, none)
theorem cd_X8_turn : Cond.code YX8_turn.1 YX8_turn.2.1 YX8_turn.2.2.1 YX8_turn.2.2.2 ∈ WS := (ws_t 545 (by decide +kernel) rfl)
abbrev YX8_sortByNearness : Yt := (yX8_sortByNearness, cX8_sortByNearness, 8, none)
theorem cd_X8_sortByNearness : Cond.code YX8_sortByNearness.1 YX8_sortByNearness.2.1 YX8_sortByNearness.2.2.1 YX8_sortByNearness.2.2.2 ∈ WS := (ws_t 549 (by decide +kernel) rfl)
abbrev YX8_isNearer : Yt := (yX8_isNearer, cX8_isNearer, 9, (some .boolean))
theorem cd_X8_isNearer : Cond.code YX8_isNearer.1 YX8_isNearer.2.1 YX8_isNearer.2.2.1 YX8_isNearer.2.2.2 ∈ WS := (ws_t 553 (by decide +kernel) rfl)
abbrev YX11_gap : Yt := (yX11_gap, cX11_gap, 4, (some .long))
theorem cd_X11_gap : Cond.code YX11_gap.1 YX11_gap.2.1 YX11_gap.2.2.1 YX11_gap.2.2.2 ∈ WS := (ws_t 556 (by decide +kernel) rfl)
abbrev YJ9_min_7cf53 : Yt := (yJ9_min_7cf53, cJ9_min_7cf53, 2, (some .int))
theorem cd_J9_min_7cf53 : Cond.code YJ9_min_7cf53.1 YJ9_min_7cf53.2.1 YJ9_min_7cf53.2.2.1 YJ9_min_7cf53.2.2.2 ∈ WS := (ws_t 560 (by decide +kernel) rfl)
abbrev YX8_keepEvery : Yt := (yX8_keepEvery, cX8_keepEvery, 6, (some .int))
theorem cd_X8_keepEvery : Cond.code YX8_keepEvery.1 YX8_keepEvery.2.1 YX8_keepEvery.2.2.1 YX8_keepEvery.2.2.2 ∈ WS := (ws_t 564 (by decide +kernel) rfl)
abbrev YX8_keepPassing : Yt := (yX8_keepPassing, cX8_keepPassing, 8, (some .int))
theorem cd_X8_keepPassing : Cond.code YX8_keepPassing.1 YX8_keepPassing.2.1 YX8_keepPassing.2.2.1 YX8_keepPassing.2.2.2 ∈ WS := (ws_t 568 (by decide +kernel) rfl)
abbrev YX10_barByLatest : Yt := (yX10_barByLatest, cX10_barByLatest, 4, none)
theorem cd_X10_barByLatest : Cond.code YX10_barByLatest.1 YX10_barByLatest.2.1 YX10_barByLatest.2.2.1 YX10_barByLatest.2.2.2 ∈ WS := (ws_t 574 (by decide +kernel) rfl)
abbrev YX8_keepOfTwo : Yt := (yX8_keepOfTwo, cX8_keepOfTwo, 8, (some .int))
theorem cd_X8_keepOfTwo : Cond.code YX8_keepOfTwo.1 YX8_keepOfTwo.2.1 YX8_keepOfTwo.2.2.1 YX8_keepOfTwo.2.2.2 ∈ WS := (ws_t 578 (by decide +kernel) rfl)
abbrev YX11_find : Yt := (yX11_find, cX11_find, 6, (some .int))
theorem cd_X11_find : Cond.code YX11_find.1 YX11_find.2.1 YX11_find.2.2.1 YX11_find.2.2.2 ∈ WS := (ws_t 581 (by decide +kernel) rfl)
abbrev YX5_becomeGathered : Yt := (yX5_becomeGathered, cX5_becomeGathered, 4, none)
theorem cd_X5_becomeGathered : Cond.code YX5_becomeGathered.1 YX5_becomeGathered.2.1 YX5_becomeGathered.2.2.1 YX5_becomeGathered.2.2.2 ∈ WS := (ws_t 585 (by decide +kernel) rfl)
abbrev YX11_size : Yt := (yX11_size, cX11_size, 1, (some .long))
theorem cd_X11_size : Cond.code YX11_size.1 YX11_size.2.1 YX11_size.2.2.1 YX11_size.2.2.2 ∈ WS := (ws_t 590 (by decide +kernel) rfl)
abbrev YX5_many : Yt := (yX5_many, cX5_many, 1, (some .long))
theorem cd_X5_many : Cond.code YX5_many.1 YX5_many.2.1 YX5_many.2.2.1 YX5_many.2.2.2 ∈ WS := (ws_t 594 (by decide +kernel) rfl)
abbrev YX11_place : Yt := (yX11_place, cX11_place, 3, (some .long))
theorem cd_X11_place : Cond.code YX11_place.1 YX11_place.2.1 YX11_place.2.2.1 YX11_place.2.2.2 ∈ WS := (ws_t 598 (by decide +kernel) rfl)
abbrev YX5_indexOf : Yt := (yX5_indexOf, cX5_indexOf, 3, (some .long))
theorem cd_X5_indexOf : Cond.code YX5_indexOf.1 YX5_indexOf.2.1 YX5_indexOf.2.2.1 YX5_indexOf.2.2.2 ∈ WS := (ws_t 602 (by decide +kernel) rfl)
abbrev YX9_indexOf : Yt := (yX9_indexOf, cX9_indexOf, 7, (some .long))
theorem cd_X9_indexOf : Cond.code YX9_indexOf.1 YX9_indexOf.2.1 YX9_indexOf.2.2.1 YX9_indexOf.2.2.2 ∈ WS := (ws_t 606 (by decide +kernel) rfl)
abbrev YX11_unsignedRest : Yt := (yX11_unsignedRest, cX11_unsignedRest, 4, (some .long))
theorem cd_X11_unsignedRest : Cond.code YX11_unsignedRest.1 YX11_unsignedRest.2.1 YX11_unsignedRest.2.2.1 YX11_unsignedRest.2.2.2 ∈ WS := (ws_t 611 (by decide +kernel) rfl)
abbrev YX11_barred : Yt := (yX11_barred, cX11_barred, 1, (some .int))
theorem cd_X11_barred : Cond.code YX11_barred.1 YX11_barred.2.1 YX11_barred.2.2.1 YX11_barred.2.2.2 ∈ WS := (ws_t 616 (by decide +kernel) rfl)
abbrev YX11_bar : Yt := (yX11_bar, cX11_bar, 3, (some .int))
theorem cd_X11_bar : Cond.code YX11_bar.1 YX11_bar.2.1 YX11_bar.2.2.1 YX11_bar.2.2.2 ∈ WS := (ws_t 620 (by decide +kernel) rfl)
abbrev YX10_hasBarred : Yt := (yX10_hasBarred, cX10_hasBarred, 2, (some .boolean))
theorem cd_X10_hasBarred : Cond.code YX10_hasBarred.1 YX10_hasBarred.2.1 YX10_hasBarred.2.2.1 YX10_hasBarred.2.2.2 ∈ WS := (ws_t 624 (by decide +kernel) rfl)
abbrev YX11_distance : Yt := (yX11_distance, cX11_distance, 5, (some .long))
theorem cd_X11_distance : Cond.code YX11_distance.1 YX11_distance.2.1 YX11_distance.2.2.1 YX11_distance.2.2.2 ∈ WS := (ws_t 628 (by decide +kernel) rfl)
abbrev YX11_told : Yt := (yX11_told, cX11_told, 2, (some .int))
theorem cd_X11_told : Cond.code YX11_told.1 YX11_told.2.1 YX11_told.2.2.1 YX11_told.2.2.2 ∈ WS := (ws_t 633 (by decide +kernel) rfl)
abbrev YX11_at : Yt := (yX11_at, cX11_at, 3, (some .long))
theorem cd_X11_at : Cond.code YX11_at.1 YX11_at.2.1 YX11_at.2.2.1 YX11_at.2.2.2 ∈ WS := (ws_t 641 (by decide +kernel) rfl)
abbrev YX5_numberAt : Yt := (yX5_numberAt, cX5_numberAt, 3, (some .long))
theorem cd_X5_numberAt : Cond.code YX5_numberAt.1 YX5_numberAt.2.1 YX5_numberAt.2.2.1 YX5_numberAt.2.2.2 ∈ WS := (ws_t 711 (by decide +kernel) rfl)
abbrev YX11_draw : Yt := (yX11_draw, cX11_draw, 5, (some .long))
theorem cd_X11_draw : Cond.code YX11_draw.1 YX11_draw.2.1 YX11_draw.2.2.1 YX11_draw.2.2.2 ∈ WS := (ws_t 719 (by decide +kernel) rfl)
abbrev YX11_barredAt : Yt := (yX11_barredAt, cX11_barredAt, 2, (some .long))
theorem cd_X11_barredAt : Cond.code YX11_barredAt.1 YX11_barredAt.2.1 YX11_barredAt.2.2.1 YX11_barredAt.2.2.2 ∈ WS := (ws_t 728 (by decide +kernel) rfl)
abbrev YX12_init : Yt := (yX12_init, cX12_init, 1, none)
theorem cd_X12_init : Cond.code YX12_init.1 YX12_init.2.1 YX12_init.2.2.1 YX12_init.2.2.2 ∈ WS := (ws_t 734 (by decide +kernel) rfl)
abbrev YX12_thrown : Yt := (yX12_thrown, cX12_thrown, 1, (some .int))
theorem cd_X12_thrown : Cond.code YX12_thrown.1 YX12_thrown.2.1 YX12_thrown.2.2.1 YX12_thrown.2.2.2 ∈ WS := (ws_t 864 (by decide +kernel) rfl)
abbrev YX12_shelf : Yt := (yX12_shelf, cX12_shelf, 5, (some .int))
theorem cd_X12_shelf : Cond.code YX12_shelf.1 YX12_shelf.2.1 YX12_shelf.2.2.1 YX12_shelf.2.2.2 ∈ WS := (ws_t 868 (by decide +kernel) rfl)
abbrev YX12_item : Yt := (yX12_item, cX12_item, 5, (some .int))
theorem cd_X12_item : Cond.code YX12_item.1 YX12_item.2.1 YX12_item.2.2.1 YX12_item.2.2.2 ∈ WS := (ws_t 872 (by decide +kernel) rfl)
abbrev YX12_box : Yt := (yX12_box, cX12_box, 3, (some .int))
theorem cd_X12_box : Cond.code YX12_box.1 YX12_box.2.1 YX12_box.2.2.1 YX12_box.2.2.2 ∈ WS := (ws_t 876 (by decide +kernel) rfl)
abbrev YX12_filter : Yt := (yX12_filter, cX12_filter, 9, (some .int))
theorem cd_X12_filter : Cond.code YX12_filter.1 YX12_filter.2.1 YX12_filter.2.2.1 YX12_filter.2.2.2 ∈ WS := (ws_t 880 (by decide +kernel) rfl)
abbrev YX12_isFilter : Yt := (yX12_isFilter, cX12_isFilter, 2, (some .boolean))
theorem cd_X12_isFilter : Cond.code YX12_isFilter.1 YX12_isFilter.2.1 YX12_isFilter.2.2.1 YX12_isFilter.2.2.2 ∈ WS := (ws_t 884 (by decide +kernel) rfl)
abbrev YX12_ask : Yt := (yX12_ask, cX12_ask, 5, (some .int))
theorem cd_X12_ask : Cond.code YX12_ask.1 YX12_ask.2.1 YX12_ask.2.2.1 YX12_ask.2.2.2 ∈ WS := (ws_t 888 (by decide +kernel) rfl)
abbrev YX12_passes : Yt := (yX12_passes, cX12_passes, 8, (some .boolean))
theorem cd_X12_passes : Cond.code YX12_passes.1 YX12_passes.2.1 YX12_passes.2.2.1 YX12_passes.2.2.2 ∈ WS := (ws_t 892 (by decide +kernel) rfl)
abbrev YX12_fails : Yt := (yX12_fails, cX12_fails, 3, (some .boolean))
theorem cd_X12_fails : Cond.code YX12_fails.1 YX12_fails.2.1 YX12_fails.2.2.1 YX12_fails.2.2.2 ∈ WS := (ws_t 896 (by decide +kernel) rfl)
abbrev YX12_puts : Yt := (yX12_puts, cX12_puts, 10, (some .boolean))
theorem cd_X12_puts : Cond.code YX12_puts.1 YX12_puts.2.1 YX12_puts.2.2.1 YX12_puts.2.2.2 ∈ WS := (ws_t 902 (by decide +kernel) rfl)
abbrev YX12_asked : Yt := (yX12_asked, cX12_asked, 2, (some .int))
theorem cd_X12_asked : Cond.code YX12_asked.1 YX12_asked.2.1 YX12_asked.2.2.1 YX12_asked.2.2.2 ∈ WS := (ws_t 907 (by decide +kernel) rfl)
abbrev YX12_span : Yt := (yX12_span, cX12_span, 11, (some .int))
theorem cd_X12_span : Cond.code YX12_span.1 YX12_span.2.1 YX12_span.2.2.1 YX12_span.2.2.2 ∈ WS := (ws_t 911 (by decide +kernel) rfl)
abbrev YX12_divided : Yt := (yX12_divided, cX12_divided, 8, (some .long))
theorem cd_X12_divided : Cond.code YX12_divided.1 YX12_divided.2.1 YX12_divided.2.2.1 YX12_divided.2.2.2 ∈ WS := (ws_t 914 (by decide +kernel) rfl)
abbrev YX12_comes : Yt := (yX12_comes, cX12_comes, 4, (some .int))
theorem cd_X12_comes : Cond.code YX12_comes.1 YX12_comes.2.1 YX12_comes.2.2.1 YX12_comes.2.2.2 ∈ WS := (ws_t 920 (by decide +kernel) rfl)
abbrev YX12_list : Yt := (yX12_list, cX12_list, 1, (some .int))
theorem cd_X12_list : Cond.code YX12_list.1 YX12_list.2.1 YX12_list.2.2.1 YX12_list.2.2.2 ∈ WS := (ws_t 924 (by decide +kernel) rfl)
abbrev YX12_add : Yt := (yX12_add, cX12_add, 4, (some .int))
theorem cd_X12_add : Cond.code YX12_add.1 YX12_add.2.1 YX12_add.2.2.1 YX12_add.2.2.2 ∈ WS := (ws_t 928 (by decide +kernel) rfl)
abbrev YX12_isSource : Yt := (yX12_isSource, cX12_isSource, 2, (some .boolean))
theorem cd_X12_isSource : Cond.code YX12_isSource.1 YX12_isSource.2.1 YX12_isSource.2.2.1 YX12_isSource.2.2.2 ∈ WS := (ws_t 932 (by decide +kernel) rfl)
abbrev YX12_source : Yt := (yX12_source, cX12_source, 13, (some .int))
theorem cd_X12_source : Cond.code YX12_source.1 YX12_source.2.1 YX12_source.2.2.1 YX12_source.2.2.2 ∈ WS := (ws_t 936 (by decide +kernel) rfl)
abbrev YX12_range : Yt := (yX12_range, cX12_range, 5, (some .int))
theorem cd_X12_range : Cond.code YX12_range.1 YX12_range.2.1 YX12_range.2.2.1 YX12_range.2.2.2 ∈ WS := (ws_t 940 (by decide +kernel) rfl)
abbrev YX12_goes : Yt := (yX12_goes, cX12_goes, 5, (some .boolean))
theorem cd_X12_goes : Cond.code YX12_goes.1 YX12_goes.2.1 YX12_goes.2.2.1 YX12_goes.2.2.2 ∈ WS := (ws_t 944 (by decide +kernel) rfl)
abbrev YX12_put : Yt := (yX12_put, cX12_put, 4, none)
theorem cd_X12_put : Cond.code YX12_put.1 YX12_put.2.1 YX12_put.2.2.1 YX12_put.2.2.2 ∈ WS := (ws_t 949 (by decide +kernel) rfl)
abbrev YX12_twoOf : Yt := (yX12_twoOf, cX12_twoOf, 8, (some .boolean))
theorem cd_X12_twoOf : Cond.code YX12_twoOf.1 YX12_twoOf.2.1 YX12_twoOf.2.2.1 YX12_twoOf.2.2.2 ∈ WS := (ws_t 953 (by decide +kernel) rfl)
abbrev YX12_isIn : Yt := (yX12_isIn, cX12_isIn, 5, (some .boolean))
theorem cd_X12_isIn : Cond.code YX12_isIn.1 YX12_isIn.2.1 YX12_isIn.2.2.1 YX12_isIn.2.2.2 ∈ WS := (ws_t 957 (by decide +kernel) rfl)
abbrev YX12_shelfOf : Yt := (yX12_shelfOf, cX12_shelfOf, 5, (some .boolean))
theorem cd_X12_shelfOf : Cond.code YX12_shelfOf.1 YX12_shelfOf.2.1 YX12_shelfOf.2.2.1 YX12_shelfOf.2.2.2 ∈ WS := (ws_t 961 (by decide +kernel) rfl)
abbrev YX12_one : Yt := (yX12_one, cX12_one, 9, (some .boolean))
theorem cd_X12_one : Cond.code YX12_one.1 YX12_one.2.1 YX12_one.2.2.1 YX12_one.2.2.2 ∈ WS := (ws_t 965 (by decide +kernel) rfl)
abbrev YX12_near : Yt := (yX12_near, cX12_near, 10, none)
theorem cd_X12_near : Cond.code YX12_near.1 YX12_near.2.1 YX12_near.2.2.1 YX12_near.2.2.2 ∈ WS := (ws_t 969 (by decide +kernel) rfl)
abbrev YX12_isNearer : Yt := (yX12_isNearer, cX12_isNearer, 10, (some .boolean))
theorem cd_X12_isNearer : Cond.code YX12_isNearer.1 YX12_isNearer.2.1 YX12_isNearer.2.2.1 YX12_isNearer.2.2.2 ∈ WS := (ws_t 972 (by decide +kernel) rfl)
abbrev YX12_far : Yt := (yX12_far, cX12_far, 4, (some .long))
theorem cd_X12_far : Cond.code YX12_far.1 YX12_far.2.1 YX12_far.2.2.1 YX12_far.2.2.2 ∈ WS := (ws_t 975 (by decide +kernel) rfl)
abbrev YX12_place : Yt := (yX12_place, cX12_place, 12, (some .long))
theorem cd_X12_place : Cond.code YX12_place.1 YX12_place.2.1 YX12_place.2.2.1 YX12_place.2.2.2 ∈ WS := (ws_t 980 (by decide +kernel) rfl)
abbrev YX12_size : Yt := (yX12_size, cX12_size, 1, (some .long))
theorem cd_X12_size : Cond.code YX12_size.1 YX12_size.2.1 YX12_size.2.2.1 YX12_size.2.2.2 ∈ WS := (ws_t 984 (by decide +kernel) rfl)
abbrev YX12_at : Yt := (yX12_at, cX12_at, 3, (some .long))
theorem cd_X12_at : Cond.code YX12_at.1 YX12_at.2.1 YX12_at.2.2.1 YX12_at.2.2.2 ∈ WS := (ws_t 988 (by decide +kernel) rfl)
abbrev YX12_draw : Yt := (yX12_draw, cX12_draw, 5, (some .long))
theorem cd_X12_draw : Cond.code YX12_draw.1 YX12_draw.2.1 YX12_draw.2.2.1 YX12_draw.2.2.2 ∈ WS := (ws_t 993 (by decide +kernel) rfl)
abbrev YX12_barred : Yt := (yX12_barred, cX12_barred, 1, (some .int))
theorem cd_X12_barred : Cond.code YX12_barred.1 YX12_barred.2.1 YX12_barred.2.2.1 YX12_barred.2.2.2 ∈ WS := (ws_t 998 (by decide +kernel) rfl)
abbrev YX12_bar : Yt := (yX12_bar, cX12_bar, 3, (some .int))
theorem cd_X12_bar : Cond.code YX12_bar.1 YX12_bar.2.1 YX12_bar.2.2.1 YX12_bar.2.2.2 ∈ WS := (ws_t 1002 (by decide +kernel) rfl)
abbrev YX12_barredAt : Yt := (yX12_barredAt, cX12_barredAt, 2, (some .long))
theorem cd_X12_barredAt : Cond.code YX12_barredAt.1 YX12_barredAt.2.1 YX12_barredAt.2.2.1 YX12_barredAt.2.2.2 ∈ WS := (ws_t 1006 (by decide +kernel) rfl)
abbrev YX12_distance : Yt := (yX12_distance, cX12_distance, 5, (some .long))
theorem cd_X12_distance : Cond.code YX12_distance.1 YX12_distance.2.1 YX12_distance.2.2.1 YX12_distance.2.2.2 ∈ WS := (ws_t 1010 (by decide +kernel) rfl)
abbrev YX12_told : Yt := (yX12_told, cX12_told, 2, (some .int))
theorem cd_X12_told : Cond.code YX12_told.1 YX12_told.2.1 YX12_told.2.2.1 YX12_told.2.2.2 ∈ WS := (ws_t 1014 (by decide +kernel) rfl)
theorem mk_L_22 : iOK RL 22 YX11_init := ⟨⟨cd_X11_init, (ws_t 1 (by decide +kernel) rfl), (ws_t 22 (by decide +kernel) rfl), by decide +kernel⟩, rfl, (ws_t 23 (by decide +kernel) rfl)⟩
theorem ok_X11_1 : Cond.methodLink RX11 1 objectInit ∈ WS := (ws_t 25 (by decide +kernel) rfl)
theorem mn_X11_35 : iNOK RX11 35 YX10_init := ⟨cd_X10_init, (ws_t 2 (by decide +kernel) rfl), rfl, (ws_t 39 (by decide +kernel) rfl), by simp [nwl, YX10_init], by decide +kernel⟩
theorem ok_X10_3 : Cond.methodLink RX10 3 objectInit ∈ WS := (ws_t 41 (by decide +kernel) rfl)
theorem mn_X11_42 : iNOK RX11 42 YX5_init := ⟨cd_X5_init, (ws_t 3 (by decide +kernel) rfl), rfl, (ws_t 71 (by decide +kernel) rfl), by simp [nwl, YX5_init], by decide +kernel⟩
theorem ok_X5_3 : Cond.methodLink RX5 3 objectInit ∈ WS := (ws_t 73 (by decide +kernel) rfl)
theorem mn_X11_51 : iNOK RX11 51 YX6_init := ⟨cd_X6_init, (ws_t 4 (by decide +kernel) rfl), rfl, (ws_t 87 (by decide +kernel) rfl), by simp [nwl, YX6_init], by decide +kernel⟩
theorem ok_X6_3 : Cond.methodLink RX6 3 objectInit ∈ WS := (ws_t 89 (by decide +kernel) rfl)
theorem mk_X11_52 : iOK RX11 52 YX0_init := ⟨⟨cd_X0_init, (ws_t 5 (by decide +kernel) rfl), (ws_t 110 (by decide +kernel) rfl), by decide +kernel⟩, rfl, (ws_t 111 (by decide +kernel) rfl)⟩
theorem ok_X0_3 : Cond.methodLink RX0 3 objectInit ∈ WS := (ws_t 113 (by decide +kernel) rfl)
theorem mk_L_26 : vOK RL 26 YX11_shelf := ⟨⟨cd_X11_shelf, (ws_t 1 (by decide +kernel) rfl), (ws_t 150 (by decide +kernel) rfl), by decide +kernel⟩, (ws_t 151 (by decide +kernel) rfl), (ws_t 152 (by decide +kernel) rfl)⟩
theorem mk_X11_55 : vOK RX11 55 YX11_shelfAt := ⟨⟨cd_X11_shelfAt, (ws_t 1 (by decide +kernel) rfl), (ws_t 154 (by decide +kernel) rfl), by decide +kernel⟩, (ws_t 156 (by decide +kernel) rfl), (ws_p 0 (by decide +kernel) rfl)⟩
theorem mk_X11_59 : vOK RX11 59 YX6_hold := ⟨⟨cd_X6_hold, (ws_t 4 (by decide +kernel) rfl), (ws_t 158 (by decide +kernel) rfl), by decide +kernel⟩, (ws_t 159 (by decide +kernel) rfl), (ws_t 160 (by decide +kernel) rfl)⟩
theorem mk_X6_25 : sOK RX6 25 YJ7_fill_d0a16 := ⟨⟨cd_J7_fill_d0a16, (ws_t 7 (by decide +kernel) rfl), (ws_t 162 (by decide +kernel) rfl), by decide +kernel⟩, (ws_t 163 (by decide +kernel) rfl)⟩
theorem mk_L_33 : vOK RL 33 YX11_item := ⟨⟨cd_X11_item, (ws_t 1 (by decide +kernel) rfl), (ws_t 165 (by decide +kernel) rfl), by decide +kernel⟩, (ws_t 166 (by decide +kernel) rfl), (ws_t 167 (by decide +kernel) rfl)⟩
theorem mk_X11_63 : vOK RX11 63 YX6_rowFailure := ⟨⟨cd_X6_rowFailure, (ws_t 4 (by decide +kernel) rfl), (ws_t 169 (by decide +kernel) rfl), by decide +kernel⟩, (ws_t 170 (by decide +kernel) rfl), (ws_t 171 (by decide +kernel) rfl)⟩
theorem mk_X11_67 : vOK RX11 67 YX6_hasItem := ⟨⟨cd_X6_hasItem, (ws_t 4 (by decide +kernel) rfl), (ws_t 173 (by decide +kernel) rfl), by decide +kernel⟩, (ws_t 174 (by decide +kernel) rfl), (ws_t 175 (by decide +kernel) rfl)⟩
theorem mk_X11_71 : vOK RX11 71 YX6_setItem := ⟨⟨cd_X6_setItem, (ws_t 4 (by decide +kernel) rfl), (ws_t 178 (by decide +kernel) rfl), by decide +kernel⟩, (ws_t 179 (by decide +kernel) rfl), (ws_t 180 (by decide +kernel) rfl)⟩
theorem mk_X6_33 : vOK RX6 33 YX6_hasItem := ⟨⟨cd_X6_hasItem, (ws_t 4 (by decide +kernel) rfl), (ws_t 182 (by decide +kernel) rfl), by decide +kernel⟩, (ws_t 174 (by decide +kernel) rfl), (ws_t 175 (by decide +kernel) rfl)⟩
theorem mk_L_38 : vOK RL 38 YX11_box := ⟨⟨cd_X11_box, (ws_t 1 (by decide +kernel) rfl), (ws_t 183 (by decide +kernel) rfl), by decide +kernel⟩, (ws_t 184 (by decide +kernel) rfl), (ws_t 185 (by decide +kernel) rfl)⟩
theorem mk_X11_75 : vOK RX11 75 YX11_boxAt := ⟨⟨cd_X11_boxAt, (ws_t 1 (by decide +kernel) rfl), (ws_t 187 (by decide +kernel) rfl), by decide +kernel⟩, (ws_t 189 (by decide +kernel) rfl), (ws_p 1 (by decide +kernel) rfl)⟩
theorem mk_L_43 : vOK RL 43 YX11_filter := ⟨⟨cd_X11_filter, (ws_t 1 (by decide +kernel) rfl), (ws_t 191 (by decide +kernel) rfl), by decide +kernel⟩, (ws_t 192 (by decide +kernel) rfl), (ws_t 193 (by decide +kernel) rfl)⟩
theorem mk_X11_83 : vOK RX11 83 YX11_filterOfFilters := ⟨⟨cd_X11_filterOfFilters, (ws_t 1 (by decide +kernel) rfl), (ws_t 195 (by decide +kernel) rfl), by decide +kernel⟩, (ws_t 197 (by decide +kernel) rfl), (ws_p 2 (by decide +kernel) rfl)⟩
theorem mk_X11_108 : vOK RX11 108 YX11_filterAt := ⟨⟨cd_X11_filterAt, (ws_t 1 (by decide +kernel) rfl), (ws_t 199 (by decide +kernel) rfl), by decide +kernel⟩, (ws_t 201 (by decide +kernel) rfl), (ws_p 3 (by decide +kernel) rfl)⟩
theorem mk_X11_243 : iOK RX11 243 YX3_init := ⟨⟨cd_X3_init, (ws_t 9 (by decide +kernel) rfl), (ws_t 205 (by decide +kernel) rfl), by decide +kernel⟩, rfl, (ws_t 206 (by decide +kernel) rfl)⟩
theorem mk_X3_7 : sOK RX3 7 YJ9_max_7cf53 := ⟨⟨cd_J9_max_7cf53, (ws_t 10 (by decide +kernel) rfl), (ws_t 208 (by decide +kernel) rfl), by decide +kernel⟩, (ws_t 209 (by decide +kernel) rfl)⟩
theorem mk_X3_13 : iOK RX3 13 YX2_init := ⟨⟨cd_X2_init, (ws_t 8 (by decide +kernel) rfl), (ws_t 211 (by decide +kernel) rfl), by decide +kernel⟩, rfl, (ws_t 212 (by decide +kernel) rfl)⟩
theorem ok_X2_1 : Cond.methodLink RX2 1 objectInit ∈ WS := (ws_t 214 (by decide +kernel) rfl)
theorem mk_X11_104 : vOK RX11 104 YX11_keepFilter := ⟨⟨cd_X11_keepFilter, (ws_t 1 (by decide +kernel) rfl), (ws_t 242 (by decide +kernel) rfl), by decide +kernel⟩, (ws_t 244 (by decide +kernel) rfl), (ws_p 4 (by decide +kernel) rfl)⟩
theorem mk_X11_87 : vOK RX11 87 YX11_filterOfShelf := ⟨⟨cd_X11_filterOfShelf, (ws_t 1 (by decide +kernel) rfl), (ws_t 246 (by decide +kernel) rfl), by decide +kernel⟩, (ws_t 248 (by decide +kernel) rfl), (ws_p 5 (by decide +kernel) rfl)⟩
theorem mk_X11_248 : iOK RX11 248 YX7_init := ⟨⟨cd_X7_init, (ws_t 11 (by decide +kernel) rfl), (ws_t 252 (by decide +kernel) rfl), by decide +kernel⟩, rfl, (ws_t 253 (by decide +kernel) rfl)⟩
theorem mk_X7_3 : iOK RX7 3 YX2_init := ⟨⟨cd_X2_init, (ws_t 8 (by decide +kernel) rfl), (ws_t 255 (by decide +kernel) rfl), by decide +kernel⟩, rfl, (ws_t 212 (by decide +kernel) rfl)⟩
theorem mk_X11_91 : vOK RX11 91 YX11_filterOfBox := ⟨⟨cd_X11_filterOfBox, (ws_t 1 (by decide +kernel) rfl), (ws_t 268 (by decide +kernel) rfl), by decide +kernel⟩, (ws_t 270 (by decide +kernel) rfl), (ws_p 6 (by decide +kernel) rfl)⟩
theorem mk_X11_255 : sOK RX11 255 YJ9_abs_067f4 := ⟨⟨cd_J9_abs_067f4, (ws_t 10 (by decide +kernel) rfl), (ws_t 275 (by decide +kernel) rfl), by decide +kernel⟩, (ws_t 276 (by decide +kernel) rfl)⟩
theorem mk_X11_260 : iOK RX11 260 YX1_init := ⟨⟨cd_X1_init, (ws_t 12 (by decide +kernel) rfl), (ws_t 278 (by decide +kernel) rfl), by decide +kernel⟩, rfl, (ws_t 279 (by decide +kernel) rfl)⟩
theorem mk_X1_3 : iOK RX1 3 YX2_init := ⟨⟨cd_X2_init, (ws_t 8 (by decide +kernel) rfl), (ws_t 281 (by decide +kernel) rfl), by decide +kernel⟩, rfl, (ws_t 212 (by decide +kernel) rfl)⟩
theorem mk_X11_101 : iOK RX11 101 YX4_init := ⟨⟨cd_X4_init, (ws_t 13 (by decide +kernel) rfl), (ws_t 293 (by decide +kernel) rfl), by decide +kernel⟩, rfl, (ws_t 294 (by decide +kernel) rfl)⟩
theorem mk_X4_3 : iOK RX4 3 YX2_init := ⟨⟨cd_X2_init, (ws_t 8 (by decide +kernel) rfl), (ws_t 296 (by decide +kernel) rfl), by decide +kernel⟩, rfl, (ws_t 212 (by decide +kernel) rfl)⟩
theorem mk_L_48 : vOK RL 48 YX11_ask := ⟨⟨cd_X11_ask, (ws_t 1 (by decide +kernel) rfl), (ws_t 309 (by decide +kernel) rfl), by decide +kernel⟩, (ws_t 310 (by decide +kernel) rfl), (ws_t 311 (by decide +kernel) rfl)⟩
theorem mk_X11_112 : vOK RX11 112 YX10_beginAsk := ⟨⟨cd_X10_beginAsk, (ws_t 2 (by decide +kernel) rfl), (ws_t 313 (by decide +kernel) rfl), by decide +kernel⟩, (ws_t 314 (by decide +kernel) rfl), (ws_t 315 (by decide +kernel) rfl)⟩
theorem mk_X1_19 : sOK RX1 19 YX1_thingFor := ⟨⟨cd_X1_thingFor, (ws_t 12 (by decide +kernel) rfl), (ws_t 323 (by decide +kernel) rfl), by decide +kernel⟩, (ws_t 324 (by decide +kernel) rfl)⟩
theorem mk_X1_23 : vOK RX1 23 YX0_put := ⟨⟨cd_X0_put, (ws_t 5 (by decide +kernel) rfl), (ws_t 327 (by decide +kernel) rfl), by decide +kernel⟩, (ws_t 328 (by decide +kernel) rfl), (ws_t 329 (by decide +kernel) rfl)⟩
theorem mk_X0_19 : vOK RX0 19 YX0_takes := ⟨⟨cd_X0_takes, (ws_t 5 (by decide +kernel) rfl), (ws_t 331 (by decide +kernel) rfl), by decide +kernel⟩, (ws_t 333 (by decide +kernel) rfl), (ws_p 7 (by decide +kernel) rfl)⟩
theorem mk_X1_32 : vOK RX1 32 YX10_fail := ⟨⟨cd_X10_fail, (ws_t 2 (by decide +kernel) rfl), (ws_t 335 (by decide +kernel) rfl), by decide +kernel⟩, (ws_t 336 (by decide +kernel) rfl), (ws_t 337 (by decide +kernel) rfl)⟩
theorem mk_X4_29 : vOK RX4 29 YX10_fail := ⟨⟨cd_X10_fail, (ws_t 2 (by decide +kernel) rfl), (ws_t 349 (by decide +kernel) rfl), by decide +kernel⟩, (ws_t 336 (by decide +kernel) rfl), (ws_t 337 (by decide +kernel) rfl)⟩
theorem mk_X4_35 : vOK RX4 35 YX4_judgeRoom := ⟨⟨cd_X4_judgeRoom, (ws_t 13 (by decide +kernel) rfl), (ws_t 350 (by decide +kernel) rfl), by decide +kernel⟩, (ws_t 352 (by decide +kernel) rfl), (ws_p 8 (by decide +kernel) rfl)⟩
theorem mk_X7_31 : vOK RX7 31 YX10_fail := ⟨⟨cd_X10_fail, (ws_t 2 (by decide +kernel) rfl), (ws_t 357 (by decide +kernel) rfl), by decide +kernel⟩, (ws_t 336 (by decide +kernel) rfl), (ws_t 337 (by decide +kernel) rfl)⟩
theorem mk_X7_44 : vOK RX7 44 YX6_hasItem := ⟨⟨cd_X6_hasItem, (ws_t 4 (by decide +kernel) rfl), (ws_t 360 (by decide +kernel) rfl), by decide +kernel⟩, (ws_t 174 (by decide +kernel) rfl), (ws_t 175 (by decide +kernel) rfl)⟩
theorem mk_X3_36 : vOK RX3 36 YX3_leavesItToSecond := ⟨⟨cd_X3_leavesItToSecond, (ws_t 9 (by decide +kernel) rfl), (ws_t 361 (by decide +kernel) rfl), by decide +kernel⟩, (ws_t 363 (by decide +kernel) rfl), (ws_p 9 (by decide +kernel) rfl)⟩
theorem mk_X3_40 : sOK RX3 40 YX10_canBeMet := ⟨⟨cd_X10_canBeMet, (ws_t 2 (by decide +kernel) rfl), (ws_t 365 (by decide +kernel) rfl), by decide +kernel⟩, (ws_t 366 (by decide +kernel) rfl)⟩
theorem mk_L_53 : vOK RL 53 YX11_asked := ⟨⟨cd_X11_asked, (ws_t 1 (by decide +kernel) rfl), (ws_t 370 (by decide +kernel) rfl), by decide +kernel⟩, (ws_t 371 (by decide +kernel) rfl), (ws_t 372 (by decide +kernel) rfl)⟩
theorem mk_L_58 : vOK RL 58 YX11_span := ⟨⟨cd_X11_span, (ws_t 1 (by decide +kernel) rfl), (ws_t 384 (by decide +kernel) rfl), by decide +kernel⟩, (ws_t 385 (by decide +kernel) rfl), (ws_t 386 (by decide +kernel) rfl)⟩
theorem mk_X11_124 : sOK RX11 124 YX11_unsignedQuotient := ⟨⟨cd_X11_unsignedQuotient, (ws_t 1 (by decide +kernel) rfl), (ws_t 389 (by decide +kernel) rfl), by decide +kernel⟩, (ws_t 390 (by decide +kernel) rfl)⟩
theorem mk_X11_269 : sOK RX11 269 YX11_unsignedBelow := ⟨⟨cd_X11_unsignedBelow, (ws_t 1 (by decide +kernel) rfl), (ws_t 392 (by decide +kernel) rfl), by decide +kernel⟩, (ws_t 393 (by decide +kernel) rfl)⟩
theorem mk_X11_134 : iOK RX11 134 YX9_init := ⟨⟨cd_X9_init, (ws_t 15 (by decide +kernel) rfl), (ws_t 400 (by decide +kernel) rfl), by decide +kernel⟩, rfl, (ws_t 401 (by decide +kernel) rfl)⟩
theorem ok_X9_1 : Cond.methodLink RX9 1 objectInit ∈ WS := (ws_t 403 (by decide +kernel) rfl)
theorem mk_X11_137 : iOK RX11 137 YX8_init := ⟨⟨cd_X8_init, (ws_t 14 (by decide +kernel) rfl), (ws_t 419 (by decide +kernel) rfl), by decide +kernel⟩, rfl, (ws_t 420 (by decide +kernel) rfl)⟩
theorem ok_X8_3 : Cond.methodLink RX8 3 objectInit ∈ WS := (ws_t 422 (by decide +kernel) rfl)
theorem mk_X11_140 : vOK RX11 140 YX11_keepSource := ⟨⟨cd_X11_keepSource, (ws_t 1 (by decide +kernel) rfl), (ws_t 455 (by decide +kernel) rfl), by decide +kernel⟩, (ws_t 457 (by decide +kernel) rfl), (ws_p 10 (by decide +kernel) rfl)⟩
theorem mk_L_63 : vOK RL 63 YX11_list := ⟨⟨cd_X11_list, (ws_t 1 (by decide +kernel) rfl), (ws_t 459 (by decide +kernel) rfl), by decide +kernel⟩, (ws_t 460 (by decide +kernel) rfl), (ws_t 461 (by decide +kernel) rfl)⟩
theorem mk_X11_144 : iOK RX11 144 YX8_init_ := ⟨⟨cd_X8_init_, (ws_t 14 (by decide +kernel) rfl), (ws_t 463 (by decide +kernel) rfl), by decide +kernel⟩, rfl, (ws_t 464 (by decide +kernel) rfl)⟩
theorem mk_X8_44 : sOK RX8 44 YX8_depthOver := ⟨⟨cd_X8_depthOver, (ws_t 14 (by decide +kernel) rfl), (ws_t 466 (by decide +kernel) rfl), by decide +kernel⟩, (ws_t 467 (by decide +kernel) rfl)⟩
theorem mk_X8_52 : sOK RX8 52 YJ9_max_7cf53 := ⟨⟨cd_J9_max_7cf53, (ws_t 10 (by decide +kernel) rfl), (ws_t 469 (by decide +kernel) rfl), by decide +kernel⟩, (ws_t 209 (by decide +kernel) rfl)⟩
theorem mk_X8_48 : sOK RX8 48 YX8_plainOver := ⟨⟨cd_X8_plainOver, (ws_t 14 (by decide +kernel) rfl), (ws_t 470 (by decide +kernel) rfl), by decide +kernel⟩, (ws_t 471 (by decide +kernel) rfl)⟩
theorem mk_X8_58 : vOK RX8 58 YX9_turned := ⟨⟨cd_X9_turned, (ws_t 15 (by decide +kernel) rfl), (ws_t 473 (by decide +kernel) rfl), by decide +kernel⟩, (ws_t 474 (by decide +kernel) rfl), (ws_t 475 (by decide +kernel) rfl)⟩
theorem mk_X9_37 : vOK RX9 37 YX9_numberAt := ⟨⟨cd_X9_numberAt, (ws_t 15 (by decide +kernel) rfl), (ws_t 478 (by decide +kernel) rfl), by decide +kernel⟩, (ws_t 479 (by decide +kernel) rfl), (ws_t 480 (by decide +kernel) rfl)⟩
theorem mk_X9_41 : iOK RX9 41 YX9_init := ⟨⟨cd_X9_init, (ws_t 15 (by decide +kernel) rfl), (ws_t 482 (by decide +kernel) rfl), by decide +kernel⟩, rfl, (ws_t 401 (by decide +kernel) rfl)⟩
theorem mk_X8_64 : vOK RX8 64 YX9_every := ⟨⟨cd_X9_every, (ws_t 15 (by decide +kernel) rfl), (ws_t 483 (by decide +kernel) rfl), by decide +kernel⟩, (ws_t 484 (by decide +kernel) rfl), (ws_t 485 (by decide +kernel) rfl)⟩
theorem mk_L_68 : vOK RL 68 YX11_add := ⟨⟨cd_X11_add, (ws_t 1 (by decide +kernel) rfl), (ws_t 487 (by decide +kernel) rfl), by decide +kernel⟩, (ws_t 488 (by decide +kernel) rfl), (ws_t 489 (by decide +kernel) rfl)⟩
theorem mk_X11_147 : vOK RX11 147 YX11_sourceAt := ⟨⟨cd_X11_sourceAt, (ws_t 1 (by decide +kernel) rfl), (ws_t 491 (by decide +kernel) rfl), by decide +kernel⟩, (ws_t 493 (by decide +kernel) rfl), (ws_p 11 (by decide +kernel) rfl)⟩
theorem mk_X11_158 : vOK RX11 158 YX6_append := ⟨⟨cd_X6_append, (ws_t 4 (by decide +kernel) rfl), (ws_t 495 (by decide +kernel) rfl), by decide +kernel⟩, (ws_t 496 (by decide +kernel) rfl), (ws_t 497 (by decide +kernel) rfl)⟩
theorem mk_L_72 : vOK RL 72 YX11_source := ⟨⟨cd_X11_source, (ws_t 1 (by decide +kernel) rfl), (ws_t 499 (by decide +kernel) rfl), by decide +kernel⟩, (ws_t 500 (by decide +kernel) rfl), (ws_t 501 (by decide +kernel) rfl)⟩
theorem mk_X11_164 : sOK RX11 164 YX11_countFits := ⟨⟨cd_X11_countFits, (ws_t 1 (by decide +kernel) rfl), (ws_t 503 (by decide +kernel) rfl), by decide +kernel⟩, (ws_t 504 (by decide +kernel) rfl)⟩
theorem mk_X11_168 : vOK RX11 168 YX11_sourceOfShelf := ⟨⟨cd_X11_sourceOfShelf, (ws_t 1 (by decide +kernel) rfl), (ws_t 506 (by decide +kernel) rfl), by decide +kernel⟩, (ws_t 508 (by decide +kernel) rfl), (ws_p 12 (by decide +kernel) rfl)⟩
theorem mk_L_77 : vOK RL 77 YX11_range := ⟨⟨cd_X11_range, (ws_t 1 (by decide +kernel) rfl), (ws_t 510 (by decide +kernel) rfl), by decide +kernel⟩, (ws_t 511 (by decide +kernel) rfl), (ws_t 512 (by decide +kernel) rfl)⟩
theorem mk_X11_172 : vOK RX11 172 YX10_beginRange := ⟨⟨cd_X10_beginRange, (ws_t 2 (by decide +kernel) rfl), (ws_t 514 (by decide +kernel) rfl), by decide +kernel⟩, (ws_t 515 (by decide +kernel) rfl), (ws_t 516 (by decide +kernel) rfl)⟩
theorem mk_X11_179 : vOK RX11 179 YX5_becomePlain := ⟨⟨cd_X5_becomePlain, (ws_t 3 (by decide +kernel) rfl), (ws_t 518 (by decide +kernel) rfl), by decide +kernel⟩, (ws_t 519 (by decide +kernel) rfl), (ws_t 520 (by decide +kernel) rfl)⟩
theorem mk_X11_182 : vOK RX11 182 YX8_gather := ⟨⟨cd_X8_gather, (ws_t 14 (by decide +kernel) rfl), (ws_t 522 (by decide +kernel) rfl), by decide +kernel⟩, (ws_t 523 (by decide +kernel) rfl), (ws_t 524 (by decide +kernel) rfl)⟩
theorem mk_X8_68 : vOK RX8 68 YX8_gatherPlain := ⟨⟨cd_X8_gatherPlain, (ws_t 14 (by decide +kernel) rfl), (ws_t 526 (by decide +kernel) rfl), by decide +kernel⟩, (ws_t 528 (by decide +kernel) rfl), (ws_p 13 (by decide +kernel) rfl)⟩
theorem mk_X8_92 : vOK RX8 92 YX9_numberAt := ⟨⟨cd_X9_numberAt, (ws_t 15 (by decide +kernel) rfl), (ws_t 531 (by decide +kernel) rfl), by decide +kernel⟩, (ws_t 479 (by decide +kernel) rfl), (ws_t 480 (by decide +kernel) rfl)⟩
theorem mk_X8_72 : vOK RX8 72 YX8_gatherRow := ⟨⟨cd_X8_gatherRow, (ws_t 14 (by decide +kernel) rfl), (ws_t 532 (by decide +kernel) rfl), by decide +kernel⟩, (ws_t 534 (by decide +kernel) rfl), (ws_p 14 (by decide +kernel) rfl)⟩
theorem mk_X8_96 : vOK RX8 96 YX6_rowFailure := ⟨⟨cd_X6_rowFailure, (ws_t 4 (by decide +kernel) rfl), (ws_t 536 (by decide +kernel) rfl), by decide +kernel⟩, (ws_t 170 (by decide +kernel) rfl), (ws_t 171 (by decide +kernel) rfl)⟩
theorem mk_X8_102 : vOK RX8 102 YX10_fail := ⟨⟨cd_X10_fail, (ws_t 2 (by decide +kernel) rfl), (ws_t 537 (by decide +kernel) rfl), by decide +kernel⟩, (ws_t 336 (by decide +kernel) rfl), (ws_t 337 (by decide +kernel) rfl)⟩
theorem mk_X8_76 : vOK RX8 76 YX8_gather := ⟨⟨cd_X8_gather, (ws_t 14 (by decide +kernel) rfl), (ws_t 538 (by decide +kernel) rfl), by decide +kernel⟩, (ws_t 523 (by decide +kernel) rfl), (ws_t 524 (by decide +kernel) rfl)⟩
theorem mk_X8_79 : vOK RX8 79 YX8_keepOfOne := ⟨⟨cd_X8_keepOfOne, (ws_t 14 (by decide +kernel) rfl), (ws_t 539 (by decide +kernel) rfl), by decide +kernel⟩, (ws_t 541 (by decide +kernel) rfl), (ws_p 15 (by decide +kernel) rfl)⟩
theorem mk_X8_113 : sOK RX8 113 YX8_turn := ⟨⟨cd_X8_turn, (ws_t 14 (by decide +kernel) rfl), (ws_t 543 (by decide +kernel) rfl), by decide +kernel⟩, (ws_t 544 (by decide +kernel) rfl)⟩
theorem mk_X8_117 : vOK RX8 117 YX8_sortByNearness := ⟨⟨cd_X8_sortByNearness, (ws_t 14 (by decide +kernel) rfl), (ws_t 546 (by decide +kernel) rfl), by decide +kernel⟩, (ws_t 548 (by decide +kernel) rfl), (ws_p 16 (by decide +kernel) rfl)⟩
theorem mk_X8_130 : vOK RX8 130 YX8_isNearer := ⟨⟨cd_X8_isNearer, (ws_t 14 (by decide +kernel) rfl), (ws_t 550 (by decide +kernel) rfl), by decide +kernel⟩, (ws_t 552 (by decide +kernel) rfl), (ws_p 17 (by decide +kernel) rfl)⟩
theorem mn_X8_134 : sNOK RX8 134 YX11_gap := ⟨cd_X11_gap, (ws_t 1 (by decide +kernel) rfl), (ws_t 555 (by decide +kernel) rfl), by simp [nwl, YX11_gap], by decide +kernel⟩
theorem mn_X8_138 : sNOK RX8 138 YX11_unsignedBelow := ⟨cd_X11_unsignedBelow, (ws_t 1 (by decide +kernel) rfl), (ws_t 393 (by decide +kernel) rfl), by simp [nwl, YX11_unsignedBelow], by decide +kernel⟩
theorem mk_X8_120 : sOK RX8 120 YJ9_min_7cf53 := ⟨⟨cd_J9_min_7cf53, (ws_t 10 (by decide +kernel) rfl), (ws_t 558 (by decide +kernel) rfl), by decide +kernel⟩, (ws_t 559 (by decide +kernel) rfl)⟩
theorem mk_X8_123 : vOK RX8 123 YX8_keepEvery := ⟨⟨cd_X8_keepEvery, (ws_t 14 (by decide +kernel) rfl), (ws_t 561 (by decide +kernel) rfl), by decide +kernel⟩, (ws_t 563 (by decide +kernel) rfl), (ws_p 18 (by decide +kernel) rfl)⟩
theorem mk_X8_127 : vOK RX8 127 YX8_keepPassing := ⟨⟨cd_X8_keepPassing, (ws_t 14 (by decide +kernel) rfl), (ws_t 565 (by decide +kernel) rfl), by decide +kernel⟩, (ws_t 567 (by decide +kernel) rfl), (ws_p 19 (by decide +kernel) rfl)⟩
theorem mk_X8_147 : sOK RX8 147 YX10_canBeMet := ⟨⟨cd_X10_canBeMet, (ws_t 2 (by decide +kernel) rfl), (ws_t 570 (by decide +kernel) rfl), by decide +kernel⟩, (ws_t 366 (by decide +kernel) rfl)⟩
theorem mk_X8_151 : vOK RX8 151 YX10_barByLatest := ⟨⟨cd_X10_barByLatest, (ws_t 2 (by decide +kernel) rfl), (ws_t 571 (by decide +kernel) rfl), by decide +kernel⟩, (ws_t 572 (by decide +kernel) rfl), (ws_t 573 (by decide +kernel) rfl)⟩
theorem mk_X8_83 : vOK RX8 83 YX8_keepOfTwo := ⟨⟨cd_X8_keepOfTwo, (ws_t 14 (by decide +kernel) rfl), (ws_t 575 (by decide +kernel) rfl), by decide +kernel⟩, (ws_t 577 (by decide +kernel) rfl), (ws_p 20 (by decide +kernel) rfl)⟩
theorem mn_X8_155 : sNOK RX8 155 YX11_find := ⟨cd_X11_find, (ws_t 1 (by decide +kernel) rfl), (ws_t 580 (by decide +kernel) rfl), by simp [nwl, YX11_find], by decide +kernel⟩
theorem mk_X11_186 : vOK RX11 186 YX5_becomeGathered := ⟨⟨cd_X5_becomeGathered, (ws_t 3 (by decide +kernel) rfl), (ws_t 582 (by decide +kernel) rfl), by decide +kernel⟩, (ws_t 583 (by decide +kernel) rfl), (ws_t 584 (by decide +kernel) rfl)⟩
theorem mn_X5_23 : sNOK RX5 23 YX11_find := ⟨cd_X11_find, (ws_t 1 (by decide +kernel) rfl), (ws_t 580 (by decide +kernel) rfl), by simp [nwl, YX11_find], by decide +kernel⟩
theorem mk_L_81 : vOK RL 81 YX11_size := ⟨⟨cd_X11_size, (ws_t 1 (by decide +kernel) rfl), (ws_t 587 (by decide +kernel) rfl), by decide +kernel⟩, (ws_t 588 (by decide +kernel) rfl), (ws_t 589 (by decide +kernel) rfl)⟩
theorem mk_X11_190 : vOK RX11 190 YX5_many := ⟨⟨cd_X5_many, (ws_t 3 (by decide +kernel) rfl), (ws_t 591 (by decide +kernel) rfl), by decide +kernel⟩, (ws_t 592 (by decide +kernel) rfl), (ws_t 593 (by decide +kernel) rfl)⟩
theorem mk_L_95 : vOK RL 95 YX11_place := ⟨⟨cd_X11_place, (ws_t 1 (by decide +kernel) rfl), (ws_t 595 (by decide +kernel) rfl), by decide +kernel⟩, (ws_t 596 (by decide +kernel) rfl), (ws_t 597 (by decide +kernel) rfl)⟩
theorem mk_X11_205 : vOK RX11 205 YX5_indexOf := ⟨⟨cd_X5_indexOf, (ws_t 3 (by decide +kernel) rfl), (ws_t 599 (by decide +kernel) rfl), by decide +kernel⟩, (ws_t 600 (by decide +kernel) rfl), (ws_t 601 (by decide +kernel) rfl)⟩
theorem mk_X5_36 : vOK RX5 36 YX9_indexOf := ⟨⟨cd_X9_indexOf, (ws_t 15 (by decide +kernel) rfl), (ws_t 603 (by decide +kernel) rfl), by decide +kernel⟩, (ws_t 604 (by decide +kernel) rfl), (ws_t 605 (by decide +kernel) rfl)⟩
theorem mn_X9_25 : sNOK RX9 25 YX11_gap := ⟨cd_X11_gap, (ws_t 1 (by decide +kernel) rfl), (ws_t 555 (by decide +kernel) rfl), by simp [nwl, YX11_gap], by decide +kernel⟩
theorem mn_X9_31 : sNOK RX9 31 YX11_unsignedRest := ⟨cd_X11_unsignedRest, (ws_t 1 (by decide +kernel) rfl), (ws_t 610 (by decide +kernel) rfl), by simp [nwl, YX11_unsignedRest], by decide +kernel⟩
theorem mn_X9_34 : sNOK RX9 34 YX11_unsignedQuotient := ⟨cd_X11_unsignedQuotient, (ws_t 1 (by decide +kernel) rfl), (ws_t 390 (by decide +kernel) rfl), by simp [nwl, YX11_unsignedQuotient], by decide +kernel⟩
theorem mk_L_102 : vOK RL 102 YX11_barred := ⟨⟨cd_X11_barred, (ws_t 1 (by decide +kernel) rfl), (ws_t 613 (by decide +kernel) rfl), by decide +kernel⟩, (ws_t 614 (by decide +kernel) rfl), (ws_t 615 (by decide +kernel) rfl)⟩
theorem mk_L_106 : vOK RL 106 YX11_bar := ⟨⟨cd_X11_bar, (ws_t 1 (by decide +kernel) rfl), (ws_t 617 (by decide +kernel) rfl), by decide +kernel⟩, (ws_t 618 (by decide +kernel) rfl), (ws_t 619 (by decide +kernel) rfl)⟩
theorem mk_X11_216 : vOK RX11 216 YX10_hasBarred := ⟨⟨cd_X10_hasBarred, (ws_t 2 (by decide +kernel) rfl), (ws_t 621 (by decide +kernel) rfl), by decide +kernel⟩, (ws_t 622 (by decide +kernel) rfl), (ws_t 623 (by decide +kernel) rfl)⟩
theorem mk_L_114 : vOK RL 114 YX11_distance := ⟨⟨cd_X11_distance, (ws_t 1 (by decide +kernel) rfl), (ws_t 625 (by decide +kernel) rfl), by decide +kernel⟩, (ws_t 626 (by decide +kernel) rfl), (ws_t 627 (by decide +kernel) rfl)⟩
theorem mk_X11_231 : sOK RX11 231 YX11_gap := ⟨⟨cd_X11_gap, (ws_t 1 (by decide +kernel) rfl), (ws_t 629 (by decide +kernel) rfl), by decide +kernel⟩, (ws_t 555 (by decide +kernel) rfl)⟩
theorem mk_L_119 : vOK RL 119 YX11_told := ⟨⟨cd_X11_told, (ws_t 1 (by decide +kernel) rfl), (ws_t 630 (by decide +kernel) rfl), by decide +kernel⟩, (ws_t 631 (by decide +kernel) rfl), (ws_t 632 (by decide +kernel) rfl)⟩
theorem mk_L_7 : vOK RL 7 YX11_at := ⟨⟨cd_X11_at, (ws_t 1 (by decide +kernel) rfl), (ws_t 638 (by decide +kernel) rfl), by decide +kernel⟩, (ws_t 639 (by decide +kernel) rfl), (ws_t 640 (by decide +kernel) rfl)⟩
theorem mk_X11_201 : vOK RX11 201 YX5_numberAt := ⟨⟨cd_X5_numberAt, (ws_t 3 (by decide +kernel) rfl), (ws_t 708 (by decide +kernel) rfl), by decide +kernel⟩, (ws_t 709 (by decide +kernel) rfl), (ws_t 710 (by decide +kernel) rfl)⟩
theorem mk_X5_32 : vOK RX5 32 YX9_numberAt := ⟨⟨cd_X9_numberAt, (ws_t 15 (by decide +kernel) rfl), (ws_t 712 (by decide +kernel) rfl), by decide +kernel⟩, (ws_t 479 (by decide +kernel) rfl), (ws_t 480 (by decide +kernel) rfl)⟩
theorem mk_L_15 : vOK RL 15 YX11_draw := ⟨⟨cd_X11_draw, (ws_t 1 (by decide +kernel) rfl), (ws_t 716 (by decide +kernel) rfl), by decide +kernel⟩, (ws_t 717 (by decide +kernel) rfl), (ws_t 718 (by decide +kernel) rfl)⟩
theorem mk_X11_210 : sOK RX11 210 YX11_unsignedRest := ⟨⟨cd_X11_unsignedRest, (ws_t 1 (by decide +kernel) rfl), (ws_t 721 (by decide +kernel) rfl), by decide +kernel⟩, (ws_t 610 (by decide +kernel) rfl)⟩
theorem mk_L_18 : vOK RL 18 YX11_barredAt := ⟨⟨cd_X11_barredAt, (ws_t 1 (by decide +kernel) rfl), (ws_t 725 (by decide +kernel) rfl), by decide +kernel⟩, (ws_t 726 (by decide +kernel) rfl), (ws_t 727 (by decide +kernel) rfl)⟩
theorem mk_L_25 : iOK RL 25 YX12_init := ⟨⟨cd_X12_init, (ws_t 6 (by decide +kernel) rfl), (ws_t 732 (by decide +kernel) rfl), by decide +kernel⟩, rfl, (ws_t 733 (by decide +kernel) rfl)⟩
theorem ok_X12_1 : Cond.methodLink RX12 1 objectInit ∈ WS := (ws_t 735 (by decide +kernel) rfl)
theorem mk_L_92 : vOK RL 92 YX12_thrown := ⟨⟨cd_X12_thrown, (ws_t 6 (by decide +kernel) rfl), (ws_t 861 (by decide +kernel) rfl), by decide +kernel⟩, (ws_t 862 (by decide +kernel) rfl), (ws_t 863 (by decide +kernel) rfl)⟩
theorem mk_L_30 : vOK RL 30 YX12_shelf := ⟨⟨cd_X12_shelf, (ws_t 6 (by decide +kernel) rfl), (ws_t 865 (by decide +kernel) rfl), by decide +kernel⟩, (ws_t 866 (by decide +kernel) rfl), (ws_t 867 (by decide +kernel) rfl)⟩
theorem mk_L_37 : vOK RL 37 YX12_item := ⟨⟨cd_X12_item, (ws_t 6 (by decide +kernel) rfl), (ws_t 869 (by decide +kernel) rfl), by decide +kernel⟩, (ws_t 870 (by decide +kernel) rfl), (ws_t 871 (by decide +kernel) rfl)⟩
theorem mk_L_42 : vOK RL 42 YX12_box := ⟨⟨cd_X12_box, (ws_t 6 (by decide +kernel) rfl), (ws_t 873 (by decide +kernel) rfl), by decide +kernel⟩, (ws_t 874 (by decide +kernel) rfl), (ws_t 875 (by decide +kernel) rfl)⟩
theorem mk_L_47 : vOK RL 47 YX12_filter := ⟨⟨cd_X12_filter, (ws_t 6 (by decide +kernel) rfl), (ws_t 877 (by decide +kernel) rfl), by decide +kernel⟩, (ws_t 878 (by decide +kernel) rfl), (ws_t 879 (by decide +kernel) rfl)⟩
theorem mk_X12_106 : vOK RX12 106 YX12_isFilter := ⟨⟨cd_X12_isFilter, (ws_t 6 (by decide +kernel) rfl), (ws_t 881 (by decide +kernel) rfl), by decide +kernel⟩, (ws_t 883 (by decide +kernel) rfl), (ws_p 22 (by decide +kernel) rfl)⟩
theorem mk_L_52 : vOK RL 52 YX12_ask := ⟨⟨cd_X12_ask, (ws_t 6 (by decide +kernel) rfl), (ws_t 885 (by decide +kernel) rfl), by decide +kernel⟩, (ws_t 886 (by decide +kernel) rfl), (ws_t 887 (by decide +kernel) rfl)⟩
theorem mk_X12_131 : vOK RX12 131 YX12_passes := ⟨⟨cd_X12_passes, (ws_t 6 (by decide +kernel) rfl), (ws_t 889 (by decide +kernel) rfl), by decide +kernel⟩, (ws_t 891 (by decide +kernel) rfl), (ws_p 23 (by decide +kernel) rfl)⟩
theorem mk_X12_119 : vOK RX12 119 YX12_fails := ⟨⟨cd_X12_fails, (ws_t 6 (by decide +kernel) rfl), (ws_t 893 (by decide +kernel) rfl), by decide +kernel⟩, (ws_t 895 (by decide +kernel) rfl), (ws_p 24 (by decide +kernel) rfl)⟩
theorem mk_X12_127 : vOK RX12 127 YX12_puts := ⟨⟨cd_X12_puts, (ws_t 6 (by decide +kernel) rfl), (ws_t 899 (by decide +kernel) rfl), by decide +kernel⟩, (ws_t 901 (by decide +kernel) rfl), (ws_p 25 (by decide +kernel) rfl)⟩
theorem mk_L_57 : vOK RL 57 YX12_asked := ⟨⟨cd_X12_asked, (ws_t 6 (by decide +kernel) rfl), (ws_t 904 (by decide +kernel) rfl), by decide +kernel⟩, (ws_t 905 (by decide +kernel) rfl), (ws_t 906 (by decide +kernel) rfl)⟩
theorem mk_L_62 : vOK RL 62 YX12_span := ⟨⟨cd_X12_span, (ws_t 6 (by decide +kernel) rfl), (ws_t 908 (by decide +kernel) rfl), by decide +kernel⟩, (ws_t 909 (by decide +kernel) rfl), (ws_t 910 (by decide +kernel) rfl)⟩
theorem mk_X12_142 : sOK RX12 142 YX12_divided := ⟨⟨cd_X12_divided, (ws_t 6 (by decide +kernel) rfl), (ws_t 912 (by decide +kernel) rfl), by decide +kernel⟩, (ws_t 913 (by decide +kernel) rfl)⟩
theorem mk_X12_150 : vOK RX12 150 YX12_comes := ⟨⟨cd_X12_comes, (ws_t 6 (by decide +kernel) rfl), (ws_t 917 (by decide +kernel) rfl), by decide +kernel⟩, (ws_t 919 (by decide +kernel) rfl), (ws_p 26 (by decide +kernel) rfl)⟩
theorem mk_L_67 : vOK RL 67 YX12_list := ⟨⟨cd_X12_list, (ws_t 6 (by decide +kernel) rfl), (ws_t 921 (by decide +kernel) rfl), by decide +kernel⟩, (ws_t 922 (by decide +kernel) rfl), (ws_t 923 (by decide +kernel) rfl)⟩
theorem mk_L_71 : vOK RL 71 YX12_add := ⟨⟨cd_X12_add, (ws_t 6 (by decide +kernel) rfl), (ws_t 925 (by decide +kernel) rfl), by decide +kernel⟩, (ws_t 926 (by decide +kernel) rfl), (ws_t 927 (by decide +kernel) rfl)⟩
theorem mk_X12_154 : vOK RX12 154 YX12_isSource := ⟨⟨cd_X12_isSource, (ws_t 6 (by decide +kernel) rfl), (ws_t 929 (by decide +kernel) rfl), by decide +kernel⟩, (ws_t 931 (by decide +kernel) rfl), (ws_p 27 (by decide +kernel) rfl)⟩
theorem mk_L_76 : vOK RL 76 YX12_source := ⟨⟨cd_X12_source, (ws_t 6 (by decide +kernel) rfl), (ws_t 933 (by decide +kernel) rfl), by decide +kernel⟩, (ws_t 934 (by decide +kernel) rfl), (ws_t 935 (by decide +kernel) rfl)⟩
theorem mk_L_80 : vOK RL 80 YX12_range := ⟨⟨cd_X12_range, (ws_t 6 (by decide +kernel) rfl), (ws_t 937 (by decide +kernel) rfl), by decide +kernel⟩, (ws_t 938 (by decide +kernel) rfl), (ws_t 939 (by decide +kernel) rfl)⟩
theorem mk_X12_173 : vOK RX12 173 YX12_goes := ⟨⟨cd_X12_goes, (ws_t 6 (by decide +kernel) rfl), (ws_t 941 (by decide +kernel) rfl), by decide +kernel⟩, (ws_t 943 (by decide +kernel) rfl), (ws_p 28 (by decide +kernel) rfl)⟩
theorem mk_X12_163 : vOK RX12 163 YX12_put := ⟨⟨cd_X12_put, (ws_t 6 (by decide +kernel) rfl), (ws_t 946 (by decide +kernel) rfl), by decide +kernel⟩, (ws_t 948 (by decide +kernel) rfl), (ws_p 29 (by decide +kernel) rfl)⟩
theorem mk_X12_167 : vOK RX12 167 YX12_twoOf := ⟨⟨cd_X12_twoOf, (ws_t 6 (by decide +kernel) rfl), (ws_t 950 (by decide +kernel) rfl), by decide +kernel⟩, (ws_t 952 (by decide +kernel) rfl), (ws_p 30 (by decide +kernel) rfl)⟩
theorem mk_X12_180 : vOK RX12 180 YX12_isIn := ⟨⟨cd_X12_isIn, (ws_t 6 (by decide +kernel) rfl), (ws_t 954 (by decide +kernel) rfl), by decide +kernel⟩, (ws_t 956 (by decide +kernel) rfl), (ws_p 31 (by decide +kernel) rfl)⟩
theorem mk_X12_170 : vOK RX12 170 YX12_shelfOf := ⟨⟨cd_X12_shelfOf, (ws_t 6 (by decide +kernel) rfl), (ws_t 958 (by decide +kernel) rfl), by decide +kernel⟩, (ws_t 960 (by decide +kernel) rfl), (ws_p 32 (by decide +kernel) rfl)⟩
theorem mk_X12_176 : vOK RX12 176 YX12_one := ⟨⟨cd_X12_one, (ws_t 6 (by decide +kernel) rfl), (ws_t 962 (by decide +kernel) rfl), by decide +kernel⟩, (ws_t 964 (by decide +kernel) rfl), (ws_p 33 (by decide +kernel) rfl)⟩
theorem mk_X12_183 : vOK RX12 183 YX12_near := ⟨⟨cd_X12_near, (ws_t 6 (by decide +kernel) rfl), (ws_t 966 (by decide +kernel) rfl), by decide +kernel⟩, (ws_t 968 (by decide +kernel) rfl), (ws_p 34 (by decide +kernel) rfl)⟩
theorem mk_X12_195 : sOK RX12 195 YX12_isNearer := ⟨⟨cd_X12_isNearer, (ws_t 6 (by decide +kernel) rfl), (ws_t 970 (by decide +kernel) rfl), by decide +kernel⟩, (ws_t 971 (by decide +kernel) rfl)⟩
theorem mk_X12_190 : sOK RX12 190 YX12_far := ⟨⟨cd_X12_far, (ws_t 6 (by decide +kernel) rfl), (ws_t 973 (by decide +kernel) rfl), by decide +kernel⟩, (ws_t 974 (by decide +kernel) rfl)⟩
theorem mk_X12_212 : vOK RX12 212 YX12_place := ⟨⟨cd_X12_place, (ws_t 6 (by decide +kernel) rfl), (ws_t 977 (by decide +kernel) rfl), by decide +kernel⟩, (ws_t 978 (by decide +kernel) rfl), (ws_t 979 (by decide +kernel) rfl)⟩
theorem mk_L_85 : vOK RL 85 YX12_size := ⟨⟨cd_X12_size, (ws_t 6 (by decide +kernel) rfl), (ws_t 981 (by decide +kernel) rfl), by decide +kernel⟩, (ws_t 982 (by decide +kernel) rfl), (ws_t 983 (by decide +kernel) rfl)⟩
theorem mk_L_91 : vOK RL 91 YX12_at := ⟨⟨cd_X12_at, (ws_t 6 (by decide +kernel) rfl), (ws_t 985 (by decide +kernel) rfl), by decide +kernel⟩, (ws_t 986 (by decide +kernel) rfl), (ws_t 987 (by decide +kernel) rfl)⟩
theorem mk_L_98 : vOK RL 98 YX12_place := ⟨⟨cd_X12_place, (ws_t 6 (by decide +kernel) rfl), (ws_t 989 (by decide +kernel) rfl), by decide +kernel⟩, (ws_t 978 (by decide +kernel) rfl), (ws_t 979 (by decide +kernel) rfl)⟩
theorem mk_L_101 : vOK RL 101 YX12_draw := ⟨⟨cd_X12_draw, (ws_t 6 (by decide +kernel) rfl), (ws_t 990 (by decide +kernel) rfl), by decide +kernel⟩, (ws_t 991 (by decide +kernel) rfl), (ws_t 992 (by decide +kernel) rfl)⟩
theorem mk_X12_216 : vOK RX12 216 YX12_at := ⟨⟨cd_X12_at, (ws_t 6 (by decide +kernel) rfl), (ws_t 994 (by decide +kernel) rfl), by decide +kernel⟩, (ws_t 986 (by decide +kernel) rfl), (ws_t 987 (by decide +kernel) rfl)⟩
theorem mk_L_105 : vOK RL 105 YX12_barred := ⟨⟨cd_X12_barred, (ws_t 6 (by decide +kernel) rfl), (ws_t 995 (by decide +kernel) rfl), by decide +kernel⟩, (ws_t 996 (by decide +kernel) rfl), (ws_t 997 (by decide +kernel) rfl)⟩
theorem mk_L_109 : vOK RL 109 YX12_bar := ⟨⟨cd_X12_bar, (ws_t 6 (by decide +kernel) rfl), (ws_t 999 (by decide +kernel) rfl), by decide +kernel⟩, (ws_t 1000 (by decide +kernel) rfl), (ws_t 1001 (by decide +kernel) rfl)⟩
theorem mk_L_113 : vOK RL 113 YX12_barredAt := ⟨⟨cd_X12_barredAt, (ws_t 6 (by decide +kernel) rfl), (ws_t 1003 (by decide +kernel) rfl), by decide +kernel⟩, (ws_t 1004 (by decide +kernel) rfl), (ws_t 1005 (by decide +kernel) rfl)⟩
theorem mk_L_118 : vOK RL 118 YX12_distance := ⟨⟨cd_X12_distance, (ws_t 6 (by decide +kernel) rfl), (ws_t 1007 (by decide +kernel) rfl), by decide +kernel⟩, (ws_t 1008 (by decide +kernel) rfl), (ws_t 1009 (by decide +kernel) rfl)⟩
theorem mk_L_122 : vOK RL 122 YX12_told := ⟨⟨cd_X12_told, (ws_t 6 (by decide +kernel) rfl), (ws_t 1011 (by decide +kernel) rfl), by decide +kernel⟩, (ws_t 1012 (by decide +kernel) rfl), (ws_t 1013 (by decide +kernel) rfl)⟩
end
section
theorem np_X11_init : nPar YX11_init = some 0 := by decide +kernel
theorem np_X10_init : nPar YX10_init = some 0 := by decide +kernel
theorem np_X5_init : nPar YX5_init = some 0 := by decide +kernel
theorem np_X6_init : nPar YX6_init = some 0 := by decide +kernel
theorem np_X0_init : nPar YX0_init = some 1 := by decide +kernel
theorem np_X11_shelf : nPar YX11_shelf = some 3 := by decide +kernel
theorem np_X11_shelfAt : nPar YX11_shelfAt = some 1 := by decide +kernel
theorem np_X6_hold : nPar YX6_hold = some 2 := by decide +kernel
theorem np_J7_fill_d0a16 : nPar YJ7_fill_d0a16 = some 2 := by decide +kernel
theorem np_X11_item : nPar YX11_item = some 3 := by decide +kernel
theorem np_X6_rowFailure : nPar YX6_rowFailure = some 0 := by decide +kernel
theorem np_X6_hasItem : nPar YX6_hasItem = some 1 := by decide +kernel
theorem np_X6_setItem : nPar YX6_setItem = some 2 := by decide +kernel
theorem np_X11_box : nPar YX11_box = some 2 := by decide +kernel
theorem np_X11_boxAt : nPar YX11_boxAt = some 1 := by decide +kernel
theorem np_X11_filter : nPar YX11_filter = some 4 := by decide +kernel
theorem np_X11_filterOfFilters : nPar YX11_filterOfFilters = some 3 := by decide +kernel
theorem np_X11_filterAt : nPar YX11_filterAt = some 1 := by decide +kernel
theorem np_X3_init : nPar YX3_init = some 4 := by decide +kernel
theorem np_J9_max_7cf53 : nPar YJ9_max_7cf53 = some 2 := by decide +kernel
theorem np_X2_init : nPar YX2_init = some 2 := by decide +kernel
theorem np_X11_keepFilter : nPar YX11_keepFilter = some 1 := by decide +kernel
theorem np_X11_filterOfShelf : nPar YX11_filterOfShelf = some 3 := by decide +kernel
theorem np_X7_init : nPar YX7_init = some 4 := by decide +kernel
theorem np_X11_filterOfBox : nPar YX11_filterOfBox = some 2 := by decide +kernel
theorem np_J9_abs_067f4 : nPar YJ9_abs_067f4 = some 1 := by decide +kernel
theorem np_X1_init : nPar YX1_init = some 3 := by decide +kernel
theorem np_X4_init : nPar YX4_init = some 4 := by decide +kernel
theorem np_X11_ask : nPar YX11_ask = some 2 := by decide +kernel
theorem np_X10_beginAsk : nPar YX10_beginAsk = some 0 := by decide +kernel
theorem np_X1_judge : nPar YX1_judge = some 2 := by decide +kernel
theorem np_X1_thingFor : nPar YX1_thingFor = some 1 := by decide +kernel
theorem np_X0_put : nPar YX0_put = some 2 := by decide +kernel
theorem np_X0_takes : nPar YX0_takes = some 1 := by decide +kernel
theorem np_X10_fail : nPar YX10_fail = some 2 := by decide +kernel
theorem np_X3_judge : nPar YX3_judge = some 2 := by decide +kernel
theorem np_X4_judge : nPar YX4_judge = some 2 := by decide +kernel
theorem np_X2_verdict : nPar YX2_verdict = some 1 := by decide +kernel
theorem np_X4_judgeRoom : nPar YX4_judgeRoom = some 2 := by decide +kernel
theorem np_X7_judge : nPar YX7_judge = some 2 := by decide +kernel
theorem np_X3_leavesItToSecond : nPar YX3_leavesItToSecond = some 1 := by decide +kernel
theorem np_X10_canBeMet : nPar YX10_canBeMet = some 1 := by decide +kernel
theorem np_X11_asked : nPar YX11_asked = some 1 := by decide +kernel
theorem np_X3_timesAsked : nPar YX3_timesAsked = some 0 := by decide +kernel
theorem np_X2_timesAsked : nPar YX2_timesAsked = some 0 := by decide +kernel
theorem np_X11_span : nPar YX11_span = some 3 := by decide +kernel
theorem np_X11_unsignedQuotient : nPar YX11_unsignedQuotient = some 2 := by decide +kernel
theorem np_X11_unsignedBelow : nPar YX11_unsignedBelow = some 2 := by decide +kernel
theorem np_X9_init : nPar YX9_init = some 4 := by decide +kernel
theorem np_X8_init : nPar YX8_init = some 1 := by decide +kernel
theorem np_X11_keepSource : nPar YX11_keepSource = some 1 := by decide +kernel
theorem np_X11_list : nPar YX11_list = some 0 := by decide +kernel
theorem np_X8_init_ : nPar YX8_init_ = some 7 := by decide +kernel
theorem np_X8_depthOver : nPar YX8_depthOver = some 2 := by decide +kernel
theorem np_X8_plainOver : nPar YX8_plainOver = some 3 := by decide +kernel
theorem np_X9_turned : nPar YX9_turned = some 0 := by decide +kernel
theorem np_X9_numberAt : nPar YX9_numberAt = some 1 := by decide +kernel
theorem np_X9_every : nPar YX9_every = some 1 := by decide +kernel
theorem np_X11_add : nPar YX11_add = some 2 := by decide +kernel
theorem np_X11_sourceAt : nPar YX11_sourceAt = some 1 := by decide +kernel
theorem np_X6_append : nPar YX6_append = some 1 := by decide +kernel
theorem np_X11_source : nPar YX11_source = some 6 := by decide +kernel
theorem np_X11_countFits : nPar YX11_countFits = some 2 := by decide +kernel
theorem np_X11_sourceOfShelf : nPar YX11_sourceOfShelf = some 1 := by decide +kernel
theorem np_X11_range : nPar YX11_range = some 1 := by decide +kernel
theorem np_X10_beginRange : nPar YX10_beginRange = some 0 := by decide +kernel
theorem np_X5_becomePlain : nPar YX5_becomePlain = some 1 := by decide +kernel
theorem np_X8_gather : nPar YX8_gather = some 3 := by decide +kernel
theorem np_X8_gatherPlain : nPar YX8_gatherPlain = some 2 := by decide +kernel
theorem np_X8_gatherRow : nPar YX8_gatherRow = some 3 := by decide +kernel
theorem np_X8_keepOfOne : nPar YX8_keepOfOne = some 4 := by decide +kernel
theorem np_X8_turn : nPar YX8_turn = some 3 := by decide +kernel
theorem np_X8_sortByNearness : nPar YX8_sortByNearness = some 3 := by decide +kernel
theorem np_X8_isNearer : nPar YX8_isNearer = some 2 := by decide +kernel
theorem np_X11_gap : nPar YX11_gap = some 2 := by decide +kernel
theorem np_J9_min_7cf53 : nPar YJ9_min_7cf53 = some 2 := by decide +kernel
theorem np_X8_keepEvery : nPar YX8_keepEvery = some 3 := by decide +kernel
theorem np_X8_keepPassing : nPar YX8_keepPassing = some 4 := by decide +kernel
theorem np_X10_barByLatest : nPar YX10_barByLatest = some 2 := by decide +kernel
theorem np_X8_keepOfTwo : nPar YX8_keepOfTwo = some 4 := by decide +kernel
theorem np_X11_find : nPar YX11_find = some 4 := by decide +kernel
theorem np_X5_becomeGathered : nPar YX5_becomeGathered = some 2 := by decide +kernel
theorem np_X11_size : nPar YX11_size = some 0 := by decide +kernel
theorem np_X5_many : nPar YX5_many = some 0 := by decide +kernel
theorem np_X11_place : nPar YX11_place = some 1 := by decide +kernel
theorem np_X5_indexOf : nPar YX5_indexOf = some 1 := by decide +kernel
theorem np_X9_indexOf : nPar YX9_indexOf = some 1 := by decide +kernel
theorem np_X11_unsignedRest : nPar YX11_unsignedRest = some 2 := by decide +kernel
theorem np_X11_barred : nPar YX11_barred = some 0 := by decide +kernel
theorem np_X11_bar : nPar YX11_bar = some 2 := by decide +kernel
theorem np_X10_hasBarred : nPar YX10_hasBarred = some 1 := by decide +kernel
theorem np_X11_distance : nPar YX11_distance = some 2 := by decide +kernel
theorem np_X11_told : nPar YX11_told = some 1 := by decide +kernel
theorem np_X11_at : nPar YX11_at = some 1 := by decide +kernel
theorem np_X5_numberAt : nPar YX5_numberAt = some 1 := by decide +kernel
theorem np_X11_draw : nPar YX11_draw = some 1 := by decide +kernel
theorem np_X11_barredAt : nPar YX11_barredAt = some 1 := by decide +kernel
theorem np_X12_init : nPar YX12_init = some 0 := by decide +kernel
theorem np_X12_thrown : nPar YX12_thrown = some 0 := by decide +kernel
theorem np_X12_shelf : nPar YX12_shelf = some 3 := by decide +kernel
theorem np_X12_item : nPar YX12_item = some 3 := by decide +kernel
theorem np_X12_box : nPar YX12_box = some 2 := by decide +kernel
theorem np_X12_filter : nPar YX12_filter = some 4 := by decide +kernel
theorem np_X12_isFilter : nPar YX12_isFilter = some 1 := by decide +kernel
theorem np_X12_ask : nPar YX12_ask = some 2 := by decide +kernel
theorem np_X12_passes : nPar YX12_passes = some 2 := by decide +kernel
theorem np_X12_fails : nPar YX12_fails = some 2 := by decide +kernel
theorem np_X12_puts : nPar YX12_puts = some 4 := by decide +kernel
theorem np_X12_asked : nPar YX12_asked = some 1 := by decide +kernel
theorem np_X12_span : nPar YX12_span = some 3 := by decide +kernel
theorem np_X12_divided : nPar YX12_divided = some 2 := by decide +kernel
theorem np_X12_comes : nPar YX12_comes = some 3 := by decide +kernel
theorem np_X12_list : nPar YX12_list = some 0 := by decide +kernel
theorem np_X12_add : nPar YX12_add = some 2 := by decide +kernel
theorem np_X12_isSource : nPar YX12_isSource = some 1 := by decide +kernel
theorem np_X12_source : nPar YX12_source = some 6 := by decide +kernel
theorem np_X12_range : nPar YX12_range = some 1 := by decide +kernel
theorem np_X12_goes : nPar YX12_goes = some 2 := by decide +kernel
theorem np_X12_put : nPar YX12_put = some 2 := by decide +kernel
theorem np_X12_twoOf : nPar YX12_twoOf = some 2 := by decide +kernel
theorem np_X12_isIn : nPar YX12_isIn = some 2 := by decide +kernel
theorem np_X12_shelfOf : nPar YX12_shelfOf = some 2 := by decide +kernel
theorem np_X12_one : nPar YX12_one = some 3 := by decide +kernel
theorem np_X12_near : nPar YX12_near = some 4 := by decide +kernel
theorem np_X12_isNearer : nPar YX12_isNearer = some 3 := by decide +kernel
theorem np_X12_far : nPar YX12_far = some 2 := by decide +kernel
theorem np_X12_place : nPar YX12_place = some 1 := by decide +kernel
theorem np_X12_size : nPar YX12_size = some 0 := by decide +kernel
theorem np_X12_at : nPar YX12_at = some 1 := by decide +kernel
theorem np_X12_draw : nPar YX12_draw = some 1 := by decide +kernel
theorem np_X12_barred : nPar YX12_barred = some 0 := by decide +kernel
theorem np_X12_bar : nPar YX12_bar = some 2 := by decide +kernel
theorem np_X12_barredAt : nPar YX12_barredAt = some 1 := by decide +kernel
theorem np_X12_distance : nPar YX12_distance = some 2 := by decide +kernel
theorem np_X12_told : nPar YX12_told = some 1 := by decide +kernel
theorem ac_0 : Cond.arrayClass (aTy 0) ∈ WS := (ws_t 67 (by decide +kernel) rfl)
theorem ac_1 : Cond.arrayClass (aTy 1) ∈ WS := (ws_t 66 (by decide +kernel) rfl)
theorem ac_2 : Cond.arrayClass (aTy 2) ∈ WS := (ws_t 860 (by decide +kernel) rfl)
theorem oi_m : Cond.instanceMethod objectInit ∈ WS := (ws_t 26 (by decide +kernel) rfl)
theorem oi_c : Cond.code objectInit ⟨#[0xb1]⟩ 1 none ∈ WS := (ws_t 27 (by decide +kernel) rfl)
section QK
variable {l : Launch} {G : Gt} {Y : Yt} {B : Bt} {M : Mt} {cells slots : Nat} {Q : State → Prop} {pc : Nat} {ls : List (Option Value)} {rest : List Value}
theorem kI {Ψ : Int32 → Zt → Prop} (kk : ∀ (r : Int32) (Z' : Zt), Ψ r Z' → Jd l G Y B M Z' cells slots Q pc ls (.int r :: rest)) : ∀ (v : Option Value) (Z' : Zt), ΦI Ψ v Z' → Jd l G Y B M Z' cells slots Q pc ls (v.toList ++ rest) := by
  rintro v Z' ⟨r, rfl, h⟩
  exact kk r Z' h
theorem kL {Ψ : Int64 → Zt → Prop} (kk : ∀ (r : Int64) (Z' : Zt), Ψ r Z' → Jd l G Y B M Z' cells slots Q pc ls (.long r :: rest)) : ∀ (v : Option Value) (Z' : Zt), ΦL Ψ v Z' → Jd l G Y B M Z' cells slots Q pc ls (v.toList ++ rest) := by
  rintro v Z' ⟨r, rfl, h⟩
  exact kk r Z' h
theorem kV {Ψ : Zt → Prop} (kk : ∀ (Z' : Zt), Ψ Z' → Jd l G Y B M Z' cells slots Q pc ls rest) : ∀ (v : Option Value) (Z' : Zt), ΦV Ψ v Z' → Jd l G Y B M Z' cells slots Q pc ls (v.toList ++ rest) := by
  rintro v Z' ⟨rfl, h⟩
  exact kk Z' h
theorem kA {Ψ : Option Nat → Zt → Prop} (kk : ∀ (r : Option Nat) (Z' : Zt), Ψ r Z' → Jd l G Y B M Z' cells slots Q pc ls (va_rf r :: rest)) : ∀ (v : Option Value) (Z' : Zt), ΦA Ψ v Z' → Jd l G Y B M Z' cells slots Q pc ls (v.toList ++ rest) := by
  rintro v Z' ⟨r, rfl, h⟩
  exact kk r Z' h
end QK
end
section
/-! switches: a goal a key, and one for the rest -/
theorem sw_off (x : Int32) (pc : Int) (d : Int) : ∀ kt : List (Int32 × Nat), (∃ q ∈ kt, x = q.1 ∧ Op.lookupswitch.offset (kt.map (fun q => (q.1.toInt, (q.2 : Int) - pc))) d x.toInt = (q.2 : Int) - pc) ∨ ((∀ q ∈ kt, ¬ x = q.1) ∧ Op.lookupswitch.offset (kt.map (fun q => (q.1.toInt, (q.2 : Int) - pc))) d x.toInt = d)
  | [] => Or.inr ⟨fun q h => absurd h List.not_mem_nil, rfl⟩
  | (k, t) :: r => by
    by_cases h : x = k
    · subst h
      refine Or.inl ⟨(x, t), List.mem_cons_self, rfl, ?_⟩
      simp [Op.lookupswitch.offset]
    · have e : Op.lookupswitch.offset (((k, t) :: r).map (fun q => (q.1.toInt, (q.2 : Int) - pc))) d x.toInt = Op.lookupswitch.offset (r.map (fun q => (q.1.toInt, (q.2 : Int) - pc))) d x.toInt := lv_osw h rfl
      rcases sw_off x pc d r with ⟨q, hq, hx, ho⟩ | ⟨hn, ho⟩
      · exact Or.inl ⟨q, List.mem_cons_of_mem _ hq, hx, by rw [e]; exact ho⟩
      · refine Or.inr ⟨fun q hq => ?_, by rw [e]; exact ho⟩
        rcases List.mem_cons.mp hq with rfl | hq
        · exact h
        · exact hn q hq
section QS
variable {l : Launch} {G : Gt} {Y : Yt} {B : Bt} {M : Mt} {Z : Zt} {cells slots : Nat} {Q : State → Prop} {pc : Nat} {ls : List (Option Value)} {st : List Value}
theorem q_lsw {dflt : Int} {ps : Array (Int × Int)} {len : Nat} {x : Int32} (kt : List (Int32 × Nat)) (dt : Nat) (hd : decode Y.2.1 pc = .ok (.lookupswitch dflt ps, len)) (hp : (ps.toList.zip (ps.toList.drop 1)).all (fun (a, next) => a.1 < next.1) = true) (hk : ps.toList = kt.map (fun q => (q.1.toInt, (q.2 : Int) - (pc : Int)))) (hdt : (pc : Int) + dflt = (dt : Int))
    (k1 : ∀ q ∈ kt, x = q.1 → Jd l G Y B M Z cells slots Q q.2 ls st) (k2 : (∀ q ∈ kt, ¬ x = q.1) → Jd l G Y B M Z cells slots Q dt ls st) : Jd l G Y B M Z cells slots Q pc ls (.int x :: st) := by
  rcases sw_off x pc dflt kt with ⟨q, hq, hx, ho⟩ | ⟨hn, ho⟩
  · exact q_lookup (off := (q.2 : Int) - (pc : Int)) q.2 hd hp (by rw [hk]; exact ho) (by omega) (k1 q hq hx)
  · exact q_lookup (off := dflt) dt hd hp (by rw [hk]; exact ho) hdt (k2 hn)
theorem q_tsw {dflt lo hi : Int} {offs : Array Int} {len : Nat} {x : Int32} (kt : List (Int32 × Nat)) (dt : Nat) (hd : decode Y.2.1 pc = .ok (.tableswitch dflt lo hi offs, len)) (hk : offs.toList = kt.map (fun q => (q.2 : Int) - (pc : Int))) (hlo : kt.map (fun q => q.1.toInt) = (List.range kt.length).map (fun (i : Nat) => lo + (i : Int))) (hhi : hi = lo + (kt.length : Int) - 1) (hdt : (pc : Int) + dflt = (dt : Int))
    (k1 : ∀ q ∈ kt, x = q.1 → Jd l G Y B M Z cells slots Q q.2 ls st) (k2 : (∀ q ∈ kt, ¬ x = q.1) → Jd l G Y B M Z cells slots Q dt ls st) : Jd l G Y B M Z cells slots Q pc ls (.int x :: st) := by
  have at1 : ∀ (i : Nat) (q : Int32 × Nat), kt[i]? = some q → q.1.toInt = lo + (i : Int) ∧ i < kt.length := by
    intro i q h
    have hl := (List.getElem?_eq_some_iff.mp h).1
    have h1 : (kt.map (fun q => q.1.toInt))[i]? = some q.1.toInt := by rw [List.getElem?_map, h]; rfl
    rw [hlo, List.getElem?_map, List.getElem?_range hl] at h1
    exact ⟨(Option.some.inj h1).symm, hl⟩
  by_cases h1 : x.toInt < lo ∨ hi < x.toInt
  · refine q_tableOut dt hd h1 hdt (k2 (fun q hq hx => ?_))
    obtain ⟨i, hi0⟩ := List.getElem?_of_mem hq
    obtain ⟨e1, e2⟩ := at1 i q hi0
    rw [hx] at h1
    omega
  · have h2 : ¬ x.toInt < lo := fun h => h1 (Or.inl h)
    have h3 : ¬ hi < x.toInt := fun h => h1 (Or.inr h)
    obtain ⟨j, hj⟩ : ∃ j : Nat, x.toInt - lo = (j : Int) := ⟨(x.toInt - lo).toNat, by omega⟩
    have hjl : j < kt.length := by omega
    have hq : kt[j]? = some kt[j] := List.getElem?_eq_getElem hjl
    obtain ⟨e1, -⟩ := at1 j _ hq
    have hx : x = (kt[j]).1 := Int32.toInt_inj.mp (by omega)
    refine q_tableIn (kt[j]).2 hd h2 h3 (off := ((kt[j]).2 : Int) - (pc : Int)) ?_ (by omega) (k1 _ (List.mem_of_getElem? hq) hx)
    rw [hj, Int.toNat_natCast, ← Array.getElem?_toList, hk, List.getElem?_map, hq]
    rfl
end QS
/-! answers that are true or false; arrays set as a whole -/
def rb (r : Int32) (P : Prop) : Prop := (P → r = 1) ∧ (¬ P → r = 0)
theorem rb_t {r : Int32} {P : Prop} (h : rb r P) (c : ¬ r = 0) : P := Classical.byContradiction fun n => c (h.2 n)
theorem rb_f {r : Int32} {P : Prop} (h : rb r P) (c : r = 0) : ¬ P := fun p => absurd ((h.1 p).symm.trans c) (by decide)
theorem rb_1 {P : Prop} (p : P) : rb 1 P := ⟨fun _ => rfl, fun n => absurd p n⟩
theorem rb_0 {P : Prop} (n : ¬ P) : rb 0 P := ⟨fun p => absurd p n, fun _ => rfl⟩
theorem rb_z {r : Int32} {P : Prop} (h : rb r P) : r = 0 ∨ r = 1 := (Classical.em P).elim (fun p => Or.inr (h.1 p)) (fun n => Or.inl (h.2 n))
def tI (Z : Zt) (a : Nat) (f : Nat → Int32) : Zt := (zK Z, zL Z, zF Z, fun a' => if a' = a then f else zI Z a', zJ Z, zR Z, zN Z)
def tJ (Z : Zt) (a : Nat) (f : Nat → Int64) : Zt := (zK Z, zL Z, zF Z, zI Z, fun a' => if a' = a then f else zJ Z a', zR Z, zN Z)
theorem sI_t (Z : Zt) (a i : Nat) (v : Int32) : sI Z a i v = tI Z a (upd (zI Z a) i v) := rfl
theorem sJ_t (Z : Zt) (a i : Nat) (v : Int64) : sJ Z a i v = tJ Z a (vp_updL (zJ Z a) i v) := rfl
theorem zK_tI (Z : Zt) (a : Nat) (f : Nat → Int32) : zK (tI Z a f) = zK Z := rfl
theorem zL_tI (Z : Zt) (a : Nat) (f : Nat → Int32) : zL (tI Z a f) = zL Z := rfl
theorem zF_tI (Z : Zt) (a : Nat) (f : Nat → Int32) : zF (tI Z a f) = zF Z := rfl
theorem zJ_tI (Z : Zt) (a : Nat) (f : Nat → Int32) : zJ (tI Z a f) = zJ Z := rfl
theorem zR_tI (Z : Zt) (a : Nat) (f : Nat → Int32) : zR (tI Z a f) = zR Z := rfl
theorem zN_tI (Z : Zt) (a : Nat) (f : Nat → Int32) : zN (tI Z a f) = zN Z := rfl
theorem zI_tI (Z : Zt) (a : Nat) (f : Nat → Int32) (b : Nat) : zI (tI Z a f) b = if b = a then f else zI Z b := rfl
theorem zK_tJ (Z : Zt) (a : Nat) (f : Nat → Int64) : zK (tJ Z a f) = zK Z := rfl
theorem zL_tJ (Z : Zt) (a : Nat) (f : Nat → Int64) : zL (tJ Z a f) = zL Z := rfl
theorem zF_tJ (Z : Zt) (a : Nat) (f : Nat → Int64) : zF (tJ Z a f) = zF Z := rfl
theorem zI_tJ (Z : Zt) (a : Nat) (f : Nat → Int64) : zI (tJ Z a f) = zI Z := rfl
theorem zR_tJ (Z : Zt) (a : Nat) (f : Nat → Int64) : zR (tJ Z a f) = zR Z := rfl
theorem zN_tJ (Z : Zt) (a : Nat) (f : Nat → Int64) : zN (tJ Z a f) = zN Z := rfl
theorem zJ_tJ (Z : Zt) (a : Nat) (f : Nat → Int64) (b : Nat) : zJ (tJ Z a f) b = if b = a then f else zJ Z b := rfl
theorem tJ_tJ (Z : Zt) (a : Nat) (f g : Nat → Int64) : tJ (tJ Z a f) a g = tJ Z a g := by
  have e : (fun a' => if a' = a then g else zJ (tJ Z a f) a') = (fun a' => if a' = a then g else zJ Z a') := by
    funext b
    by_cases h : b = a
    · simp [h]
    · simp [h, zJ_tJ]
  show (zK Z, zL Z, zF Z, zI Z, (fun a' => if a' = a then g else zJ (tJ Z a f) a'), zR Z, zN Z) = _
  rw [e]
  rfl
theorem tJ_id (Z : Zt) (a : Nat) : tJ Z a (zJ Z a) = Z := by
  unfold tJ
  have : (fun a' => if a' = a then zJ Z a else zJ Z a') = zJ Z := by
    funext b
    by_cases h : b = a
    · subst h; simp
    · simp [h]
  rw [this]
  rfl
theorem tI_tI (Z : Zt) (a : Nat) (f g : Nat → Int32) : tI (tI Z a f) a g = tI Z a g := by
  have e : (fun a' => if a' = a then g else zI (tI Z a f) a') = (fun a' => if a' = a then g else zI Z a') := by
    funext b
    by_cases h : b = a
    · simp [h]
    · simp [h, zI_tI]
  show (zK Z, zL Z, zF Z, (fun a' => if a' = a then g else zI (tI Z a f) a'), zJ Z, zR Z, zN Z) = _
  rw [e]
  rfl
theorem tI_id (Z : Zt) (a : Nat) : tI Z a (zI Z a) = Z := by
  unfold tI
  have : (fun a' => if a' = a then zI Z a else zI Z a') = zI Z := by
    funext b
    by_cases h : b = a
    · subst h; simp
    · simp [h]
  rw [this]
  rfl
end
section
theorem in12 {c : Int32} (h1 : ¬ c < 0) (h2 : c < 12) : vp_in c 12 := vp_in_iff.mpr ⟨by have := Int32.not_lt.mp h1; simpa using Int32.le_iff_toInt_le.mp this, by have := Int32.lt_iff_toInt_lt.mp h2; simpa using this⟩
section QMath
variable {l : Launch} {G : Gt} {Y : Yt} {B : Bt} {M : Mt} {Z : Zt} {cells slots : Nat} {Q : State → Prop} {pc : Nat} {ls : List (Option Value)} {st : List Value}
theorem q_mmax {i : Nat} {x y : Int32} (hd : decode Y.2.1 pc = .ok (.invokestatic i, 3)) (hw : sOK Y.1.cls i YJ9_max_7cf53) (hB : 1 ≤ B.1) (hW : (st.map fun v => v.category).sum ≤ 8) (hc : cells ≤ B.2.1) (hs : slots ≤ B.2.2) (kk : Jd l G Y B M Z cells slots Q (pc + 3) ls (.int (if x < y then y else x) :: st)) : Jd l G Y B M Z cells slots Q pc ls (.int y :: .int x :: st) := fun C H locs A hR hS hA => va_mmax C.1 C.2.1 (C.2.2.1.trans hA.1.symm) C.2.2.2.2.1 (C.2.2.2.2.2.1 _ hw.1.2.2.1) (C.2.2.2.2.2.1 _ hw.2) (C.2.2.2.2.2.1 _ hw.1.2.1) (C.2.2.2.2.2.1 _ hw.1.1) (by rw [C.2.2.2.2.2.2.2.2.2.1]; exact hB) (by rw [C.2.2.2.2.2.2.2.2.2.1]; show _ + 13 ≤ 64 * B.1; omega) (by rw [C.2.2.2.2.2.2.2.2.2.1]; exact hc) (by rw [C.2.2.2.2.2.2.2.2.2.1]; exact hs) hd (kk C H locs A hR hS hA)
theorem q_mmin {i : Nat} {x y : Int32} (hd : decode Y.2.1 pc = .ok (.invokestatic i, 3)) (hw : sOK Y.1.cls i YJ9_min_7cf53) (hB : 1 ≤ B.1) (hW : (st.map fun v => v.category).sum ≤ 8) (hc : cells ≤ B.2.1) (hs : slots ≤ B.2.2) (kk : Jd l G Y B M Z cells slots Q (pc + 3) ls (.int (if y < x then y else x) :: st)) : Jd l G Y B M Z cells slots Q pc ls (.int y :: .int x :: st) := fun C H locs A hR hS hA => va_mmin C.1 C.2.1 (C.2.2.1.trans hA.1.symm) C.2.2.2.2.1 (C.2.2.2.2.2.1 _ hw.1.2.2.1) (C.2.2.2.2.2.1 _ hw.2) (C.2.2.2.2.2.1 _ hw.1.2.1) (C.2.2.2.2.2.1 _ hw.1.1) (by rw [C.2.2.2.2.2.2.2.2.2.1]; exact hB) (by rw [C.2.2.2.2.2.2.2.2.2.1]; show _ + 13 ≤ 64 * B.1; omega) (by rw [C.2.2.2.2.2.2.2.2.2.1]; exact hc) (by rw [C.2.2.2.2.2.2.2.2.2.1]; exact hs) hd (kk C H locs A hR hS hA)
theorem q_mabs {i : Nat} {x : Int64} (hd : decode Y.2.1 pc = .ok (.invokestatic i, 3)) (hw : sOK Y.1.cls i YJ9_abs_067f4) (hB : 1 ≤ B.1) (hW : (st.map fun v => v.category).sum ≤ 8) (hc : cells ≤ B.2.1) (hs : slots ≤ B.2.2) (kk : Jd l G Y B M Z cells slots Q (pc + 3) ls (.long (if 0 < x then x else -x) :: st)) : Jd l G Y B M Z cells slots Q pc ls (.long x :: st) := fun C H locs A hR hS hA => va_mabs_long C.1 C.2.1 (C.2.2.1.trans hA.1.symm) C.2.2.2.2.1 (C.2.2.2.2.2.1 _ hw.1.2.2.1) (C.2.2.2.2.2.1 _ hw.2) (C.2.2.2.2.2.1 _ hw.1.2.1) (C.2.2.2.2.2.1 _ hw.1.1) (by rw [C.2.2.2.2.2.2.2.2.2.1]; exact hB) (by rw [C.2.2.2.2.2.2.2.2.2.1]; show _ + 13 ≤ 64 * B.1; omega) (by rw [C.2.2.2.2.2.2.2.2.2.1]; exact hc) (by rw [C.2.2.2.2.2.2.2.2.2.1]; exact hs) hd (kk C H locs A hR hS hA)
end QMath
set_option maxHeartbeats 4000000 in
set_option maxRecDepth 100000 in
theorem c_X0_takes (l : Launch) (G : Gt) (Z : Zt) (a : Nat) (nb th : Int32) (hK : zK Z a = 1) (hn : zF Z 1 a = .int nb) : Ct l G YX0_takes (0, 0, 0) Z [.ref a, .int th] (ΦI (fun r Z1 => Z1 = Z ∧ rb r (if nb = 0 then th = 1 ∨ th = 2 else if nb = 1 then th = 2 else True))) := by
  refine ct_of [some (.ref a), some (.int th)] (by decide +kernel) (Nat.le_of_ble_eq_true rfl) rfl (fun M => ?_)
  first | refine q_aload_n dX0_takes_0 rfl ?_ | refine q_aload_nN dX0_takes_0 rfl ?_
  refine q_getf dX0_takes_1 fk_X0_15_0 (by first | assumption | (simp only [zK_sF, zK_sI, zK_sJ, zK_sR]; assumption)) (by first | assumption | (simp only [zF_sF, zF_sI, zF_sJ, zF_sR, true_and, and_true, false_and, and_false, if_true, if_false, eq_self, reduceIte, Nat.reduceEqDiff, OfNat.ofNat_ne_zero, OfNat.zero_ne_ofNat, OfNat.ofNat_ne_one, OfNat.one_ne_ofNat, reduceCtorEq]; first | rfl | assumption)) ?_
  refine q_lsw [(0, 32), (1, 48)] 59 dX0_takes_4 (by decide) (by decide) (by decide) (fun q hq c4 => ?_) (fun c4 => ?_)
  · rcases List.mem_cons.mp hq with rfl | hq
    · dsimp only at c4 ⊢
      refine q_iload_n dX0_takes_32 rfl ?_
      refine q_iconst (v := 1) dX0_takes_33 (by decide) ?_
      refine q_icmp_eq 42 dX0_takes_34 (by decide) (fun c34 => ?_) (fun c34 => ?_)
      · refine q_iconst (v := 1) dX0_takes_42 (by decide) ?_
        refine q_goto 47 dX0_takes_43 (by decide) ?_
        exact q_zreturn dX0_takes_47 rfl rfl (by decide) (by decide) (by first | exact ⟨rfl, rb_1 (by simp_all)⟩ | exact ⟨rfl, rb_0 (by simp_all)⟩)
      · refine q_iload_n dX0_takes_37 rfl ?_
        refine q_iconst (v := 2) dX0_takes_38 (by decide) ?_
        refine q_icmp_ne 46 dX0_takes_39 (by decide) (fun c39 => ?_) (fun c39 => ?_)
        · refine q_iconst (v := 0) dX0_takes_46 (by decide) ?_
          exact q_zreturn dX0_takes_47 rfl rfl (by decide) (by decide) (by first | exact ⟨rfl, rb_1 (by simp_all)⟩ | exact ⟨rfl, rb_0 (by simp_all)⟩)
        · refine q_iconst (v := 1) dX0_takes_42 (by decide) ?_
          refine q_goto 47 dX0_takes_43 (by decide) ?_
          exact q_zreturn dX0_takes_47 rfl rfl (by decide) (by decide) (by first | exact ⟨rfl, rb_1 (by simp_all)⟩ | exact ⟨rfl, rb_0 (by simp_all)⟩)
    rcases List.mem_cons.mp hq with rfl | hq
    · dsimp only at c4 ⊢
      refine q_iload_n dX0_takes_48 rfl ?_
      refine q_iconst (v := 2) dX0_takes_49 (by decide) ?_
      refine q_icmp_ne 57 dX0_takes_50 (by decide) (fun c50 => ?_) (fun c50 => ?_)
      · refine q_iconst (v := 0) dX0_takes_57 (by decide) ?_
        exact q_zreturn dX0_takes_58 rfl rfl (by decide) (by decide) (by first | exact ⟨rfl, rb_1 (by simp_all)⟩ | exact ⟨rfl, rb_0 (by simp_all)⟩)
      · refine q_iconst (v := 1) dX0_takes_53 (by decide) ?_
        refine q_goto 58 dX0_takes_54 (by decide) ?_
        exact q_zreturn dX0_takes_58 rfl rfl (by decide) (by decide) (by first | exact ⟨rfl, rb_1 (by simp_all)⟩ | exact ⟨rfl, rb_0 (by simp_all)⟩)
    exact absurd hq List.not_mem_nil
  · refine q_iconst (v := 1) dX0_takes_59 (by decide) ?_
    exact q_zreturn dX0_takes_60 rfl rfl (by decide) (by decide) (by first | exact ⟨rfl, rb_1 (by simp_all)⟩ | exact ⟨rfl, rb_0 (by simp_all)⟩)
set_option maxHeartbeats 4000000 in
set_option maxRecDepth 100000 in
theorem c_X0_put (l : Launch) (G : Gt) (Z : Zt) (a tg : Nat) (nb it th : Int32) (hK : zK Z a = 1) (hn : zF Z 1 a = .int nb) (ht : zF Z 0 a = .ref tg) (hKt : zK Z tg = 20) (hLt : zL Z tg = 3) (hi : vp_in it 3) (hi0 : ¬ it < 0) (hi3 : ¬ 3 ≤ it) : Ct l G YX0_put (1, 0, 0) Z [.ref a, .int it, .int th] (ΦI (fun r Z1 => ((if nb = 0 then th = 1 ∨ th = 2 else if nb = 1 then th = 2 else True) → r = 1 ∧ Z1 = sI Z tg it.toNatClampNeg th) ∧ (¬ (if nb = 0 then th = 1 ∨ th = 2 else if nb = 1 then th = 2 else True) → r = 0 ∧ Z1 = Z))) := by
  refine ct_of [some (.ref a), some (.int it), some (.int th)] (by decide +kernel) (Nat.le_of_ble_eq_true rfl) rfl (fun M => ?_)
  refine q_iload_n dX0_put_0 rfl ?_
  refine q_if_lt 17 dX0_put_1 (by decide) (fun c1 => absurd c1 hi0) (fun c1 => ?_)
  refine q_iload_n dX0_put_4 rfl ?_
  refine q_iconst (v := 3) dX0_put_5 (by decide) ?_
  refine q_icmp_ge 17 dX0_put_6 (by decide) (fun c6 => absurd c6 hi3) (fun c6 => ?_)
  first | refine q_aload_n dX0_put_9 rfl ?_ | refine q_aload_nN dX0_put_9 rfl ?_
  refine q_iload_n dX0_put_10 rfl ?_
  refine q_callV 0 dX0_put_11 mk_X0_19 rfl (by first | assumption | (simp only [zK_sF, zK_sI, zK_sJ, zK_sR]; assumption)) (c_X0_takes l G _ a nb th hK hn) rfl np_X0_takes (by decide) (by decide) (by decide) (Nat.le_of_ble_eq_true rfl) (kI (fun r Z1 h => ?_))
  obtain ⟨rfl, h⟩ := h
  refine q_if_ne 19 dX0_put_14 (by decide) (fun c14 => ?_) (fun c14 => ?_)
  · have h := rb_t h c14
    first | refine q_aload_n dX0_put_19 rfl ?_ | refine q_aload_nN dX0_put_19 rfl ?_
    refine q_getf dX0_put_20 fk_X0_9_0 (by first | assumption | (simp only [zK_sF, zK_sI, zK_sJ, zK_sR]; assumption)) (by first | assumption | (simp only [zF_sF, zF_sI, zF_sJ, zF_sR, true_and, and_true, false_and, and_false, if_true, if_false, eq_self, reduceIte, Nat.reduceEqDiff, OfNat.ofNat_ne_zero, OfNat.zero_ne_ofNat, OfNat.ofNat_ne_one, OfNat.one_ne_ofNat, reduceCtorEq]; first | rfl | assumption)) ?_
    refine q_iload_n dX0_put_23 rfl ?_
    refine q_iload_n dX0_put_24 rfl ?_
    refine q_iast dX0_put_25 (by first | assumption | (simp only [zK_sF, zK_sI, zK_sJ, zK_sR]; assumption)) (by rw [hLt]; exact hi) ?_
    refine q_iconst (v := 1) dX0_put_26 (by decide) ?_
    exact q_zreturn dX0_put_27 rfl rfl (by decide) (by decide) ⟨fun _ => ⟨rfl, rfl⟩, fun z => absurd h z⟩
  · have h := rb_f h c14
    refine q_iconst (v := 0) dX0_put_17 (by decide) ?_
    exact q_zreturn dX0_put_18 rfl rfl (by decide) (by decide) ⟨fun z => absurd z h, fun _ => ⟨rfl, rfl⟩⟩
set_option maxHeartbeats 4000000 in
set_option maxRecDepth 100000 in
theorem c_X2_init_1 (l : Launch) (G : Gt) (Z : Zt) (a : Nat) (n d : Int32) (hK : zK Z a = 2) : Ct l G YX2_init (1, 0, 0) Z [.ref a, .int n, .int d] (ΦV (fun Z1 => Z1 = sF (sF Z 0 a (.int n)) 1 a (.int d))) := by
  refine ct_of [some (.ref a), some (.int n), some (.int d)] (by decide +kernel) (Nat.le_of_ble_eq_true rfl) rfl (fun M => ?_)
  first | refine q_aload_n dX2_init_0 rfl ?_ | refine q_aload_nN dX2_init_0 rfl ?_
  refine q_objInit dX2_init_1 ok_X2_1 oi_m oi_c (by decide) (Nat.le_of_ble_eq_true rfl) ?_
  first | refine q_aload_n dX2_init_4 rfl ?_ | refine q_aload_nN dX2_init_4 rfl ?_
  refine q_iload_n dX2_init_5 rfl ?_
  refine q_putF dX2_init_6 fk_X2_7_1 rfl rfl rfl (by first | assumption | (simp only [zK_sF, zK_sI, zK_sJ, zK_sR]; assumption)) rfl rfl ?_
  first | refine q_aload_n dX2_init_9 rfl ?_ | refine q_aload_nN dX2_init_9 rfl ?_
  refine q_iload_n dX2_init_10 rfl ?_
  refine q_putF dX2_init_11 fk_X2_13_1 rfl rfl rfl (by first | assumption | (simp only [zK_sF, zK_sI, zK_sJ, zK_sR]; assumption)) rfl rfl ?_
  exact q_return dX2_init_14 rfl (by decide) (by decide) rfl
set_option maxHeartbeats 4000000 in
set_option maxRecDepth 100000 in
theorem c_X2_init_2 (l : Launch) (G : Gt) (Z : Zt) (a : Nat) (n d : Int32) (hK : zK Z a = 3) : Ct l G YX2_init (1, 0, 0) Z [.ref a, .int n, .int d] (ΦV (fun Z1 => Z1 = sF (sF Z 0 a (.int n)) 1 a (.int d))) := by
  refine ct_of [some (.ref a), some (.int n), some (.int d)] (by decide +kernel) (Nat.le_of_ble_eq_true rfl) rfl (fun M => ?_)
  first | refine q_aload_n dX2_init_0 rfl ?_ | refine q_aload_nN dX2_init_0 rfl ?_
  refine q_objInit dX2_init_1 ok_X2_1 oi_m oi_c (by decide) (Nat.le_of_ble_eq_true rfl) ?_
  first | refine q_aload_n dX2_init_4 rfl ?_ | refine q_aload_nN dX2_init_4 rfl ?_
  refine q_iload_n dX2_init_5 rfl ?_
  refine q_putF dX2_init_6 fk_X2_7_2 rfl rfl rfl (by first | assumption | (simp only [zK_sF, zK_sI, zK_sJ, zK_sR]; assumption)) rfl rfl ?_
  first | refine q_aload_n dX2_init_9 rfl ?_ | refine q_aload_nN dX2_init_9 rfl ?_
  refine q_iload_n dX2_init_10 rfl ?_
  refine q_putF dX2_init_11 fk_X2_13_2 rfl rfl rfl (by first | assumption | (simp only [zK_sF, zK_sI, zK_sJ, zK_sR]; assumption)) rfl rfl ?_
  exact q_return dX2_init_14 rfl (by decide) (by decide) rfl
set_option maxHeartbeats 4000000 in
set_option maxRecDepth 100000 in
theorem c_X2_init_3 (l : Launch) (G : Gt) (Z : Zt) (a : Nat) (n d : Int32) (hK : zK Z a = 4) : Ct l G YX2_init (1, 0, 0) Z [.ref a, .int n, .int d] (ΦV (fun Z1 => Z1 = sF (sF Z 0 a (.int n)) 1 a (.int d))) := by
  refine ct_of [some (.ref a), some (.int n), some (.int d)] (by decide +kernel) (Nat.le_of_ble_eq_true rfl) rfl (fun M => ?_)
  first | refine q_aload_n dX2_init_0 rfl ?_ | refine q_aload_nN dX2_init_0 rfl ?_
  refine q_objInit dX2_init_1 ok_X2_1 oi_m oi_c (by decide) (Nat.le_of_ble_eq_true rfl) ?_
  first | refine q_aload_n dX2_init_4 rfl ?_ | refine q_aload_nN dX2_init_4 rfl ?_
  refine q_iload_n dX2_init_5 rfl ?_
  refine q_putF dX2_init_6 fk_X2_7_3 rfl rfl rfl (by first | assumption | (simp only [zK_sF, zK_sI, zK_sJ, zK_sR]; assumption)) rfl rfl ?_
  first | refine q_aload_n dX2_init_9 rfl ?_ | refine q_aload_nN dX2_init_9 rfl ?_
  refine q_iload_n dX2_init_10 rfl ?_
  refine q_putF dX2_init_11 fk_X2_13_3 rfl rfl rfl (by first | assumption | (simp only [zK_sF, zK_sI, zK_sJ, zK_sR]; assumption)) rfl rfl ?_
  exact q_return dX2_init_14 rfl (by decide) (by decide) rfl
set_option maxHeartbeats 4000000 in
set_option maxRecDepth 100000 in
theorem c_X2_init_6 (l : Launch) (G : Gt) (Z : Zt) (a : Nat) (n d : Int32) (hK : zK Z a = 7) : Ct l G YX2_init (1, 0, 0) Z [.ref a, .int n, .int d] (ΦV (fun Z1 => Z1 = sF (sF Z 0 a (.int n)) 1 a (.int d))) := by
  refine ct_of [some (.ref a), some (.int n), some (.int d)] (by decide +kernel) (Nat.le_of_ble_eq_true rfl) rfl (fun M => ?_)
  first | refine q_aload_n dX2_init_0 rfl ?_ | refine q_aload_nN dX2_init_0 rfl ?_
  refine q_objInit dX2_init_1 ok_X2_1 oi_m oi_c (by decide) (Nat.le_of_ble_eq_true rfl) ?_
  first | refine q_aload_n dX2_init_4 rfl ?_ | refine q_aload_nN dX2_init_4 rfl ?_
  refine q_iload_n dX2_init_5 rfl ?_
  refine q_putF dX2_init_6 fk_X2_7_6 rfl rfl rfl (by first | assumption | (simp only [zK_sF, zK_sI, zK_sJ, zK_sR]; assumption)) rfl rfl ?_
  first | refine q_aload_n dX2_init_9 rfl ?_ | refine q_aload_nN dX2_init_9 rfl ?_
  refine q_iload_n dX2_init_10 rfl ?_
  refine q_putF dX2_init_11 fk_X2_13_6 rfl rfl rfl (by first | assumption | (simp only [zK_sF, zK_sI, zK_sJ, zK_sR]; assumption)) rfl rfl ?_
  exact q_return dX2_init_14 rfl (by decide) (by decide) rfl
set_option maxHeartbeats 4000000 in
set_option maxRecDepth 100000 in
theorem c_X2_verdict (l : Launch) (G : Gt) (Z : Zt) (b : Int32) : Ct l G YX2_verdict (0, 0, 0) Z [.int b] (ΦI (fun r Z1 => Z1 = Z ∧ r = if b = 0 then 0 else 1)) := by
  refine ct_of [some (.int b)] (by decide +kernel) (Nat.le_of_ble_eq_true rfl) rfl (fun M => ?_)
  refine q_iload_n dX2_verdict_0 rfl ?_
  refine q_if_eq 8 dX2_verdict_1 (by decide) (fun c1 => ?_) (fun c1 => ?_)
  · refine q_iconst (v := 0) dX2_verdict_8 (by decide) ?_
    exact q_ireturn dX2_verdict_9 rfl (by decide) (by decide) (by simp_all)
  · refine q_iconst (v := 1) dX2_verdict_4 (by decide) ?_
    refine q_goto 9 dX2_verdict_5 (by decide) ?_
    exact q_ireturn dX2_verdict_9 rfl (by decide) (by decide) (by simp_all)
set_option maxHeartbeats 4000000 in
set_option maxRecDepth 100000 in
theorem c_X2_timesAsked (l : Launch) (G : Gt) (Z : Zt) (a : Nat) : Ct l G YX2_timesAsked (0, 0, 0) Z [.ref a] (ΦI (fun r Z1 => Z1 = Z ∧ r = 0)) := by
  refine ct_of [some (.ref a)] (by decide +kernel) (Nat.le_of_ble_eq_true rfl) rfl (fun M => ?_)
  refine q_iconst (v := 0) dX2_timesAsked_0 (by decide) ?_
  exact q_ireturn dX2_timesAsked_1 rfl (by decide) (by decide) ⟨rfl, rfl⟩
set_option maxHeartbeats 4000000 in
set_option maxRecDepth 100000 in
theorem c_X6_rowFailure (l : Launch) (G : Gt) (Z : Zt) (a : Nat) (kd : Int32) (hK : zK Z a = 6) (hk : zF Z 1 a = .int kd) : Ct l G YX6_rowFailure (0, 0, 0) Z [.ref a] (ΦI (fun r Z1 => Z1 = Z ∧ r = if kd = 0 then 1 else if kd = 3 then 5 else 0)) := by
  refine ct_of [some (.ref a)] (by decide +kernel) (Nat.le_of_ble_eq_true rfl) rfl (fun M => ?_)
  first | refine q_aload_n dX6_rowFailure_0 rfl ?_ | refine q_aload_nN dX6_rowFailure_0 rfl ?_
  refine q_getf dX6_rowFailure_1 fk_X6_15_5 (by first | assumption | (simp only [zK_sF, zK_sI, zK_sJ, zK_sR]; assumption)) (by first | assumption | (simp only [zF_sF, zF_sI, zF_sJ, zF_sR, true_and, and_true, false_and, and_false, if_true, if_false, eq_self, reduceIte, Nat.reduceEqDiff, OfNat.ofNat_ne_zero, OfNat.zero_ne_ofNat, OfNat.ofNat_ne_one, OfNat.one_ne_ofNat, reduceCtorEq]; first | rfl | assumption)) ?_
  refine q_if_ne 9 dX6_rowFailure_4 (by decide) (fun c4 => ?_) (fun c4 => ?_)
  · first | refine q_aload_n dX6_rowFailure_9 rfl ?_ | refine q_aload_nN dX6_rowFailure_9 rfl ?_
    refine q_getf dX6_rowFailure_10 fk_X6_15_5 (by first | assumption | (simp only [zK_sF, zK_sI, zK_sJ, zK_sR]; assumption)) (by first | assumption | (simp only [zF_sF, zF_sI, zF_sJ, zF_sR, true_and, and_true, false_and, and_false, if_true, if_false, eq_self, reduceIte, Nat.reduceEqDiff, OfNat.ofNat_ne_zero, OfNat.zero_ne_ofNat, OfNat.ofNat_ne_one, OfNat.one_ne_ofNat, reduceCtorEq]; first | rfl | assumption)) ?_
    refine q_iconst (v := 3) dX6_rowFailure_13 (by decide) ?_
    refine q_icmp_ne 21 dX6_rowFailure_14 (by decide) (fun c14 => ?_) (fun c14 => ?_)
    · refine q_iconst (v := 0) dX6_rowFailure_21 (by decide) ?_
      exact q_ireturn dX6_rowFailure_22 rfl (by decide) (by decide) (by simp_all)
    · refine q_iconst (v := 5) dX6_rowFailure_17 (by decide) ?_
      refine q_goto 22 dX6_rowFailure_18 (by decide) ?_
      exact q_ireturn dX6_rowFailure_22 rfl (by decide) (by decide) (by simp_all)
  · refine q_iconst (v := 1) dX6_rowFailure_7 (by decide) ?_
    exact q_ireturn dX6_rowFailure_8 rfl (by decide) (by decide) (by simp_all)
set_option maxHeartbeats 4000000 in
set_option maxRecDepth 100000 in
theorem c_X6_hasItem (l : Launch) (G : Gt) (Z : Zt) (a : Nat) (cn : Int32) (i : Int64) (hK : zK Z a = 6) (hc : zF Z 2 a = .int cn) : Ct l G YX6_hasItem (0, 0, 0) Z [.ref a, .long i] (ΦI (fun r Z1 => Z1 = Z ∧ rb r (¬ i < 0 ∧ ¬ cn.toInt64 ≤ i ∧ ¬ 12 ≤ i))) := by
  refine ct_of [some (.ref a), some (.long i), none] (by decide +kernel) (Nat.le_of_ble_eq_true rfl) rfl (fun M => ?_)
  refine q_lload_n dX6_hasItem_0 rfl ?_
  refine q_lconst (v := 0) dX6_hasItem_1 (by decide) ?_
  refine q_lcmp_lt 28 dX6_hasItem_2 dX6_hasItem_3 (by decide) (fun c2 => ?_) (fun c2 => ?_)
  · refine q_iconst (v := 0) dX6_hasItem_28 (by decide) ?_
    exact q_zreturn dX6_hasItem_29 rfl rfl (by decide) (by decide) (by first | exact ⟨rfl, rb_1 (by simp_all)⟩ | exact ⟨rfl, rb_0 (by simp_all)⟩)
  · refine q_lload_n dX6_hasItem_6 rfl ?_
    first | refine q_aload_n dX6_hasItem_7 rfl ?_ | refine q_aload_nN dX6_hasItem_7 rfl ?_
    refine q_getf dX6_hasItem_8 fk_X6_19_5 (by first | assumption | (simp only [zK_sF, zK_sI, zK_sJ, zK_sR]; assumption)) (by first | assumption | (simp only [zF_sF, zF_sI, zF_sJ, zF_sR, true_and, and_true, false_and, and_false, if_true, if_false, eq_self, reduceIte, Nat.reduceEqDiff, OfNat.ofNat_ne_zero, OfNat.zero_ne_ofNat, OfNat.ofNat_ne_one, OfNat.one_ne_ofNat, reduceCtorEq]; first | rfl | assumption)) ?_
    refine q_i2l dX6_hasItem_11 ?_
    refine q_lcmp_ge 28 dX6_hasItem_12 dX6_hasItem_13 (by decide) (fun c12 => ?_) (fun c12 => ?_)
    · refine q_iconst (v := 0) dX6_hasItem_28 (by decide) ?_
      exact q_zreturn dX6_hasItem_29 rfl rfl (by decide) (by decide) (by first | exact ⟨rfl, rb_1 (by simp_all)⟩ | exact ⟨rfl, rb_0 (by simp_all)⟩)
    · refine q_lload_n dX6_hasItem_16 rfl ?_
      refine q_ldc2 dX6_hasItem_17 kl_X6_31 ?_
      refine q_lcmp_ge 28 dX6_hasItem_20 dX6_hasItem_21 (by decide) (fun c20 => ?_) (fun c20 => ?_)
      · refine q_iconst (v := 0) dX6_hasItem_28 (by decide) ?_
        exact q_zreturn dX6_hasItem_29 rfl rfl (by decide) (by decide) (by first | exact ⟨rfl, rb_1 (by simp_all)⟩ | exact ⟨rfl, rb_0 (by simp_all)⟩)
      · refine q_iconst (v := 1) dX6_hasItem_24 (by decide) ?_
        refine q_goto 29 dX6_hasItem_25 (by decide) ?_
        exact q_zreturn dX6_hasItem_29 rfl rfl (by decide) (by decide) (by first | exact ⟨rfl, rb_1 (by simp_all)⟩ | exact ⟨rfl, rb_0 (by simp_all)⟩)
set_option maxHeartbeats 4000000 in
set_option maxRecDepth 100000 in
theorem c_X6_setItem (l : Launch) (G : Gt) (Z : Zt) (a it : Nat) (kd cn i : Int32) (v : Int64) (hK : zK Z a = 6) (hit : zF Z 0 a = .ref it) (hk : zF Z 1 a = .int kd) (hc : zF Z 2 a = .int cn) (hKi : zK Z it = 21) (hLi : zL Z it = 12) (hin : vp_in i 12) (hP : ¬ i.toInt64 < 0 ∧ ¬ cn.toInt64 ≤ i.toInt64 ∧ ¬ 12 ≤ i.toInt64) : Ct l G YX6_setItem (1, 0, 0) Z [.ref a, .int i, .long v] (ΦV (fun Z1 => Z1 = sJ Z it i.toNatClampNeg (if kd = 2 then v.toInt32.toInt64 else v))) := by
  refine ct_of [some (.ref a), some (.int i), some (.long v), none] (by decide +kernel) (Nat.le_of_ble_eq_true rfl) rfl (fun M => ?_)
  first | refine q_aload_n dX6_setItem_0 rfl ?_ | refine q_aload_nN dX6_setItem_0 rfl ?_
  refine q_iload_n dX6_setItem_1 rfl ?_
  refine q_i2l dX6_setItem_2 ?_
  refine q_callV 5 dX6_setItem_3 mk_X6_33 rfl (by first | assumption | (simp only [zK_sF, zK_sI, zK_sJ, zK_sR]; assumption)) (c_X6_hasItem l G _ a cn i.toInt64 hK hc) rfl np_X6_hasItem (by decide) (by decide) (by decide) (Nat.le_of_ble_eq_true rfl) (kI (fun r Z1 h => ?_))
  obtain ⟨rfl, h⟩ := h
  refine q_if_eq 30 dX6_setItem_6 (by decide) (fun c6 => ?_) (fun c6 => ?_)
  · exact absurd hP (rb_f h c6)
    skip
  · first | refine q_aload_n dX6_setItem_9 rfl ?_ | refine q_aload_nN dX6_setItem_9 rfl ?_
    refine q_getf dX6_setItem_10 fk_X6_9_5 (by first | assumption | (simp only [zK_sF, zK_sI, zK_sJ, zK_sR]; assumption)) (by first | assumption | (simp only [zF_sF, zF_sI, zF_sJ, zF_sR, true_and, and_true, false_and, and_false, if_true, if_false, eq_self, reduceIte, Nat.reduceEqDiff, OfNat.ofNat_ne_zero, OfNat.zero_ne_ofNat, OfNat.ofNat_ne_one, OfNat.one_ne_ofNat, reduceCtorEq]; first | rfl | assumption)) ?_
    refine q_iload_n dX6_setItem_13 rfl ?_
    first | refine q_aload_n dX6_setItem_14 rfl ?_ | refine q_aload_nN dX6_setItem_14 rfl ?_
    refine q_getf dX6_setItem_15 fk_X6_15_5 (by first | assumption | (simp only [zK_sF, zK_sI, zK_sJ, zK_sR]; assumption)) (by first | assumption | (simp only [zF_sF, zF_sI, zF_sJ, zF_sR, true_and, and_true, false_and, and_false, if_true, if_false, eq_self, reduceIte, Nat.reduceEqDiff, OfNat.ofNat_ne_zero, OfNat.zero_ne_ofNat, OfNat.ofNat_ne_one, OfNat.one_ne_ofNat, reduceCtorEq]; first | rfl | assumption)) ?_
    refine q_iconst (v := 2) dX6_setItem_18 (by decide) ?_
    refine q_icmp_ne 28 dX6_setItem_19 (by decide) (fun c19 => ?_) (fun c19 => ?_)
    · refine q_lload_n dX6_setItem_28 rfl ?_
      refine q_last dX6_setItem_29 (by first | assumption | (simp only [zK_sF, zK_sI, zK_sJ, zK_sR]; assumption)) (by rw [hLi]; exact hin) ?_
      exact q_return dX6_setItem_30 rfl (by decide) (by decide) (by simp_all)
    · refine q_lload_n dX6_setItem_22 rfl ?_
      refine q_l2i dX6_setItem_23 ?_
      refine q_i2l dX6_setItem_24 ?_
      refine q_goto 29 dX6_setItem_25 (by decide) ?_
      refine q_last dX6_setItem_29 (by first | assumption | (simp only [zK_sF, zK_sI, zK_sJ, zK_sR]; assumption)) (by rw [hLi]; exact hin) ?_
      exact q_return dX6_setItem_30 rfl (by decide) (by decide) (by simp_all)
set_option maxHeartbeats 4000000 in
set_option maxRecDepth 100000 in
theorem c_X6_append (l : Launch) (G : Gt) (Z : Zt) (a it : Nat) (cn : Int32) (v : Int64) (hK : zK Z a = 6) (hit : zF Z 0 a = .ref it) (hc : zF Z 2 a = .int cn) (hKi : zK Z it = 21) (hLi : zL Z it = 12) : Ct l G YX6_append (0, 0, 0) Z [.ref a, .long v] (ΦI (fun r Z1 => ((cn < 0 ∨ ¬ cn < 12) → r = 0 ∧ Z1 = Z) ∧ (¬ (cn < 0 ∨ ¬ cn < 12) → r = 1 ∧ Z1 = sJ (sF Z 2 a (.int (cn + 1))) it cn.toNatClampNeg v))) := by
  refine ct_of [some (.ref a), some (.long v), none] (by decide +kernel) (Nat.le_of_ble_eq_true rfl) rfl (fun M => ?_)
  first | refine q_aload_n dX6_append_0 rfl ?_ | refine q_aload_nN dX6_append_0 rfl ?_
  refine q_getf dX6_append_1 fk_X6_19_5 (by first | assumption | (simp only [zK_sF, zK_sI, zK_sJ, zK_sR]; assumption)) (by first | assumption | (simp only [zF_sF, zF_sI, zF_sJ, zF_sR, true_and, and_true, false_and, and_false, if_true, if_false, eq_self, reduceIte, Nat.reduceEqDiff, OfNat.ofNat_ne_zero, OfNat.zero_ne_ofNat, OfNat.ofNat_ne_one, OfNat.one_ne_ofNat, reduceCtorEq]; first | rfl | assumption)) ?_
  refine q_if_lt 16 dX6_append_4 (by decide) (fun c4 => ?_) (fun c4 => ?_)
  · refine q_iconst (v := 0) dX6_append_16 (by decide) ?_
    exact q_zreturn dX6_append_17 rfl rfl (by decide) (by decide) (by first | exact ⟨fun _ => ⟨rfl, rfl⟩, fun z => absurd (by first | exact Or.inl (by assumption) | exact Or.inr (by assumption)) z⟩ | exact ⟨fun z => absurd z (fun z => z.elim (by assumption) (fun z => z (by assumption))), fun _ => ⟨rfl, rfl⟩⟩)
  · first | refine q_aload_n dX6_append_7 rfl ?_ | refine q_aload_nN dX6_append_7 rfl ?_
    refine q_getf dX6_append_8 fk_X6_19_5 (by first | assumption | (simp only [zK_sF, zK_sI, zK_sJ, zK_sR]; assumption)) (by first | assumption | (simp only [zF_sF, zF_sI, zF_sJ, zF_sR, true_and, and_true, false_and, and_false, if_true, if_false, eq_self, reduceIte, Nat.reduceEqDiff, OfNat.ofNat_ne_zero, OfNat.zero_ne_ofNat, OfNat.ofNat_ne_one, OfNat.one_ne_ofNat, reduceCtorEq]; first | rfl | assumption)) ?_
    refine q_bipush (v := 12) dX6_append_11 (by decide) ?_
    refine q_icmp_lt 18 dX6_append_13 (by decide) (fun c13 => ?_) (fun c13 => ?_)
    · first | refine q_aload_n dX6_append_18 rfl ?_ | refine q_aload_nN dX6_append_18 rfl ?_
      refine q_getf dX6_append_19 fk_X6_9_5 (by first | assumption | (simp only [zK_sF, zK_sI, zK_sJ, zK_sR]; assumption)) (by first | assumption | (simp only [zF_sF, zF_sI, zF_sJ, zF_sR, true_and, and_true, false_and, and_false, if_true, if_false, eq_self, reduceIte, Nat.reduceEqDiff, OfNat.ofNat_ne_zero, OfNat.zero_ne_ofNat, OfNat.ofNat_ne_one, OfNat.one_ne_ofNat, reduceCtorEq]; first | rfl | assumption)) ?_
      first | refine q_aload_n dX6_append_22 rfl ?_ | refine q_aload_nN dX6_append_22 rfl ?_
      refine q_dup dX6_append_23 rfl ?_
      refine q_getf dX6_append_24 fk_X6_19_5 (by first | assumption | (simp only [zK_sF, zK_sI, zK_sJ, zK_sR]; assumption)) (by first | assumption | (simp only [zF_sF, zF_sI, zF_sJ, zF_sR, true_and, and_true, false_and, and_false, if_true, if_false, eq_self, reduceIte, Nat.reduceEqDiff, OfNat.ofNat_ne_zero, OfNat.zero_ne_ofNat, OfNat.ofNat_ne_one, OfNat.one_ne_ofNat, reduceCtorEq]; first | rfl | assumption)) ?_
      refine q_dup_x1 dX6_append_27 rfl rfl ?_
      refine q_iconst (v := 1) dX6_append_28 (by decide) ?_
      refine q_iadd dX6_append_29 ?_
      refine q_putf dX6_append_30 fk_X6_19_5 rfl (by first | assumption | (simp only [zK_sF, zK_sI, zK_sJ, zK_sR]; assumption)) rfl rfl ?_
      refine q_lload_n dX6_append_33 rfl ?_
      refine q_last dX6_append_34 (by first | assumption | (simp only [zK_sF, zK_sI, zK_sJ, zK_sR]; assumption)) (by simp only [zL_sF]; rw [hLi]; exact in12 c4 c13) ?_
      refine q_iconst (v := 1) dX6_append_35 (by decide) ?_
      exact q_zreturn dX6_append_36 rfl rfl (by decide) (by decide) (by first | exact ⟨fun _ => ⟨rfl, rfl⟩, fun z => absurd (by first | exact Or.inl (by assumption) | exact Or.inr (by assumption)) z⟩ | exact ⟨fun z => absurd z (fun z => z.elim (by assumption) (fun z => z (by assumption))), fun _ => ⟨rfl, rfl⟩⟩)
    · refine q_iconst (v := 0) dX6_append_16 (by decide) ?_
      exact q_zreturn dX6_append_17 rfl rfl (by decide) (by decide) (by first | exact ⟨fun _ => ⟨rfl, rfl⟩, fun z => absurd (by first | exact Or.inl (by assumption) | exact Or.inr (by assumption)) z⟩ | exact ⟨fun z => absurd z (fun z => z.elim (by assumption) (fun z => z (by assumption))), fun _ => ⟨rfl, rfl⟩⟩)
set_option maxHeartbeats 4000000 in
set_option maxRecDepth 100000 in
theorem c_X10_beginAsk (l : Launch) (G : Gt) (Z : Zt) (a : Nat) (hK : zK Z a = 10) : Ct l G YX10_beginAsk (0, 0, 0) Z [.ref a] (ΦV (fun Z1 => Z1 = sF Z 4 a (.int 0))) := by
  refine ct_of [some (.ref a)] (by decide +kernel) (Nat.le_of_ble_eq_true rfl) rfl (fun M => ?_)
  first | refine q_aload_n dX10_beginAsk_0 rfl ?_ | refine q_aload_nN dX10_beginAsk_0 rfl ?_
  refine q_iconst (v := 0) dX10_beginAsk_1 (by decide) ?_
  refine q_putf dX10_beginAsk_2 fk_X10_26_9 rfl (by first | assumption | (simp only [zK_sF, zK_sI, zK_sJ, zK_sR]; assumption)) rfl rfl ?_
  exact q_return dX10_beginAsk_5 rfl (by decide) (by decide) rfl
set_option maxHeartbeats 4000000 in
set_option maxRecDepth 100000 in
theorem c_X10_beginRange (l : Launch) (G : Gt) (Z : Zt) (a : Nat) (hK : zK Z a = 10) : Ct l G YX10_beginRange (0, 0, 0) Z [.ref a] (ΦV (fun Z1 => Z1 = sF (sF Z 4 a (.int 0)) 3 a (.int 0))) := by
  refine ct_of [some (.ref a)] (by decide +kernel) (Nat.le_of_ble_eq_true rfl) rfl (fun M => ?_)
  first | refine q_aload_n dX10_beginRange_0 rfl ?_ | refine q_aload_nN dX10_beginRange_0 rfl ?_
  refine q_iconst (v := 0) dX10_beginRange_1 (by decide) ?_
  refine q_putf dX10_beginRange_2 fk_X10_26_9 rfl (by first | assumption | (simp only [zK_sF, zK_sI, zK_sJ, zK_sR]; assumption)) rfl rfl ?_
  first | refine q_aload_n dX10_beginRange_5 rfl ?_ | refine q_aload_nN dX10_beginRange_5 rfl ?_
  refine q_iconst (v := 0) dX10_beginRange_6 (by decide) ?_
  refine q_putf dX10_beginRange_7 fk_X10_29_9 rfl (by first | assumption | (simp only [zK_sF, zK_sI, zK_sJ, zK_sR]; assumption)) rfl rfl ?_
  exact q_return dX10_beginRange_10 rfl (by decide) (by decide) rfl
set_option maxHeartbeats 4000000 in
set_option maxRecDepth 100000 in
theorem c_X10_fail (l : Launch) (G : Gt) (Z : Zt) (a : Nat) (fl fi fn : Int32) (hK : zK Z a = 10) (hf : zF Z 4 a = .int fl) : Ct l G YX10_fail (0, 0, 0) Z [.ref a, .int fi, .int fn] (ΦI (fun r Z1 => (20 ≤ fl → r = -18 ∧ Z1 = Z) ∧ (¬ 20 ≤ fl → r = -10 - fi ∧ Z1 = sF (sF Z 4 a (.int (fl + 1))) 5 a (.int fn)))) := by
  refine ct_of [some (.ref a), some (.int fi), some (.int fn)] (by decide +kernel) (Nat.le_of_ble_eq_true rfl) rfl (fun M => ?_)
  first | refine q_aload_n dX10_fail_0 rfl ?_ | refine q_aload_nN dX10_fail_0 rfl ?_
  refine q_getf dX10_fail_1 fk_X10_26_9 (by first | assumption | (simp only [zK_sF, zK_sI, zK_sJ, zK_sR]; assumption)) (by first | assumption | (simp only [zF_sF, zF_sI, zF_sJ, zF_sR, true_and, and_true, false_and, and_false, if_true, if_false, eq_self, reduceIte, Nat.reduceEqDiff, OfNat.ofNat_ne_zero, OfNat.zero_ne_ofNat, OfNat.ofNat_ne_one, OfNat.one_ne_ofNat, reduceCtorEq]; first | rfl | assumption)) ?_
  refine q_bipush (v := 20) dX10_fail_4 (by decide) ?_
  refine q_icmp_lt 12 dX10_fail_6 (by decide) (fun c6 => ?_) (fun c6 => ?_)
  · have c6 := Int32.not_le.mpr c6
    first | refine q_aload_n dX10_fail_12 rfl ?_ | refine q_aload_nN dX10_fail_12 rfl ?_
    refine q_dup dX10_fail_13 rfl ?_
    refine q_getf dX10_fail_14 fk_X10_26_9 (by first | assumption | (simp only [zK_sF, zK_sI, zK_sJ, zK_sR]; assumption)) (by first | assumption | (simp only [zF_sF, zF_sI, zF_sJ, zF_sR, true_and, and_true, false_and, and_false, if_true, if_false, eq_self, reduceIte, Nat.reduceEqDiff, OfNat.ofNat_ne_zero, OfNat.zero_ne_ofNat, OfNat.ofNat_ne_one, OfNat.one_ne_ofNat, reduceCtorEq]; first | rfl | assumption)) ?_
    refine q_iconst (v := 1) dX10_fail_17 (by decide) ?_
    refine q_iadd dX10_fail_18 ?_
    refine q_putf dX10_fail_19 fk_X10_26_9 rfl (by first | assumption | (simp only [zK_sF, zK_sI, zK_sJ, zK_sR]; assumption)) rfl rfl ?_
    first | refine q_aload_n dX10_fail_22 rfl ?_ | refine q_aload_nN dX10_fail_22 rfl ?_
    refine q_iload_n dX10_fail_23 rfl ?_
    refine q_putf dX10_fail_24 fk_X10_22_9 rfl (by first | assumption | (simp only [zK_sF, zK_sI, zK_sJ, zK_sR]; assumption)) rfl rfl ?_
    refine q_bipush (v := (-10)) dX10_fail_27 (by decide) ?_
    refine q_iload_n dX10_fail_29 rfl ?_
    refine q_isub dX10_fail_30 ?_
    exact q_ireturn dX10_fail_31 rfl (by decide) (by decide) ⟨fun z => absurd z c6, fun _ => ⟨rfl, rfl⟩⟩
  · have c6 := Int32.not_lt.mp c6
    refine q_bipush (v := (-18)) dX10_fail_9 (by decide) ?_
    exact q_ireturn dX10_fail_11 rfl (by decide) (by decide) ⟨fun _ => ⟨rfl, rfl⟩, fun z => absurd c6 z⟩
set_option maxHeartbeats 4000000 in
set_option maxRecDepth 100000 in
theorem c_X10_barByLatest (l : Launch) (G : Gt) (Z : Zt) (a t0 t1 t2 : Nat) (bd ar vd : Int32) (n : Int64) (hK : zK Z a = 10) (h0 : zF Z 0 a = .ref t0) (h1 : zF Z 1 a = .ref t1) (h2 : zF Z 2 a = .ref t2) (hb : zF Z 3 a = .int bd) (ha : zF Z 5 a = .int ar) (k0 : zK Z t0 = 21) (k1 : zK Z t1 = 20) (k2 : zK Z t2 = 20) (l0 : zL Z t0 = 20) (l1 : zL Z t1 = 20) (l2 : zL Z t2 = 20) (hi : vp_in bd 20) (hlt : ¬ 20 ≤ bd) : Ct l G YX10_barByLatest (0, 0, 0) Z [.ref a, .long n, .int vd] (ΦV (fun Z1 => Z1 = sF (sI (sI (sJ Z t0 bd.toNatClampNeg n) t1 bd.toNatClampNeg (-10 - vd)) t2 bd.toNatClampNeg ar) 3 a (.int (bd + 1)))) := by
  refine ct_of [some (.ref a), some (.long n), none, some (.int vd)] (by decide +kernel) (Nat.le_of_ble_eq_true rfl) rfl (fun M => ?_)
  first | refine q_aload_n dX10_barByLatest_0 rfl ?_ | refine q_aload_nN dX10_barByLatest_0 rfl ?_
  refine q_getf dX10_barByLatest_1 fk_X10_29_9 (by first | assumption | (simp only [zK_sF, zK_sI, zK_sJ, zK_sR]; assumption)) (by first | assumption | (simp only [zF_sF, zF_sI, zF_sJ, zF_sR, true_and, and_true, false_and, and_false, if_true, if_false, eq_self, reduceIte, Nat.reduceEqDiff, OfNat.ofNat_ne_zero, OfNat.zero_ne_ofNat, OfNat.ofNat_ne_one, OfNat.one_ne_ofNat, reduceCtorEq]; first | rfl | assumption)) ?_
  refine q_bipush (v := 20) dX10_barByLatest_4 (by decide) ?_
  refine q_icmp_ge 55 dX10_barByLatest_6 (by decide) (fun c6 => absurd c6 hlt) (fun c6 => ?_)
  first | refine q_aload_n dX10_barByLatest_9 rfl ?_ | refine q_aload_nN dX10_barByLatest_9 rfl ?_
  refine q_getf dX10_barByLatest_10 fk_X10_9_9 (by first | assumption | (simp only [zK_sF, zK_sI, zK_sJ, zK_sR]; assumption)) (by first | assumption | (simp only [zF_sF, zF_sI, zF_sJ, zF_sR, true_and, and_true, false_and, and_false, if_true, if_false, eq_self, reduceIte, Nat.reduceEqDiff, OfNat.ofNat_ne_zero, OfNat.zero_ne_ofNat, OfNat.ofNat_ne_one, OfNat.one_ne_ofNat, reduceCtorEq]; first | rfl | assumption)) ?_
  first | refine q_aload_n dX10_barByLatest_13 rfl ?_ | refine q_aload_nN dX10_barByLatest_13 rfl ?_
  refine q_getf dX10_barByLatest_14 fk_X10_29_9 (by first | assumption | (simp only [zK_sF, zK_sI, zK_sJ, zK_sR]; assumption)) (by first | assumption | (simp only [zF_sF, zF_sI, zF_sJ, zF_sR, true_and, and_true, false_and, and_false, if_true, if_false, eq_self, reduceIte, Nat.reduceEqDiff, OfNat.ofNat_ne_zero, OfNat.zero_ne_ofNat, OfNat.ofNat_ne_one, OfNat.one_ne_ofNat, reduceCtorEq]; first | rfl | assumption)) ?_
  refine q_lload_n dX10_barByLatest_17 rfl ?_
  refine q_last dX10_barByLatest_18 (by first | assumption | (simp only [zK_sF, zK_sI, zK_sJ, zK_sR]; assumption)) (by rw [l0]; exact hi) ?_
  first | refine q_aload_n dX10_barByLatest_19 rfl ?_ | refine q_aload_nN dX10_barByLatest_19 rfl ?_
  refine q_getf dX10_barByLatest_20 fk_X10_15_9 (by first | assumption | (simp only [zK_sF, zK_sI, zK_sJ, zK_sR]; assumption)) (by first | assumption | (simp only [zF_sF, zF_sI, zF_sJ, zF_sR, true_and, and_true, false_and, and_false, if_true, if_false, eq_self, reduceIte, Nat.reduceEqDiff, OfNat.ofNat_ne_zero, OfNat.zero_ne_ofNat, OfNat.ofNat_ne_one, OfNat.one_ne_ofNat, reduceCtorEq]; first | rfl | assumption)) ?_
  first | refine q_aload_n dX10_barByLatest_23 rfl ?_ | refine q_aload_nN dX10_barByLatest_23 rfl ?_
  refine q_getf dX10_barByLatest_24 fk_X10_29_9 (by first | assumption | (simp only [zK_sF, zK_sI, zK_sJ, zK_sR]; assumption)) (by first | assumption | (simp only [zF_sF, zF_sI, zF_sJ, zF_sR, true_and, and_true, false_and, and_false, if_true, if_false, eq_self, reduceIte, Nat.reduceEqDiff, OfNat.ofNat_ne_zero, OfNat.zero_ne_ofNat, OfNat.ofNat_ne_one, OfNat.one_ne_ofNat, reduceCtorEq]; first | rfl | assumption)) ?_
  refine q_bipush (v := (-10)) dX10_barByLatest_27 (by decide) ?_
  refine q_iload_n dX10_barByLatest_29 rfl ?_
  refine q_isub dX10_barByLatest_30 ?_
  refine q_iast dX10_barByLatest_31 (by first | assumption | (simp only [zK_sF, zK_sI, zK_sJ, zK_sR]; assumption)) (by simp only [zL_sJ]; rw [l1]; exact hi) ?_
  first | refine q_aload_n dX10_barByLatest_32 rfl ?_ | refine q_aload_nN dX10_barByLatest_32 rfl ?_
  refine q_getf dX10_barByLatest_33 fk_X10_19_9 (by first | assumption | (simp only [zK_sF, zK_sI, zK_sJ, zK_sR]; assumption)) (by first | assumption | (simp only [zF_sF, zF_sI, zF_sJ, zF_sR, true_and, and_true, false_and, and_false, if_true, if_false, eq_self, reduceIte, Nat.reduceEqDiff, OfNat.ofNat_ne_zero, OfNat.zero_ne_ofNat, OfNat.ofNat_ne_one, OfNat.one_ne_ofNat, reduceCtorEq]; first | rfl | assumption)) ?_
  first | refine q_aload_n dX10_barByLatest_36 rfl ?_ | refine q_aload_nN dX10_barByLatest_36 rfl ?_
  refine q_getf dX10_barByLatest_37 fk_X10_29_9 (by first | assumption | (simp only [zK_sF, zK_sI, zK_sJ, zK_sR]; assumption)) (by first | assumption | (simp only [zF_sF, zF_sI, zF_sJ, zF_sR, true_and, and_true, false_and, and_false, if_true, if_false, eq_self, reduceIte, Nat.reduceEqDiff, OfNat.ofNat_ne_zero, OfNat.zero_ne_ofNat, OfNat.ofNat_ne_one, OfNat.one_ne_ofNat, reduceCtorEq]; first | rfl | assumption)) ?_
  first | refine q_aload_n dX10_barByLatest_40 rfl ?_ | refine q_aload_nN dX10_barByLatest_40 rfl ?_
  refine q_getf dX10_barByLatest_41 fk_X10_22_9 (by first | assumption | (simp only [zK_sF, zK_sI, zK_sJ, zK_sR]; assumption)) (by first | assumption | (simp only [zF_sF, zF_sI, zF_sJ, zF_sR, true_and, and_true, false_and, and_false, if_true, if_false, eq_self, reduceIte, Nat.reduceEqDiff, OfNat.ofNat_ne_zero, OfNat.zero_ne_ofNat, OfNat.ofNat_ne_one, OfNat.one_ne_ofNat, reduceCtorEq]; first | rfl | assumption)) ?_
  refine q_iast dX10_barByLatest_44 (by first | assumption | (simp only [zK_sF, zK_sI, zK_sJ, zK_sR]; assumption)) (by simp only [zL_sI, zL_sJ]; rw [l2]; exact hi) ?_
  first | refine q_aload_n dX10_barByLatest_45 rfl ?_ | refine q_aload_nN dX10_barByLatest_45 rfl ?_
  refine q_dup dX10_barByLatest_46 rfl ?_
  refine q_getf dX10_barByLatest_47 fk_X10_29_9 (by first | assumption | (simp only [zK_sF, zK_sI, zK_sJ, zK_sR]; assumption)) (by first | assumption | (simp only [zF_sF, zF_sI, zF_sJ, zF_sR, true_and, and_true, false_and, and_false, if_true, if_false, eq_self, reduceIte, Nat.reduceEqDiff, OfNat.ofNat_ne_zero, OfNat.zero_ne_ofNat, OfNat.ofNat_ne_one, OfNat.one_ne_ofNat, reduceCtorEq]; first | rfl | assumption)) ?_
  refine q_iconst (v := 1) dX10_barByLatest_50 (by decide) ?_
  refine q_iadd dX10_barByLatest_51 ?_
  refine q_putf dX10_barByLatest_52 fk_X10_29_9 rfl (by first | assumption | (simp only [zK_sF, zK_sI, zK_sJ, zK_sR]; assumption)) rfl rfl ?_
  exact q_return dX10_barByLatest_55 rfl (by decide) (by decide) rfl
set_option maxHeartbeats 4000000 in
set_option maxRecDepth 100000 in
theorem c_X10_hasBarred (l : Launch) (G : Gt) (Z : Zt) (a : Nat) (bd i : Int32) (hK : zK Z a = 10) (hb : zF Z 3 a = .int bd) : Ct l G YX10_hasBarred (0, 0, 0) Z [.ref a, .int i] (ΦI (fun r Z1 => Z1 = Z ∧ rb r (¬ i < 0 ∧ ¬ bd ≤ i ∧ ¬ 20 ≤ i))) := by
  refine ct_of [some (.ref a), some (.int i)] (by decide +kernel) (Nat.le_of_ble_eq_true rfl) rfl (fun M => ?_)
  refine q_iload_n dX10_hasBarred_0 rfl ?_
  refine q_if_lt 22 dX10_hasBarred_1 (by decide) (fun c1 => ?_) (fun c1 => ?_)
  · refine q_iconst (v := 0) dX10_hasBarred_22 (by decide) ?_
    exact q_zreturn dX10_hasBarred_23 rfl rfl (by decide) (by decide) (by first | exact ⟨rfl, rb_1 (by simp_all)⟩ | exact ⟨rfl, rb_0 (by simp_all)⟩)
  · refine q_iload_n dX10_hasBarred_4 rfl ?_
    first | refine q_aload_n dX10_hasBarred_5 rfl ?_ | refine q_aload_nN dX10_hasBarred_5 rfl ?_
    refine q_getf dX10_hasBarred_6 fk_X10_29_9 (by first | assumption | (simp only [zK_sF, zK_sI, zK_sJ, zK_sR]; assumption)) (by first | assumption | (simp only [zF_sF, zF_sI, zF_sJ, zF_sR, true_and, and_true, false_and, and_false, if_true, if_false, eq_self, reduceIte, Nat.reduceEqDiff, OfNat.ofNat_ne_zero, OfNat.zero_ne_ofNat, OfNat.ofNat_ne_one, OfNat.one_ne_ofNat, reduceCtorEq]; first | rfl | assumption)) ?_
    refine q_icmp_ge 22 dX10_hasBarred_9 (by decide) (fun c9 => ?_) (fun c9 => ?_)
    · refine q_iconst (v := 0) dX10_hasBarred_22 (by decide) ?_
      exact q_zreturn dX10_hasBarred_23 rfl rfl (by decide) (by decide) (by first | exact ⟨rfl, rb_1 (by simp_all)⟩ | exact ⟨rfl, rb_0 (by simp_all)⟩)
    · refine q_iload_n dX10_hasBarred_12 rfl ?_
      refine q_bipush (v := 20) dX10_hasBarred_13 (by decide) ?_
      refine q_icmp_ge 22 dX10_hasBarred_15 (by decide) (fun c15 => ?_) (fun c15 => ?_)
      · refine q_iconst (v := 0) dX10_hasBarred_22 (by decide) ?_
        exact q_zreturn dX10_hasBarred_23 rfl rfl (by decide) (by decide) (by first | exact ⟨rfl, rb_1 (by simp_all)⟩ | exact ⟨rfl, rb_0 (by simp_all)⟩)
      · refine q_iconst (v := 1) dX10_hasBarred_18 (by decide) ?_
        refine q_goto 23 dX10_hasBarred_19 (by decide) ?_
        exact q_zreturn dX10_hasBarred_23 rfl rfl (by decide) (by decide) (by first | exact ⟨rfl, rb_1 (by simp_all)⟩ | exact ⟨rfl, rb_0 (by simp_all)⟩)
set_option maxHeartbeats 4000000 in
set_option maxRecDepth 100000 in
theorem c_X10_canBeMet (l : Launch) (G : Gt) (Z : Zt) (v : Int32) : Ct l G YX10_canBeMet (0, 0, 0) Z [.int v] (ΦI (fun r Z1 => Z1 = Z ∧ rb r (¬ 0 ≤ v ∧ ¬ v = -18))) := by
  refine ct_of [some (.int v)] (by decide +kernel) (Nat.le_of_ble_eq_true rfl) rfl (fun M => ?_)
  refine q_iload_n dX10_canBeMet_0 rfl ?_
  refine q_if_ge 14 dX10_canBeMet_1 (by decide) (fun c1 => ?_) (fun c1 => ?_)
  · refine q_iconst (v := 0) dX10_canBeMet_14 (by decide) ?_
    exact q_zreturn dX10_canBeMet_15 rfl rfl (by decide) (by decide) (by first | exact ⟨rfl, rb_1 (by simp_all)⟩ | exact ⟨rfl, rb_0 (by simp_all)⟩)
  · refine q_iload_n dX10_canBeMet_4 rfl ?_
    refine q_bipush (v := (-18)) dX10_canBeMet_5 (by decide) ?_
    refine q_icmp_eq 14 dX10_canBeMet_7 (by decide) (fun c7 => ?_) (fun c7 => ?_)
    · refine q_iconst (v := 0) dX10_canBeMet_14 (by decide) ?_
      exact q_zreturn dX10_canBeMet_15 rfl rfl (by decide) (by decide) (by first | exact ⟨rfl, rb_1 (by simp_all)⟩ | exact ⟨rfl, rb_0 (by simp_all)⟩)
    · refine q_iconst (v := 1) dX10_canBeMet_10 (by decide) ?_
      refine q_goto 15 dX10_canBeMet_11 (by decide) ?_
      exact q_zreturn dX10_canBeMet_15 rfl rfl (by decide) (by decide) (by first | exact ⟨rfl, rb_1 (by simp_all)⟩ | exact ⟨rfl, rb_0 (by simp_all)⟩)
set_option maxHeartbeats 4000000 in
set_option maxRecDepth 100000 in
theorem c_J7_fill (l : Launch) (G : Gt) (Z : Zt) (a : Nat) (v : Int64) (hK : zK Z a = 21) (hL : zL Z a < 2 ^ 31) : Ct l G YJ7_fill_d0a16 (0, 0, 0) Z [.ref a, .long v] (ΦV (fun Z1 => ∃ f, Z1 = tJ Z a f ∧ ∀ i, i < zL Z a → f i = v)) := by
  refine ct_of [some (.ref a), some (.long v), none, none, none] (by decide +kernel) (Nat.le_of_ble_eq_true rfl) rfl (fun M => ?_)
  have loop : ∀ (k i : Nat) (f : Nat → Int64), i + k = zL Z a → (∀ j, j < i → f j = v) → Jd l G YJ7_fill_d0a16 (0, 0, 0) M (tJ Z a f) 0 0 (Qm G (0, 0, 0) M (ΦV (fun Z1 => ∃ f, Z1 = tJ Z a f ∧ ∀ i, i < zL Z a → f i = v))) 6 [some (.ref a), some (.long v), none, some (.int (nI i)), some (.int (nI (zL Z a)))] [] := by
    intro k
    induction k with
    | zero =>
      intro i f hik hf
      refine q_iload_n dJ7_fill_d0a16_6 rfl ?_
      refine q_iload dJ7_fill_d0a16_7 rfl ?_
      refine q_icmp_ge 22 dJ7_fill_d0a16_9 (by decide) (fun c9 => ?_) (fun c9 => absurd c9 (not_not_intro (nI_le (by omega) (by omega))))
      exact q_return dJ7_fill_d0a16_22 rfl (by decide) (by decide) ⟨f, rfl, fun j hj => hf j (by omega)⟩
    | succ k ih =>
      intro i f hik hf
      refine q_iload_n dJ7_fill_d0a16_6 rfl ?_
      refine q_iload dJ7_fill_d0a16_7 rfl ?_
      refine q_icmp_ge 22 dJ7_fill_d0a16_9 (by decide) (fun c9 => absurd c9 (nI_ge (by omega) (by omega))) (fun c9 => ?_)
      first | refine q_aload_n dJ7_fill_d0a16_12 rfl ?_ | refine q_aload_nN dJ7_fill_d0a16_12 rfl ?_
      refine q_iload_n dJ7_fill_d0a16_13 rfl ?_
      refine q_lload_n dJ7_fill_d0a16_14 rfl ?_
      refine q_last dJ7_fill_d0a16_15 (by rw [zK_tJ]; exact hK) (by rw [zL_tJ]; exact vp_in_nI (by omega) hL) ?_
      refine q_iinc 1 (ls' := [_, _, _, _, _]) dJ7_fill_d0a16_16 rfl (by decide) rfl rfl (Nat.le_of_ble_eq_true rfl) (by decide) ?_
      refine q_goto 6 dJ7_fill_d0a16_19 (by decide) ?_
      rw [nI_1, sJ_t, tJ_tJ, zJ_tJ, if_pos rfl, nI_clamp (by omega)]
      refine ih (i + 1) _ (by omega) (fun j hj => ?_)
      by_cases e : j = i
      · subst e; exact pk_uLs
      · rw [pk_uLn e]; exact hf j (by omega)
  refine q_iconst (v := 0) dJ7_fill_d0a16_0 (by decide) ?_
  refine q_istore_n (ls' := [_, _, _, _, _]) dJ7_fill_d0a16_1 rfl rfl (Nat.le_of_ble_eq_true rfl) (by decide) ?_
  first | refine q_aload_n dJ7_fill_d0a16_2 rfl ?_ | refine q_aload_nN dJ7_fill_d0a16_2 rfl ?_
  refine q_alenJ dJ7_fill_d0a16_3 (by first | assumption | (simp only [zK_sF, zK_sI, zK_sJ, zK_sR]; assumption)) ?_
  refine q_istore (ls' := [_, _, _, _, _]) dJ7_fill_d0a16_4 rfl rfl (Nat.le_of_ble_eq_true rfl) (by decide) ?_
  have hl := loop (zL Z a) 0 (zJ Z a) (by omega) (fun j hj => absurd hj (by omega))
  rw [tJ_id] at hl
  exact hl
set_option maxHeartbeats 4000000 in
set_option maxRecDepth 100000 in
theorem c_X11_gap (l : Launch) (G : Gt) (Z : Zt) (x y : Int64) : Ct l G YX11_gap (0, 0, 0) Z [.long x, .long y] (ΦL (fun r Z1 => Z1 = Z ∧ r = if x < y then y - x else x - y)) := by
  refine ct_of [some (.long x), none, some (.long y), none] (by decide +kernel) (Nat.le_of_ble_eq_true rfl) rfl (fun M => ?_)
  refine q_lload_n dX11_gap_0 rfl ?_
  refine q_lload_n dX11_gap_1 rfl ?_
  refine q_lcmp_lt 12 dX11_gap_2 dX11_gap_3 (by decide) (fun c2 => ?_) (fun c2 => ?_)
  · refine q_lload_n dX11_gap_12 rfl ?_
    refine q_lload_n dX11_gap_13 rfl ?_
    refine q_lsub dX11_gap_14 ?_
    exact q_lreturn dX11_gap_15 rfl (by decide) (by decide) (by first | exact ⟨rfl, (if_pos (by assumption)).symm⟩ | exact ⟨rfl, (if_neg (by assumption)).symm⟩)
  · refine q_lload_n dX11_gap_6 rfl ?_
    refine q_lload_n dX11_gap_7 rfl ?_
    refine q_lsub dX11_gap_8 ?_
    refine q_goto 15 dX11_gap_9 (by decide) ?_
    exact q_lreturn dX11_gap_15 rfl (by decide) (by decide) (by first | exact ⟨rfl, (if_pos (by assumption)).symm⟩ | exact ⟨rfl, (if_neg (by assumption)).symm⟩)
set_option maxHeartbeats 4000000 in
set_option maxRecDepth 100000 in
theorem c_X11_unsignedBelow (l : Launch) (G : Gt) (Z : Zt) (x y : Int64) : Ct l G YX11_unsignedBelow (0, 0, 0) Z [.long x, .long y] (ΦI (fun r Z1 => Z1 = Z ∧ rb r (x + (-9223372036854775808) < y + (-9223372036854775808)))) := by
  refine ct_of [some (.long x), none, some (.long y), none] (by decide +kernel) (Nat.le_of_ble_eq_true rfl) rfl (fun M => ?_)
  refine q_lload_n dX11_unsignedBelow_0 rfl ?_
  refine q_ldc2 dX11_unsignedBelow_1 kl_X11_267 ?_
  refine q_ladd dX11_unsignedBelow_4 ?_
  refine q_lload_n dX11_unsignedBelow_5 rfl ?_
  refine q_ldc2 dX11_unsignedBelow_6 kl_X11_267 ?_
  refine q_ladd dX11_unsignedBelow_9 ?_
  refine q_lcmp_ge 18 dX11_unsignedBelow_10 dX11_unsignedBelow_11 (by decide) (fun c10 => ?_) (fun c10 => ?_)
  · refine q_iconst (v := 0) dX11_unsignedBelow_18 (by decide) ?_
    exact q_zreturn dX11_unsignedBelow_19 rfl rfl (by decide) (by decide) (by first | exact ⟨rfl, rb_1 (Int64.not_le.mp (by assumption))⟩ | exact ⟨rfl, rb_0 (Int64.not_lt.mpr (by assumption))⟩)
  · refine q_iconst (v := 1) dX11_unsignedBelow_14 (by decide) ?_
    refine q_goto 19 dX11_unsignedBelow_15 (by decide) ?_
    exact q_zreturn dX11_unsignedBelow_19 rfl rfl (by decide) (by decide) (by first | exact ⟨rfl, rb_1 (Int64.not_le.mp (by assumption))⟩ | exact ⟨rfl, rb_0 (Int64.not_lt.mpr (by assumption))⟩)
end
section
def uN (x : Int64) : Nat := x.toUInt64.toNat
theorem uN_lt (x : Int64) : uN x < 18446744073709551616 := x.toUInt64.toNat_lt
theorem uN_inj {x y : Int64} (h : uN x = uN y) : x = y := congrArg UInt64.toInt64 (UInt64.toNat_inj.mp h)
theorem uN_add (x y : Int64) : uN (x + y) = (uN x + uN y) % 18446744073709551616 := by
  show (x.toUInt64 + y.toUInt64).toNat = _
  exact UInt64.toNat_add _ _
theorem uN_mul (x y : Int64) : uN (x * y) = (uN x * uN y) % 18446744073709551616 := by
  show (x.toUInt64 * y.toUInt64).toNat = _
  exact UInt64.toNat_mul _ _
theorem uN_shl (x : Int64) : uN (x <<< ((1 : Int32).toInt64 &&& 63)) = (2 * uN x) % 18446744073709551616 := by
  have h : (((1 : Int32).toInt64 &&& 63).toBitVec.smod 64).toNat = 1 := by decide
  show (x.toBitVec <<< (((1 : Int32).toInt64 &&& 63).toBitVec.smod 64).toNat).toNat = _
  rw [h, BitVec.toNat_shiftLeft, Nat.shiftLeft_eq, Nat.mul_comm]
  rfl
theorem uN_shr (x : Int64) (s : UInt64) : uN (x.toUInt64 >>> s).toInt64 = uN x / 2 ^ (s.toNat % 64) := by
  show (x.toUInt64 >>> s).toNat = _
  rw [UInt64.toNat_shiftRight, Nat.shiftRight_eq_div_pow]
  rfl
theorem nat_xor {a : Nat} (h : a < 18446744073709551616) : a ^^^ 2 ^ 63 = (a + 9223372036854775808) % 18446744073709551616 := by
  have h1 : (a ^^^ 2 ^ 63) % 2 ^ 63 = a % 2 ^ 63 := by rw [Nat.xor_mod_two_pow, Nat.mod_self, Nat.xor_zero]
  have h2 : (a ^^^ 2 ^ 63) / 2 ^ 63 = (a / 2 ^ 63) ^^^ 1 := by rw [Nat.xor_div_two_pow, Nat.div_self (Nat.two_pow_pos 63)]
  have h3 : a / 2 ^ 63 = 0 ∨ a / 2 ^ 63 = 1 := by omega
  generalize a ^^^ 2 ^ 63 = t at h1 h2
  rcases h3 with h3 | h3
  · rw [h3] at h2
    have h2 : t / 2 ^ 63 = 1 := h2
    omega
  · rw [h3] at h2
    have h2 : t / 2 ^ 63 = 0 := h2
    omega
theorem uN_xor (x : Int64) : uN (x ^^^ (-9223372036854775808)) = (uN x + 9223372036854775808) % 18446744073709551616 := by
  rw [← nat_xor (uN_lt x)]
  exact UInt64.toNat_xor _ _
theorem uN_int (x : Int64) : x.toInt = if 2 * uN x < 18446744073709551616 then (uN x : Int) else (uN x : Int) - 18446744073709551616 := BitVec.toInt_eq_toNat_cond _
theorem uN_le (x y : Int64) : (x ^^^ (-9223372036854775808)) ≤ (y ^^^ (-9223372036854775808)) ↔ uN x ≤ uN y := by
  have hx := uN_lt x
  have hy := uN_lt y
  rw [Int64.le_iff_toInt_le, uN_int, uN_int, uN_xor, uN_xor]
  omega
theorem uN_sub (x y : Int64) : uN (x - y) = (uN x + 18446744073709551616 - uN y) % 18446744073709551616 := by
  have h : uN ((x - y) + y) = (uN (x - y) + uN y) % 18446744073709551616 := uN_add _ _
  rw [Int64.sub_add_cancel] at h
  have h1 := uN_lt x
  have h2 := uN_lt y
  have h3 := uN_lt (x - y)
  omega
theorem uN_neg (x : Int64) : uN (-x) = (18446744073709551616 - uN x) % 18446744073709551616 := by
  have h : uN (-x + x) = (uN (-x) + uN x) % 18446744073709551616 := uN_add _ _
  have e : -x + x = 0 := by rw [Int64.add_comm, Int64.add_right_neg]
  rw [e] at h
  have h0 : uN 0 = 0 := rfl
  have h1 := uN_lt x
  have h3 := uN_lt (-x)
  omega
theorem uN_ofNat {n : Nat} (h : n < 18446744073709551616) : uN (lN n) = n := by
  show (BitVec.ofNat 64 n).toNat = n
  rw [BitVec.toNat_ofNat]
  exact Nat.mod_eq_of_lt h
theorem uN_pos {x : Int64} (h : ¬ x < 0) : x.toInt = (uN x : Int) ∧ uN x < 9223372036854775808 := by
  have h1 : ¬ x.toInt < 0 := fun z => h (Int64.lt_iff_toInt_lt.mpr (by simpa using z))
  have h2 := uN_int x
  have h3 := uN_lt x
  split at h2 <;> omega
theorem uN_neg_iff (x : Int64) : x < 0 ↔ 9223372036854775808 ≤ uN x := by
  have h2 := uN_int x
  have h3 := uN_lt x
  rw [Int64.lt_iff_toInt_lt]
  show x.toInt < 0 ↔ _
  split at h2 <;> omega
theorem uN_div {x y : Int64} (hx : ¬ x < 0) (hy : ¬ y < 0) : uN (x / y) = uN x / uN y := by
  obtain ⟨h1, h2⟩ := uN_pos hx
  obtain ⟨h3, h4⟩ := uN_pos hy
  have h5 : (0 : Int) ≤ (uN x : Int) / (uN y : Int) := Int.ediv_nonneg (by omega) (by omega)
  have h9 : (uN x : Int) / (uN y : Int) ≤ (uN x : Int) := Int.ediv_le_self _ (by omega)
  have h6 : (x / y).toInt = (uN x : Int) / (uN y : Int) := by
    rw [Int64.toInt_div, h1, h3, Int.tdiv_eq_ediv_of_nonneg (by omega)]
    rw [Int.bmod_eq_of_le (by omega) (by omega)]
  have h7 := uN_int (x / y)
  have h8 := uN_lt (x / y)
  rw [h6] at h7
  have h10 : ((uN (x / y) : Nat) : Int) = ((uN x / uN y : Nat) : Int) := by
    rw [Int.natCast_ediv]
    split at h7 <;> omega
  omega
def uQ (x y : Int64) : Int64 := lN (uN x / uN y)
def uR (x y : Int64) : Int64 := lN (uN x % uN y)
theorem uN_uQ (x y : Int64) : uN (uQ x y) = uN x / uN y := uN_ofNat (Nat.lt_of_le_of_lt (Nat.div_le_self _ _) (uN_lt x))
theorem uN_uR (x y : Int64) : uN (uR x y) = uN x % uN y := uN_ofNat (Nat.lt_of_le_of_lt (Nat.mod_le _ _) (uN_lt x))
theorem uN_uR_eq (x y : Int64) : x - uQ x y * y = uR x y := by
  apply uN_inj
  rw [uN_sub, uN_mul, uN_uQ, uN_uR]
  have h1 := Nat.div_add_mod (uN x) (uN y)
  have h2 := uN_lt x
  have h3 : uN x / uN y * uN y = uN y * (uN x / uN y) := Nat.mul_comm _ _
  rw [h3]
  generalize uN y * (uN x / uN y) = t at h1
  omega
theorem uN_below (x y : Int64) : x + (-9223372036854775808) < y + (-9223372036854775808) ↔ uN x < uN y := by
  have hx := uN_lt x
  have hy := uN_lt y
  have e : uN (-9223372036854775808) = 9223372036854775808 := by decide +kernel
  rw [Int64.lt_iff_toInt_lt, uN_int, uN_int, uN_add, uN_add, e]
  omega
theorem uN_half (x : Int64) : uN (x.toUInt64 >>> ((1 : Int32).toInt64.toUInt64 &&& Int64.toUInt64 63)).toInt64 = uN x / 2 := by
  have h : (((1 : Int32).toInt64.toUInt64 &&& Int64.toUInt64 63).toNat % 64) = 1 := by decide
  rw [uN_shr, h]
/-- half the number divided, doubled, is the quotient or one less -/
theorem uQ_half {x y q : Int64} (h0 : ¬ y < 0) (hy : ¬ y = 0) (hq : uN q = 2 * (uN x / 2 / uN y)) : uN (x - q * y) = uN x - 2 * (uN x / 2 / uN y) * uN y ∧ (uN (x - q * y) < uN y → q = uQ x y) ∧ (¬ uN (x - q * y) < uN y → q + 1 = uQ x y) ∧ uN (x - q * y) < 2 * uN y := by
  obtain ⟨-, hb⟩ := uN_pos h0
  have hy0 : uN y ≠ 0 := fun z => hy (uN_inj (z.trans rfl))
  have hx := uN_lt x
  generalize hX : uN x = X at *
  generalize hYy : uN y = Yy at *
  have h1 := Nat.div_add_mod (X / 2) Yy
  have h2 : X / 2 % Yy < Yy := Nat.mod_lt _ (by omega)
  generalize hc : X / 2 / Yy = c at *
  have h3 : 2 * c * Yy = 2 * (Yy * c) := by rw [Nat.mul_assoc, Nat.mul_comm c Yy]
  have h4 : uN (x - q * y) = X - 2 * c * Yy := by
    rw [uN_sub, uN_mul, hX, hYy, hq, h3]
    generalize Yy * c = t at *
    omega
  rw [h4, h3]
  refine ⟨rfl, fun h => uN_inj ?_, fun h => uN_inj ?_, ?_⟩
  · rw [uN_uQ, hq, hX, hYy]
    refine (Nat.div_eq_of_lt_le ?_ ?_).symm
    · rw [h3]; generalize Yy * c = t at *; omega
    · rw [Nat.add_mul, Nat.one_mul, h3]; generalize Yy * c = t at *; omega
  · rw [uN_uQ, uN_add, hq, hX, hYy]
    have e1 : uN 1 = 1 := rfl
    rw [e1]
    have hd : X / Yy = 2 * c + 1 := by
      refine Nat.div_eq_of_lt_le ?_ ?_
      · rw [Nat.add_mul, Nat.one_mul, h3]; generalize Yy * c = t at *; omega
      · rw [Nat.add_mul, Nat.add_mul, Nat.one_mul, h3]; generalize Yy * c = t at *; omega
    have h5 : X / Yy ≤ X := Nat.div_le_self _ _
    omega
  · generalize Yy * c = t at *; omega
theorem uQ_small {x y : Int64} (h : uN x < uN y) : uQ x y = 0 := uN_inj (by rw [uN_uQ, Nat.div_eq_of_lt h]; rfl)
theorem uQ_big {x y : Int64} (h : ¬ uN x < uN y) (hy : y < 0) : uQ x y = 1 := uN_inj (by
  have h1 := (uN_neg_iff y).mp hy
  have h2 := uN_lt x
  rw [uN_uQ, show uN 1 = 1 from rfl]
  exact Nat.div_eq_of_lt_le (by omega) (by omega))
theorem uQ_zero {x : Int64} : uQ x 0 = 0 := uN_inj (by rw [uN_uQ, show uN 0 = 0 from rfl, Nat.div_zero])
theorem uQ_low {x y : Int64} (h0 : ¬ y < 0) (hy : ¬ y = 0) : uN (((x.toUInt64 >>> ((1 : Int32).toInt64.toUInt64 &&& Int64.toUInt64 63)).toInt64 / y) <<< ((1 : Int32).toInt64 &&& 63)) = 2 * (uN x / 2 / uN y) := by
  have hx := uN_lt x
  have h1 : ¬ (x.toUInt64 >>> ((1 : Int32).toInt64.toUInt64 &&& Int64.toUInt64 63)).toInt64 < 0 := by
    rw [uN_neg_iff, uN_half]; omega
  have h2 : uN x / 2 / uN y ≤ uN x / 2 := Nat.div_le_self _ _
  rw [uN_shl, uN_div h1 h0, uN_half]
  omega
set_option maxHeartbeats 4000000 in
set_option maxRecDepth 100000 in
theorem c_X11_unsignedQuotient (l : Launch) (G : Gt) (Z : Zt) (x y : Int64) : Ct l G YX11_unsignedQuotient (1, 0, 0) Z [.long x, .long y] (ΦL (fun r Z1 => Z1 = Z ∧ r = uQ x y)) := by
  refine ct_of [some (.long x), none, some (.long y), none, none, none] (by decide +kernel) (Nat.le_of_ble_eq_true rfl) rfl (fun M => ?_)
  refine q_lload_n dX11_unsignedQuotient_0 rfl ?_
  refine q_lconst (v := 0) dX11_unsignedQuotient_1 (by decide) ?_
  refine q_lcmp_eq 14 dX11_unsignedQuotient_2 dX11_unsignedQuotient_3 (by decide) (fun c2 => ?_) (fun c2 => ?_)
  · subst c2
    refine q_lconst (v := 0) dX11_unsignedQuotient_14 (by decide) ?_
    exact q_lreturn dX11_unsignedQuotient_15 rfl (by decide) (by decide) (by first | exact ⟨rfl, uQ_zero.symm⟩ | exact ⟨rfl, (uQ_small (rb_t h c11)).symm⟩)
  · refine q_lload_n dX11_unsignedQuotient_6 rfl ?_
    refine q_lload_n dX11_unsignedQuotient_7 rfl ?_
    refine q_callS dX11_unsignedQuotient_8 mk_X11_269 (c_X11_unsignedBelow l G _ x y) rfl np_X11_unsignedBelow (by decide) (by decide) (by decide) (Nat.le_of_ble_eq_true rfl) (kI (fun r Z1 h => ?_))
    obtain ⟨rfl, h⟩ := h
    rw [uN_below] at h
    refine q_if_eq 16 dX11_unsignedQuotient_11 (by decide) (fun c11 => ?_) (fun c11 => ?_)
    · refine q_lload_n dX11_unsignedQuotient_16 rfl ?_
      refine q_lconst (v := 0) dX11_unsignedQuotient_17 (by decide) ?_
      refine q_lcmp_ge 24 dX11_unsignedQuotient_18 dX11_unsignedQuotient_19 (by decide) (fun c18 => ?_) (fun c18 => ?_)
      · have c18 := Int64.not_lt.mpr c18
        refine q_lload_n dX11_unsignedQuotient_24 rfl ?_
        refine q_iconst (v := 1) dX11_unsignedQuotient_25 (by decide) ?_
        refine q_lushr dX11_unsignedQuotient_26 ?_
        refine q_lload_n dX11_unsignedQuotient_27 rfl ?_
        refine q_ldiv dX11_unsignedQuotient_28 (by assumption) ?_
        refine q_iconst (v := 1) dX11_unsignedQuotient_29 (by decide) ?_
        refine q_lshl dX11_unsignedQuotient_30 ?_
        refine q_lstore (ls' := [_, _, _, _, _, _]) dX11_unsignedQuotient_31 rfl rfl (Nat.le_of_ble_eq_true rfl) (by decide) ?_
        refine q_lload_n dX11_unsignedQuotient_33 rfl ?_
        refine q_lload dX11_unsignedQuotient_34 rfl ?_
        refine q_lload_n dX11_unsignedQuotient_36 rfl ?_
        refine q_lmul dX11_unsignedQuotient_37 ?_
        refine q_lsub dX11_unsignedQuotient_38 ?_
        refine q_lload_n dX11_unsignedQuotient_39 rfl ?_
        refine q_callS dX11_unsignedQuotient_40 mk_X11_269 (c_X11_unsignedBelow l G _ _ y) rfl np_X11_unsignedBelow (by decide) (by decide) (by decide) (Nat.le_of_ble_eq_true rfl) (kI (fun r Z2 h2 => ?_))
        obtain ⟨rfl, h2⟩ := h2
        rw [uN_below] at h2
        have hq := uQ_half c18 c2 (uQ_low (x := x) c18 c2)
        refine q_if_eq 51 dX11_unsignedQuotient_43 (by decide) (fun c43 => ?_) (fun c43 => ?_)
        · refine q_lload dX11_unsignedQuotient_51 rfl ?_
          refine q_lconst (v := 1) dX11_unsignedQuotient_53 (by decide) ?_
          refine q_ladd dX11_unsignedQuotient_54 ?_
          exact q_lreturn dX11_unsignedQuotient_55 rfl (by decide) (by decide) (by first | exact ⟨rfl, hq.2.1 (rb_t h2 c43)⟩ | exact ⟨rfl, hq.2.2.1 (rb_f h2 c43)⟩)
        · refine q_lload dX11_unsignedQuotient_46 rfl ?_
          refine q_goto 55 dX11_unsignedQuotient_48 (by decide) ?_
          exact q_lreturn dX11_unsignedQuotient_55 rfl (by decide) (by decide) (by first | exact ⟨rfl, hq.2.1 (rb_t h2 c43)⟩ | exact ⟨rfl, hq.2.2.1 (rb_f h2 c43)⟩)
      · have c18 := Int64.not_le.mp c18
        refine q_lconst (v := 1) dX11_unsignedQuotient_22 (by decide) ?_
        exact q_lreturn dX11_unsignedQuotient_23 rfl (by decide) (by decide) ⟨rfl, (uQ_big (rb_f h c11) c18).symm⟩
    · refine q_lconst (v := 0) dX11_unsignedQuotient_14 (by decide) ?_
      exact q_lreturn dX11_unsignedQuotient_15 rfl (by decide) (by decide) (by first | exact ⟨rfl, uQ_zero.symm⟩ | exact ⟨rfl, (uQ_small (rb_t h c11)).symm⟩)
set_option maxHeartbeats 4000000 in
set_option maxRecDepth 100000 in
theorem c_X11_unsignedRest (l : Launch) (G : Gt) (Z : Zt) (x y : Int64) : Ct l G YX11_unsignedRest (2, 0, 0) Z [.long x, .long y] (ΦL (fun r Z1 => Z1 = Z ∧ r = uR x y)) := by
  refine ct_of [some (.long x), none, some (.long y), none] (by decide +kernel) (Nat.le_of_ble_eq_true rfl) rfl (fun M => ?_)
  refine q_lload_n dX11_unsignedRest_0 rfl ?_
  refine q_lload_n dX11_unsignedRest_1 rfl ?_
  refine q_lload_n dX11_unsignedRest_2 rfl ?_
  refine q_callS dX11_unsignedRest_3 mk_X11_124 (c_X11_unsignedQuotient l G _ x y) rfl np_X11_unsignedQuotient (by decide) (by decide) (by decide) (Nat.le_of_ble_eq_true rfl) (kL (fun r Z1 h => ?_))
  obtain ⟨rfl, rfl⟩ := h
  refine q_lload_n dX11_unsignedRest_6 rfl ?_
  refine q_lmul dX11_unsignedRest_7 ?_
  refine q_lsub dX11_unsignedRest_8 ?_
  exact q_lreturn dX11_unsignedRest_9 rfl (by decide) (by decide) ⟨rfl, uN_uR_eq x y⟩
end
section
theorem zK_nO {Z : Zt} {kd : Nat} {dv : Nat → Value} {a : Nat} (h : a ≠ zN Z) : zK (nO Z kd dv) a = zK Z a := if_neg h
theorem zK_nO' {Z : Zt} {kd : Nat} {dv : Nat → Value} : zK (nO Z kd dv) (zN Z) = kd := if_pos rfl
theorem zF_nO {Z : Zt} {kd k : Nat} {dv : Nat → Value} {a : Nat} (h : a ≠ zN Z) : zF (nO Z kd dv) k a = zF Z k a := if_neg h
theorem zF_nO' {Z : Zt} {kd k : Nat} {dv : Nat → Value} : zF (nO Z kd dv) k (zN Z) = dv k := if_pos rfl
theorem zL_nO {Z : Zt} {kd : Nat} {dv : Nat → Value} : zL (nO Z kd dv) = zL Z := rfl
theorem zI_nO {Z : Zt} {kd : Nat} {dv : Nat → Value} : zI (nO Z kd dv) = zI Z := rfl
theorem zJ_nO {Z : Zt} {kd : Nat} {dv : Nat → Value} : zJ (nO Z kd dv) = zJ Z := rfl
theorem zR_nO {Z : Zt} {kd : Nat} {dv : Nat → Value} : zR (nO Z kd dv) = zR Z := rfl
theorem zN_nO {Z : Zt} {kd : Nat} {dv : Nat → Value} : zN (nO Z kd dv) = zN Z + 1 := rfl
theorem zK_nA {Z : Zt} {kd n a : Nat} (h : a ≠ zN Z) : zK (nA Z kd n) a = zK Z a := if_neg h
theorem zK_nA' {Z : Zt} {kd n : Nat} : zK (nA Z kd n) (zN Z) = kd := if_pos rfl
theorem zL_nA {Z : Zt} {kd n a : Nat} (h : a ≠ zN Z) : zL (nA Z kd n) a = zL Z a := if_neg h
theorem zL_nA' {Z : Zt} {kd n : Nat} : zL (nA Z kd n) (zN Z) = n := if_pos rfl
theorem zF_nA {Z : Zt} {kd n : Nat} : zF (nA Z kd n) = zF Z := rfl
theorem zI_nA {Z : Zt} {kd n a : Nat} (h : a ≠ zN Z) : zI (nA Z kd n) a = zI Z a := if_neg h
theorem zI_nA' {Z : Zt} {kd n : Nat} : zI (nA Z kd n) (zN Z) = (fun _ => 0) := if_pos rfl
theorem zJ_nA {Z : Zt} {kd n a : Nat} (h : a ≠ zN Z) : zJ (nA Z kd n) a = zJ Z a := if_neg h
theorem zJ_nA' {Z : Zt} {kd n : Nat} : zJ (nA Z kd n) (zN Z) = (fun _ => 0) := if_pos rfl
theorem zR_nA {Z : Zt} {kd n a : Nat} (h : a ≠ zN Z) : zR (nA Z kd n) a = zR Z a := if_neg h
theorem zR_nA' {Z : Zt} {kd n : Nat} : zR (nA Z kd n) (zN Z) = (fun _ => none) := if_pos rfl
theorem zN_nA {Z : Zt} {kd n : Nat} : zN (nA Z kd n) = zN Z + 1 := rfl
/-- a stretch: the number at k, the place of v -/
def stAt (f s : Int64) (d : Int32) (k : Int64) : Int64 := if d = 0 then f + k * s else f - k * s
def gpf (x y : Int64) : Int64 := if x < y then y - x else x - y
def stIx (f s : Int64) (d : Int32) (c v : Int64) : Int64 :=
  if c < 1 then -1 else if (if d = 0 then f ≤ v else v ≤ f) then (if v = f then 0 else if c = 1 then -1 else if s = 0 then -1 else if uR (gpf f v) s = 0 then (if uQ (gpf f v) s ≤ 0 then -1 else if c ≤ uQ (gpf f v) s then -1 else uQ (gpf f v) s) else -1) else -1
/-- v is first found at i among f .. t - 1 of the row g; or not at all -/
def fnd (g : Nat → Int64) (f t : Nat) (v : Int64) (r : Int32) : Prop := (∃ i, f ≤ i ∧ i < t ∧ g i = v ∧ (∀ j, f ≤ j → j < i → g j ≠ v) ∧ r = nI i) ∨ ((∀ j, f ≤ j → j < t → g j ≠ v) ∧ r = -1)
set_option maxHeartbeats 4000000 in
set_option maxRecDepth 100000 in
theorem c_X11_find (l : Launch) (G : Gt) (Z : Zt) (a f t : Nat) (v : Int64) (hK : zK Z a = 21) (hL : zL Z a < 2 ^ 31) (ht : t ≤ zL Z a) (hf : f < 2 ^ 31) : Ct l G YX11_find (0, 0, 0) Z [.ref a, .int (nI f), .int (nI t), .long v] (ΦI (fun r Z1 => Z1 = Z ∧ fnd (zJ Z a) f t v r)) := by
  refine ct_of [some (.ref a), some (.int (nI f)), some (.int (nI t)), some (.long v), none, none] (by decide +kernel) (Nat.le_of_ble_eq_true rfl) rfl (fun M => ?_)
  have loop : ∀ (k i : Nat), f ≤ i → (t - i) ≤ k → (∀ j, f ≤ j → j < i → zJ Z a j ≠ v) → i < 2 ^ 31 → Jd l G YX11_find (0, 0, 0) M Z 0 0 (Qm G (0, 0, 0) M (ΦI (fun r Z1 => Z1 = Z ∧ fnd (zJ Z a) f t v r))) 3 [some (.ref a), some (.int (nI f)), some (.int (nI t)), some (.long v), none, some (.int (nI i))] [] := by
    intro k
    induction k with
    | zero =>
      intro i hfi hk hn hi
      refine q_iload dX11_find_3 rfl ?_
      refine q_iload_n dX11_find_5 rfl ?_
      refine q_icmp_ge 34 dX11_find_6 (by decide) (fun c6 => ?_) (fun c6 => absurd c6 (not_not_intro (nI_le (by omega) (by omega))))
      refine q_iconst (v := (-1)) dX11_find_34 (by decide) ?_
      exact q_ireturn dX11_find_35 rfl (by decide) (by decide) ⟨rfl, Or.inr ⟨fun j h1 h2 => hn j h1 (by omega), rfl⟩⟩
    | succ k ih =>
      intro i hfi hk hn hi
      by_cases hti : t ≤ i
      · refine q_iload dX11_find_3 rfl ?_
        refine q_iload_n dX11_find_5 rfl ?_
        refine q_icmp_ge 34 dX11_find_6 (by decide) (fun c6 => ?_) (fun c6 => absurd c6 (not_not_intro (nI_le hti (by omega))))
        refine q_iconst (v := (-1)) dX11_find_34 (by decide) ?_
        exact q_ireturn dX11_find_35 rfl (by decide) (by decide) ⟨rfl, Or.inr ⟨fun j h1 h2 => hn j h1 (by omega), rfl⟩⟩
      · refine q_iload dX11_find_3 rfl ?_
        refine q_iload_n dX11_find_5 rfl ?_
        refine q_icmp_ge 34 dX11_find_6 (by decide) (fun c6 => absurd c6 (nI_ge (by omega) (by omega))) (fun c6 => ?_)
        refine q_iload dX11_find_9 rfl ?_
        first | refine q_aload_n dX11_find_11 rfl ?_ | refine q_aload_nN dX11_find_11 rfl ?_
        refine q_alenJ dX11_find_12 (by first | assumption | (simp only [zK_sF, zK_sI, zK_sJ, zK_sR]; assumption)) ?_
        refine q_icmp_ge 34 dX11_find_13 (by decide) (fun c13 => absurd c13 (nI_ge (by omega) (by omega))) (fun c13 => ?_)
        first | refine q_aload_n dX11_find_16 rfl ?_ | refine q_aload_nN dX11_find_16 rfl ?_
        refine q_iload dX11_find_17 rfl ?_
        refine q_lald dX11_find_19 (by first | assumption | (simp only [zK_sF, zK_sI, zK_sJ, zK_sR]; assumption)) (vp_in_nI (by omega) hL) ?_
        refine q_lload_n dX11_find_20 rfl ?_
        refine q_lcmp_ne 28 dX11_find_21 dX11_find_22 (by decide) (fun c21 => ?_) (fun c21 => ?_)
        · rw [nI_clamp hi] at c21
          refine q_iinc 1 (ls' := [_, _, _, _, _, _]) dX11_find_28 rfl (by decide) rfl rfl (Nat.le_of_ble_eq_true rfl) (by decide) ?_
          refine q_goto 3 dX11_find_31 (by decide) ?_
          rw [nI_1]
          exact ih (i + 1) (by omega) (by omega) (fun j h1 h2 => by
            by_cases e : j = i
            · subst e; exact c21
            · exact hn j h1 (by omega)) (by omega)
        · rw [nI_clamp hi] at c21
          refine q_iload dX11_find_25 rfl ?_
          exact q_ireturn dX11_find_27 rfl (by decide) (by decide) ⟨rfl, Or.inl ⟨i, hfi, by omega, c21, hn, rfl⟩⟩
  refine q_iload_n dX11_find_0 rfl ?_
  refine q_istore (ls' := [_, _, _, _, _, _]) dX11_find_1 rfl rfl (Nat.le_of_ble_eq_true rfl) (by decide) ?_
  exact loop (t - f) f (Nat.le_refl _) (Nat.le_refl _) (fun j h1 h2 => absurd h2 (by omega)) hf
def sSt (Z : Zt) (a : Nat) (f s : Int64) (d : Int32) (c : Int64) : Zt := sF (sF (sF (sF Z 0 a (.long f)) 1 a (.long s)) 2 a (.int d)) 3 a (.long c)
def nSt (Z : Zt) (f s : Int64) (d : Int32) (c : Int64) : Zt := sSt (nO Z 9 (fun k => defaultValue (tyTab 8 k))) (zN Z) f s d c
set_option maxHeartbeats 4000000 in
set_option maxRecDepth 100000 in
theorem c_X9_init (l : Launch) (G : Gt) (Z : Zt) (a : Nat) (f s c : Int64) (d : Int32) (hK : zK Z a = 9) (hd : d = 0 ∨ d = 1) : Ct l G YX9_init (1, 0, 0) Z [.ref a, .long f, .long s, .int d, .long c] (ΦV (fun Z1 => Z1 = sSt Z a f s d c)) := by
  refine ct_of [some (.ref a), some (.long f), none, some (.long s), none, some (.int d), some (.long c), none] (by decide +kernel) (Nat.le_of_ble_eq_true rfl) rfl (fun M => ?_)
  first | refine q_aload_n dX9_init_0 rfl ?_ | refine q_aload_nN dX9_init_0 rfl ?_
  refine q_objInit dX9_init_1 ok_X9_1 oi_m oi_c (by decide) (Nat.le_of_ble_eq_true rfl) ?_
  first | refine q_aload_n dX9_init_4 rfl ?_ | refine q_aload_nN dX9_init_4 rfl ?_
  refine q_lload_n dX9_init_5 rfl ?_
  refine q_putF dX9_init_6 fk_X9_7_8 rfl rfl rfl (by first | assumption | (simp only [zK_sF, zK_sI, zK_sJ, zK_sR]; assumption)) rfl rfl ?_
  first | refine q_aload_n dX9_init_9 rfl ?_ | refine q_aload_nN dX9_init_9 rfl ?_
  refine q_lload_n dX9_init_10 rfl ?_
  refine q_putF dX9_init_11 fk_X9_13_8 rfl rfl rfl (by first | assumption | (simp only [zK_sF, zK_sI, zK_sJ, zK_sR]; assumption)) rfl rfl ?_
  first | refine q_aload_n dX9_init_14 rfl ?_ | refine q_aload_nN dX9_init_14 rfl ?_
  refine q_iload dX9_init_15 rfl ?_
  refine q_putF dX9_init_17 fk_X9_16_8 rfl rfl rfl (by first | assumption | (simp only [zK_sF, zK_sI, zK_sJ, zK_sR]; assumption)) (by rcases hd with rfl | rfl <;> rfl) (by rcases hd with rfl | rfl <;> rfl) ?_
  first | refine q_aload_n dX9_init_20 rfl ?_ | refine q_aload_nN dX9_init_20 rfl ?_
  refine q_lload dX9_init_21 rfl ?_
  refine q_putF dX9_init_23 fk_X9_20_8 rfl rfl rfl (by first | assumption | (simp only [zK_sF, zK_sI, zK_sJ, zK_sR]; assumption)) rfl rfl ?_
  exact q_return dX9_init_26 rfl (by decide) (by decide) rfl
set_option maxHeartbeats 4000000 in
set_option maxRecDepth 100000 in
theorem c_X9_numberAt (l : Launch) (G : Gt) (Z : Zt) (a : Nat) (f s c : Int64) (d : Int32) (hK : zK Z a = 9) (h0 : zF Z 0 a = .long f) (h1 : zF Z 1 a = .long s) (h2 : zF Z 2 a = .int d) (h3 : zF Z 3 a = .long c) (k : Int64) : Ct l G YX9_numberAt (0, 0, 0) Z [.ref a, .long k] (ΦL (fun r Z1 => Z1 = Z ∧ r = stAt f s d k)) := by
  refine ct_of [some (.ref a), some (.long k), none] (by decide +kernel) (Nat.le_of_ble_eq_true rfl) rfl (fun M => ?_)
  first | refine q_aload_n dX9_numberAt_0 rfl ?_ | refine q_aload_nN dX9_numberAt_0 rfl ?_
  refine q_getf dX9_numberAt_1 fk_X9_16_8 (by first | assumption | (simp only [zK_sF, zK_sI, zK_sJ, zK_sR]; assumption)) (by first | assumption | (simp only [zF_sF, zF_sI, zF_sJ, zF_sR, true_and, and_true, false_and, and_false, if_true, if_false, eq_self, reduceIte, Nat.reduceEqDiff, OfNat.ofNat_ne_zero, OfNat.zero_ne_ofNat, OfNat.ofNat_ne_one, OfNat.one_ne_ofNat, reduceCtorEq]; first | rfl | assumption)) ?_
  refine q_if_eq 21 dX9_numberAt_4 (by decide) (fun c4 => ?_) (fun c4 => ?_)
  · first | refine q_aload_n dX9_numberAt_21 rfl ?_ | refine q_aload_nN dX9_numberAt_21 rfl ?_
    refine q_getf dX9_numberAt_22 fk_X9_7_8 (by first | assumption | (simp only [zK_sF, zK_sI, zK_sJ, zK_sR]; assumption)) (by first | assumption | (simp only [zF_sF, zF_sI, zF_sJ, zF_sR, true_and, and_true, false_and, and_false, if_true, if_false, eq_self, reduceIte, Nat.reduceEqDiff, OfNat.ofNat_ne_zero, OfNat.zero_ne_ofNat, OfNat.ofNat_ne_one, OfNat.one_ne_ofNat, reduceCtorEq]; first | rfl | assumption)) ?_
    refine q_lload_n dX9_numberAt_25 rfl ?_
    first | refine q_aload_n dX9_numberAt_26 rfl ?_ | refine q_aload_nN dX9_numberAt_26 rfl ?_
    refine q_getf dX9_numberAt_27 fk_X9_13_8 (by first | assumption | (simp only [zK_sF, zK_sI, zK_sJ, zK_sR]; assumption)) (by first | assumption | (simp only [zF_sF, zF_sI, zF_sJ, zF_sR, true_and, and_true, false_and, and_false, if_true, if_false, eq_self, reduceIte, Nat.reduceEqDiff, OfNat.ofNat_ne_zero, OfNat.zero_ne_ofNat, OfNat.ofNat_ne_one, OfNat.one_ne_ofNat, reduceCtorEq]; first | rfl | assumption)) ?_
    refine q_lmul dX9_numberAt_30 ?_
    refine q_ladd dX9_numberAt_31 ?_
    exact q_lreturn dX9_numberAt_32 rfl (by decide) (by decide) (by first | exact ⟨rfl, (if_pos (by assumption)).symm⟩ | exact ⟨rfl, (if_neg (by assumption)).symm⟩)
  · first | refine q_aload_n dX9_numberAt_7 rfl ?_ | refine q_aload_nN dX9_numberAt_7 rfl ?_
    refine q_getf dX9_numberAt_8 fk_X9_7_8 (by first | assumption | (simp only [zK_sF, zK_sI, zK_sJ, zK_sR]; assumption)) (by first | assumption | (simp only [zF_sF, zF_sI, zF_sJ, zF_sR, true_and, and_true, false_and, and_false, if_true, if_false, eq_self, reduceIte, Nat.reduceEqDiff, OfNat.ofNat_ne_zero, OfNat.zero_ne_ofNat, OfNat.ofNat_ne_one, OfNat.one_ne_ofNat, reduceCtorEq]; first | rfl | assumption)) ?_
    refine q_lload_n dX9_numberAt_11 rfl ?_
    first | refine q_aload_n dX9_numberAt_12 rfl ?_ | refine q_aload_nN dX9_numberAt_12 rfl ?_
    refine q_getf dX9_numberAt_13 fk_X9_13_8 (by first | assumption | (simp only [zK_sF, zK_sI, zK_sJ, zK_sR]; assumption)) (by first | assumption | (simp only [zF_sF, zF_sI, zF_sJ, zF_sR, true_and, and_true, false_and, and_false, if_true, if_false, eq_self, reduceIte, Nat.reduceEqDiff, OfNat.ofNat_ne_zero, OfNat.zero_ne_ofNat, OfNat.ofNat_ne_one, OfNat.one_ne_ofNat, reduceCtorEq]; first | rfl | assumption)) ?_
    refine q_lmul dX9_numberAt_16 ?_
    refine q_lsub dX9_numberAt_17 ?_
    refine q_goto 32 dX9_numberAt_18 (by decide) ?_
    exact q_lreturn dX9_numberAt_32 rfl (by decide) (by decide) (by first | exact ⟨rfl, (if_pos (by assumption)).symm⟩ | exact ⟨rfl, (if_neg (by assumption)).symm⟩)
set_option maxHeartbeats 4000000 in
set_option maxRecDepth 100000 in
theorem c_X9_indexOf (l : Launch) (G : Gt) (Z : Zt) (a : Nat) (f s c : Int64) (d : Int32) (hK : zK Z a = 9) (h0 : zF Z 0 a = .long f) (h1 : zF Z 1 a = .long s) (h2 : zF Z 2 a = .int d) (h3 : zF Z 3 a = .long c) (v : Int64) : Ct l G YX9_indexOf (3, 0, 0) Z [.ref a, .long v] (ΦL (fun r Z1 => Z1 = Z ∧ r = stIx f s d c v)) := by
  refine ct_of [some (.ref a), some (.long v), none, none, none, none, none] (by decide +kernel) (Nat.le_of_ble_eq_true rfl) rfl (fun M => ?_)
  first | refine q_aload_n dX9_indexOf_0 rfl ?_ | refine q_aload_nN dX9_indexOf_0 rfl ?_
  refine q_getf dX9_indexOf_1 fk_X9_20_8 (by first | assumption | (simp only [zK_sF, zK_sI, zK_sJ, zK_sR]; assumption)) (by first | assumption | (simp only [zF_sF, zF_sI, zF_sJ, zF_sR, true_and, and_true, false_and, and_false, if_true, if_false, eq_self, reduceIte, Nat.reduceEqDiff, OfNat.ofNat_ne_zero, OfNat.zero_ne_ofNat, OfNat.ofNat_ne_one, OfNat.one_ne_ofNat, reduceCtorEq]; first | rfl | assumption)) ?_
  refine q_lconst (v := 1) dX9_indexOf_4 (by decide) ?_
  refine q_lcmp_lt 37 dX9_indexOf_5 dX9_indexOf_6 (by decide) (fun c5 => ?_) (fun c5 => ?_)
  · refine q_ldc2 dX9_indexOf_37 kl_X9_23 ?_
    exact q_lreturn dX9_indexOf_40 rfl (by decide) (by decide) (by refine ⟨rfl, ?_⟩; first | (simp only [stIx, *, if_true, if_false, reduceIte]; done) | (simp only [stIx, *, if_true, if_false, reduceIte]; rw [if_neg (by decide)]) | (simp only [stIx, *, if_true, if_false, reduceIte]; rw [if_pos (Int64.le_refl _)]))
  · first | refine q_aload_n dX9_indexOf_9 rfl ?_ | refine q_aload_nN dX9_indexOf_9 rfl ?_
    refine q_getf dX9_indexOf_10 fk_X9_16_8 (by first | assumption | (simp only [zK_sF, zK_sI, zK_sJ, zK_sR]; assumption)) (by first | assumption | (simp only [zF_sF, zF_sI, zF_sJ, zF_sR, true_and, and_true, false_and, and_false, if_true, if_false, eq_self, reduceIte, Nat.reduceEqDiff, OfNat.ofNat_ne_zero, OfNat.zero_ne_ofNat, OfNat.ofNat_ne_one, OfNat.one_ne_ofNat, reduceCtorEq]; first | rfl | assumption)) ?_
    refine q_if_eq 28 dX9_indexOf_13 (by decide) (fun c13 => ?_) (fun c13 => ?_)
    · refine q_lload_n dX9_indexOf_28 rfl ?_
      first | refine q_aload_n dX9_indexOf_29 rfl ?_ | refine q_aload_nN dX9_indexOf_29 rfl ?_
      refine q_getf dX9_indexOf_30 fk_X9_7_8 (by first | assumption | (simp only [zK_sF, zK_sI, zK_sJ, zK_sR]; assumption)) (by first | assumption | (simp only [zF_sF, zF_sI, zF_sJ, zF_sR, true_and, and_true, false_and, and_false, if_true, if_false, eq_self, reduceIte, Nat.reduceEqDiff, OfNat.ofNat_ne_zero, OfNat.zero_ne_ofNat, OfNat.ofNat_ne_one, OfNat.one_ne_ofNat, reduceCtorEq]; first | rfl | assumption)) ?_
      refine q_lcmp_ge 41 dX9_indexOf_33 dX9_indexOf_34 (by decide) (fun c33 => ?_) (fun c33 => ?_)
      · refine q_lload_n dX9_indexOf_41 rfl ?_
        first | refine q_aload_n dX9_indexOf_42 rfl ?_ | refine q_aload_nN dX9_indexOf_42 rfl ?_
        refine q_getf dX9_indexOf_43 fk_X9_7_8 (by first | assumption | (simp only [zK_sF, zK_sI, zK_sJ, zK_sR]; assumption)) (by first | assumption | (simp only [zF_sF, zF_sI, zF_sJ, zF_sR, true_and, and_true, false_and, and_false, if_true, if_false, eq_self, reduceIte, Nat.reduceEqDiff, OfNat.ofNat_ne_zero, OfNat.zero_ne_ofNat, OfNat.ofNat_ne_one, OfNat.one_ne_ofNat, reduceCtorEq]; first | rfl | assumption)) ?_
        refine q_lcmp_ne 52 dX9_indexOf_46 dX9_indexOf_47 (by decide) (fun c46 => ?_) (fun c46 => ?_)
        · first | refine q_aload_n dX9_indexOf_52 rfl ?_ | refine q_aload_nN dX9_indexOf_52 rfl ?_
          refine q_getf dX9_indexOf_53 fk_X9_7_8 (by first | assumption | (simp only [zK_sF, zK_sI, zK_sJ, zK_sR]; assumption)) (by first | assumption | (simp only [zF_sF, zF_sI, zF_sJ, zF_sR, true_and, and_true, false_and, and_false, if_true, if_false, eq_self, reduceIte, Nat.reduceEqDiff, OfNat.ofNat_ne_zero, OfNat.zero_ne_ofNat, OfNat.ofNat_ne_one, OfNat.one_ne_ofNat, reduceCtorEq]; first | rfl | assumption)) ?_
          refine q_lload_n dX9_indexOf_56 rfl ?_
          refine q_callSN dX9_indexOf_57 mn_X9_25 (c_X11_gap l G _ f v) rfl np_X11_gap (by decide) (by decide) (by decide) (Nat.le_of_ble_eq_true rfl) (kL (fun r Z1 h => ?_))
          obtain ⟨rfl, rfl⟩ := h
          rw [show (if f < v then v - f else f - v) = gpf f v from rfl]
          refine q_lstore_n (ls' := [_, _, _, _, _, _, _]) dX9_indexOf_60 rfl rfl (Nat.le_of_ble_eq_true rfl) (by decide) ?_
          first | refine q_aload_n dX9_indexOf_61 rfl ?_ | refine q_aload_nN dX9_indexOf_61 rfl ?_
          refine q_getf dX9_indexOf_62 fk_X9_20_8 (by first | assumption | (simp only [zK_sF, zK_sI, zK_sJ, zK_sR]; assumption)) (by first | assumption | (simp only [zF_sF, zF_sI, zF_sJ, zF_sR, true_and, and_true, false_and, and_false, if_true, if_false, eq_self, reduceIte, Nat.reduceEqDiff, OfNat.ofNat_ne_zero, OfNat.zero_ne_ofNat, OfNat.ofNat_ne_one, OfNat.one_ne_ofNat, reduceCtorEq]; first | rfl | assumption)) ?_
          refine q_lconst (v := 1) dX9_indexOf_65 (by decide) ?_
          refine q_lcmp_eq 92 dX9_indexOf_66 dX9_indexOf_67 (by decide) (fun c66 => ?_) (fun c66 => ?_)
          · refine q_ldc2 dX9_indexOf_92 kl_X9_23 ?_
            exact q_lreturn dX9_indexOf_95 rfl (by decide) (by decide) (by refine ⟨rfl, ?_⟩; first | (simp only [stIx, *, if_true, if_false, reduceIte]; done) | (simp only [stIx, *, if_true, if_false, reduceIte]; rw [if_neg (by decide)]) | (simp only [stIx, *, if_true, if_false, reduceIte]; rw [if_pos (Int64.le_refl _)]))
          · first | refine q_aload_n dX9_indexOf_70 rfl ?_ | refine q_aload_nN dX9_indexOf_70 rfl ?_
            refine q_getf dX9_indexOf_71 fk_X9_13_8 (by first | assumption | (simp only [zK_sF, zK_sI, zK_sJ, zK_sR]; assumption)) (by first | assumption | (simp only [zF_sF, zF_sI, zF_sJ, zF_sR, true_and, and_true, false_and, and_false, if_true, if_false, eq_self, reduceIte, Nat.reduceEqDiff, OfNat.ofNat_ne_zero, OfNat.zero_ne_ofNat, OfNat.ofNat_ne_one, OfNat.one_ne_ofNat, reduceCtorEq]; first | rfl | assumption)) ?_
            refine q_lconst (v := 0) dX9_indexOf_74 (by decide) ?_
            refine q_lcmp_eq 92 dX9_indexOf_75 dX9_indexOf_76 (by decide) (fun c75 => ?_) (fun c75 => ?_)
            · refine q_ldc2 dX9_indexOf_92 kl_X9_23 ?_
              exact q_lreturn dX9_indexOf_95 rfl (by decide) (by decide) (by refine ⟨rfl, ?_⟩; first | (simp only [stIx, *, if_true, if_false, reduceIte]; done) | (simp only [stIx, *, if_true, if_false, reduceIte]; rw [if_neg (by decide)]) | (simp only [stIx, *, if_true, if_false, reduceIte]; rw [if_pos (Int64.le_refl _)]))
            · refine q_lload_n dX9_indexOf_79 rfl ?_
              first | refine q_aload_n dX9_indexOf_80 rfl ?_ | refine q_aload_nN dX9_indexOf_80 rfl ?_
              refine q_getf dX9_indexOf_81 fk_X9_13_8 (by first | assumption | (simp only [zK_sF, zK_sI, zK_sJ, zK_sR]; assumption)) (by first | assumption | (simp only [zF_sF, zF_sI, zF_sJ, zF_sR, true_and, and_true, false_and, and_false, if_true, if_false, eq_self, reduceIte, Nat.reduceEqDiff, OfNat.ofNat_ne_zero, OfNat.zero_ne_ofNat, OfNat.ofNat_ne_one, OfNat.one_ne_ofNat, reduceCtorEq]; first | rfl | assumption)) ?_
              refine q_callSN dX9_indexOf_84 mn_X9_31 (c_X11_unsignedRest l G _ (gpf f v) s) rfl np_X11_unsignedRest (by decide) (by decide) (by decide) (Nat.le_of_ble_eq_true rfl) (kL (fun r Z1 h => ?_))
              obtain ⟨rfl, rfl⟩ := h
              refine q_lconst (v := 0) dX9_indexOf_87 (by decide) ?_
              refine q_lcmp_eq 96 dX9_indexOf_88 dX9_indexOf_89 (by decide) (fun c88 => ?_) (fun c88 => ?_)
              · refine q_lload_n dX9_indexOf_96 rfl ?_
                first | refine q_aload_n dX9_indexOf_97 rfl ?_ | refine q_aload_nN dX9_indexOf_97 rfl ?_
                refine q_getf dX9_indexOf_98 fk_X9_13_8 (by first | assumption | (simp only [zK_sF, zK_sI, zK_sJ, zK_sR]; assumption)) (by first | assumption | (simp only [zF_sF, zF_sI, zF_sJ, zF_sR, true_and, and_true, false_and, and_false, if_true, if_false, eq_self, reduceIte, Nat.reduceEqDiff, OfNat.ofNat_ne_zero, OfNat.zero_ne_ofNat, OfNat.ofNat_ne_one, OfNat.one_ne_ofNat, reduceCtorEq]; first | rfl | assumption)) ?_
                refine q_callSN dX9_indexOf_101 mn_X9_34 (c_X11_unsignedQuotient l G _ (gpf f v) s) rfl np_X11_unsignedQuotient (by decide) (by decide) (by decide) (Nat.le_of_ble_eq_true rfl) (kL (fun r Z1 h => ?_))
                obtain ⟨rfl, rfl⟩ := h
                refine q_lstore (ls' := [_, _, _, _, _, _, _]) dX9_indexOf_104 rfl rfl (Nat.le_of_ble_eq_true rfl) (by decide) ?_
                refine q_lload dX9_indexOf_106 rfl ?_
                refine q_lconst (v := 0) dX9_indexOf_108 (by decide) ?_
                refine q_lcmp_le 128 dX9_indexOf_109 dX9_indexOf_110 (by decide) (fun c109 => ?_) (fun c109 => ?_)
                · refine q_ldc2 dX9_indexOf_128 kl_X9_23 ?_
                  exact q_lreturn dX9_indexOf_131 rfl (by decide) (by decide) (by refine ⟨rfl, ?_⟩; first | (simp only [stIx, *, if_true, if_false, reduceIte]; done) | (simp only [stIx, *, if_true, if_false, reduceIte]; rw [if_neg (by decide)]) | (simp only [stIx, *, if_true, if_false, reduceIte]; rw [if_pos (Int64.le_refl _)]))
                · refine q_lload dX9_indexOf_113 rfl ?_
                  first | refine q_aload_n dX9_indexOf_115 rfl ?_ | refine q_aload_nN dX9_indexOf_115 rfl ?_
                  refine q_getf dX9_indexOf_116 fk_X9_20_8 (by first | assumption | (simp only [zK_sF, zK_sI, zK_sJ, zK_sR]; assumption)) (by first | assumption | (simp only [zF_sF, zF_sI, zF_sJ, zF_sR, true_and, and_true, false_and, and_false, if_true, if_false, eq_self, reduceIte, Nat.reduceEqDiff, OfNat.ofNat_ne_zero, OfNat.zero_ne_ofNat, OfNat.ofNat_ne_one, OfNat.one_ne_ofNat, reduceCtorEq]; first | rfl | assumption)) ?_
                  refine q_lcmp_ge 128 dX9_indexOf_119 dX9_indexOf_120 (by decide) (fun c119 => ?_) (fun c119 => ?_)
                  · refine q_ldc2 dX9_indexOf_128 kl_X9_23 ?_
                    exact q_lreturn dX9_indexOf_131 rfl (by decide) (by decide) (by refine ⟨rfl, ?_⟩; first | (simp only [stIx, *, if_true, if_false, reduceIte]; done) | (simp only [stIx, *, if_true, if_false, reduceIte]; rw [if_neg (by decide)]) | (simp only [stIx, *, if_true, if_false, reduceIte]; rw [if_pos (Int64.le_refl _)]))
                  · refine q_lload dX9_indexOf_123 rfl ?_
                    refine q_goto 131 dX9_indexOf_125 (by decide) ?_
                    exact q_lreturn dX9_indexOf_131 rfl (by decide) (by decide) (by refine ⟨rfl, ?_⟩; first | (simp only [stIx, *, if_true, if_false, reduceIte]; done) | (simp only [stIx, *, if_true, if_false, reduceIte]; rw [if_neg (by decide)]) | (simp only [stIx, *, if_true, if_false, reduceIte]; rw [if_pos (Int64.le_refl _)]))
              · refine q_ldc2 dX9_indexOf_92 kl_X9_23 ?_
                exact q_lreturn dX9_indexOf_95 rfl (by decide) (by decide) (by refine ⟨rfl, ?_⟩; first | (simp only [stIx, *, if_true, if_false, reduceIte]; done) | (simp only [stIx, *, if_true, if_false, reduceIte]; rw [if_neg (by decide)]) | (simp only [stIx, *, if_true, if_false, reduceIte]; rw [if_pos (Int64.le_refl _)]))
        · refine q_lconst (v := 0) dX9_indexOf_50 (by decide) ?_
          exact q_lreturn dX9_indexOf_51 rfl (by decide) (by decide) (by refine ⟨rfl, ?_⟩; first | (simp only [stIx, *, if_true, if_false, reduceIte]; done) | (simp only [stIx, *, if_true, if_false, reduceIte]; rw [if_neg (by decide)]) | (simp only [stIx, *, if_true, if_false, reduceIte]; rw [if_pos (Int64.le_refl _)]))
      · refine q_ldc2 dX9_indexOf_37 kl_X9_23 ?_
        exact q_lreturn dX9_indexOf_40 rfl (by decide) (by decide) (by refine ⟨rfl, ?_⟩; first | (simp only [stIx, *, if_true, if_false, reduceIte]; done) | (simp only [stIx, *, if_true, if_false, reduceIte]; rw [if_neg (by decide)]) | (simp only [stIx, *, if_true, if_false, reduceIte]; rw [if_pos (Int64.le_refl _)]))
    · refine q_lload_n dX9_indexOf_16 rfl ?_
      first | refine q_aload_n dX9_indexOf_17 rfl ?_ | refine q_aload_nN dX9_indexOf_17 rfl ?_
      refine q_getf dX9_indexOf_18 fk_X9_7_8 (by first | assumption | (simp only [zK_sF, zK_sI, zK_sJ, zK_sR]; assumption)) (by first | assumption | (simp only [zF_sF, zF_sI, zF_sJ, zF_sR, true_and, and_true, false_and, and_false, if_true, if_false, eq_self, reduceIte, Nat.reduceEqDiff, OfNat.ofNat_ne_zero, OfNat.zero_ne_ofNat, OfNat.ofNat_ne_one, OfNat.one_ne_ofNat, reduceCtorEq]; first | rfl | assumption)) ?_
      refine q_lcmp_le 41 dX9_indexOf_21 dX9_indexOf_22 (by decide) (fun c21 => ?_) (fun c21 => ?_)
      · refine q_lload_n dX9_indexOf_41 rfl ?_
        first | refine q_aload_n dX9_indexOf_42 rfl ?_ | refine q_aload_nN dX9_indexOf_42 rfl ?_
        refine q_getf dX9_indexOf_43 fk_X9_7_8 (by first | assumption | (simp only [zK_sF, zK_sI, zK_sJ, zK_sR]; assumption)) (by first | assumption | (simp only [zF_sF, zF_sI, zF_sJ, zF_sR, true_and, and_true, false_and, and_false, if_true, if_false, eq_self, reduceIte, Nat.reduceEqDiff, OfNat.ofNat_ne_zero, OfNat.zero_ne_ofNat, OfNat.ofNat_ne_one, OfNat.one_ne_ofNat, reduceCtorEq]; first | rfl | assumption)) ?_
        refine q_lcmp_ne 52 dX9_indexOf_46 dX9_indexOf_47 (by decide) (fun c46 => ?_) (fun c46 => ?_)
        · first | refine q_aload_n dX9_indexOf_52 rfl ?_ | refine q_aload_nN dX9_indexOf_52 rfl ?_
          refine q_getf dX9_indexOf_53 fk_X9_7_8 (by first | assumption | (simp only [zK_sF, zK_sI, zK_sJ, zK_sR]; assumption)) (by first | assumption | (simp only [zF_sF, zF_sI, zF_sJ, zF_sR, true_and, and_true, false_and, and_false, if_true, if_false, eq_self, reduceIte, Nat.reduceEqDiff, OfNat.ofNat_ne_zero, OfNat.zero_ne_ofNat, OfNat.ofNat_ne_one, OfNat.one_ne_ofNat, reduceCtorEq]; first | rfl | assumption)) ?_
          refine q_lload_n dX9_indexOf_56 rfl ?_
          refine q_callSN dX9_indexOf_57 mn_X9_25 (c_X11_gap l G _ f v) rfl np_X11_gap (by decide) (by decide) (by decide) (Nat.le_of_ble_eq_true rfl) (kL (fun r Z1 h => ?_))
          obtain ⟨rfl, rfl⟩ := h
          rw [show (if f < v then v - f else f - v) = gpf f v from rfl]
          refine q_lstore_n (ls' := [_, _, _, _, _, _, _]) dX9_indexOf_60 rfl rfl (Nat.le_of_ble_eq_true rfl) (by decide) ?_
          first | refine q_aload_n dX9_indexOf_61 rfl ?_ | refine q_aload_nN dX9_indexOf_61 rfl ?_
          refine q_getf dX9_indexOf_62 fk_X9_20_8 (by first | assumption | (simp only [zK_sF, zK_sI, zK_sJ, zK_sR]; assumption)) (by first | assumption | (simp only [zF_sF, zF_sI, zF_sJ, zF_sR, true_and, and_true, false_and, and_false, if_true, if_false, eq_self, reduceIte, Nat.reduceEqDiff, OfNat.ofNat_ne_zero, OfNat.zero_ne_ofNat, OfNat.ofNat_ne_one, OfNat.one_ne_ofNat, reduceCtorEq]; first | rfl | assumption)) ?_
          refine q_lconst (v := 1) dX9_indexOf_65 (by decide) ?_
          refine q_lcmp_eq 92 dX9_indexOf_66 dX9_indexOf_67 (by decide) (fun c66 => ?_) (fun c66 => ?_)
          · refine q_ldc2 dX9_indexOf_92 kl_X9_23 ?_
            exact q_lreturn dX9_indexOf_95 rfl (by decide) (by decide) (by refine ⟨rfl, ?_⟩; first | (simp only [stIx, *, if_true, if_false, reduceIte]; done) | (simp only [stIx, *, if_true, if_false, reduceIte]; rw [if_neg (by decide)]) | (simp only [stIx, *, if_true, if_false, reduceIte]; rw [if_pos (Int64.le_refl _)]))
          · first | refine q_aload_n dX9_indexOf_70 rfl ?_ | refine q_aload_nN dX9_indexOf_70 rfl ?_
            refine q_getf dX9_indexOf_71 fk_X9_13_8 (by first | assumption | (simp only [zK_sF, zK_sI, zK_sJ, zK_sR]; assumption)) (by first | assumption | (simp only [zF_sF, zF_sI, zF_sJ, zF_sR, true_and, and_true, false_and, and_false, if_true, if_false, eq_self, reduceIte, Nat.reduceEqDiff, OfNat.ofNat_ne_zero, OfNat.zero_ne_ofNat, OfNat.ofNat_ne_one, OfNat.one_ne_ofNat, reduceCtorEq]; first | rfl | assumption)) ?_
            refine q_lconst (v := 0) dX9_indexOf_74 (by decide) ?_
            refine q_lcmp_eq 92 dX9_indexOf_75 dX9_indexOf_76 (by decide) (fun c75 => ?_) (fun c75 => ?_)
            · refine q_ldc2 dX9_indexOf_92 kl_X9_23 ?_
              exact q_lreturn dX9_indexOf_95 rfl (by decide) (by decide) (by refine ⟨rfl, ?_⟩; first | (simp only [stIx, *, if_true, if_false, reduceIte]; done) | (simp only [stIx, *, if_true, if_false, reduceIte]; rw [if_neg (by decide)]) | (simp only [stIx, *, if_true, if_false, reduceIte]; rw [if_pos (Int64.le_refl _)]))
            · refine q_lload_n dX9_indexOf_79 rfl ?_
              first | refine q_aload_n dX9_indexOf_80 rfl ?_ | refine q_aload_nN dX9_indexOf_80 rfl ?_
              refine q_getf dX9_indexOf_81 fk_X9_13_8 (by first | assumption | (simp only [zK_sF, zK_sI, zK_sJ, zK_sR]; assumption)) (by first | assumption | (simp only [zF_sF, zF_sI, zF_sJ, zF_sR, true_and, and_true, false_and, and_false, if_true, if_false, eq_self, reduceIte, Nat.reduceEqDiff, OfNat.ofNat_ne_zero, OfNat.zero_ne_ofNat, OfNat.ofNat_ne_one, OfNat.one_ne_ofNat, reduceCtorEq]; first | rfl | assumption)) ?_
              refine q_callSN dX9_indexOf_84 mn_X9_31 (c_X11_unsignedRest l G _ (gpf f v) s) rfl np_X11_unsignedRest (by decide) (by decide) (by decide) (Nat.le_of_ble_eq_true rfl) (kL (fun r Z1 h => ?_))
              obtain ⟨rfl, rfl⟩ := h
              refine q_lconst (v := 0) dX9_indexOf_87 (by decide) ?_
              refine q_lcmp_eq 96 dX9_indexOf_88 dX9_indexOf_89 (by decide) (fun c88 => ?_) (fun c88 => ?_)
              · refine q_lload_n dX9_indexOf_96 rfl ?_
                first | refine q_aload_n dX9_indexOf_97 rfl ?_ | refine q_aload_nN dX9_indexOf_97 rfl ?_
                refine q_getf dX9_indexOf_98 fk_X9_13_8 (by first | assumption | (simp only [zK_sF, zK_sI, zK_sJ, zK_sR]; assumption)) (by first | assumption | (simp only [zF_sF, zF_sI, zF_sJ, zF_sR, true_and, and_true, false_and, and_false, if_true, if_false, eq_self, reduceIte, Nat.reduceEqDiff, OfNat.ofNat_ne_zero, OfNat.zero_ne_ofNat, OfNat.ofNat_ne_one, OfNat.one_ne_ofNat, reduceCtorEq]; first | rfl | assumption)) ?_
                refine q_callSN dX9_indexOf_101 mn_X9_34 (c_X11_unsignedQuotient l G _ (gpf f v) s) rfl np_X11_unsignedQuotient (by decide) (by decide) (by decide) (Nat.le_of_ble_eq_true rfl) (kL (fun r Z1 h => ?_))
                obtain ⟨rfl, rfl⟩ := h
                refine q_lstore (ls' := [_, _, _, _, _, _, _]) dX9_indexOf_104 rfl rfl (Nat.le_of_ble_eq_true rfl) (by decide) ?_
                refine q_lload dX9_indexOf_106 rfl ?_
                refine q_lconst (v := 0) dX9_indexOf_108 (by decide) ?_
                refine q_lcmp_le 128 dX9_indexOf_109 dX9_indexOf_110 (by decide) (fun c109 => ?_) (fun c109 => ?_)
                · refine q_ldc2 dX9_indexOf_128 kl_X9_23 ?_
                  exact q_lreturn dX9_indexOf_131 rfl (by decide) (by decide) (by refine ⟨rfl, ?_⟩; first | (simp only [stIx, *, if_true, if_false, reduceIte]; done) | (simp only [stIx, *, if_true, if_false, reduceIte]; rw [if_neg (by decide)]) | (simp only [stIx, *, if_true, if_false, reduceIte]; rw [if_pos (Int64.le_refl _)]))
                · refine q_lload dX9_indexOf_113 rfl ?_
                  first | refine q_aload_n dX9_indexOf_115 rfl ?_ | refine q_aload_nN dX9_indexOf_115 rfl ?_
                  refine q_getf dX9_indexOf_116 fk_X9_20_8 (by first | assumption | (simp only [zK_sF, zK_sI, zK_sJ, zK_sR]; assumption)) (by first | assumption | (simp only [zF_sF, zF_sI, zF_sJ, zF_sR, true_and, and_true, false_and, and_false, if_true, if_false, eq_self, reduceIte, Nat.reduceEqDiff, OfNat.ofNat_ne_zero, OfNat.zero_ne_ofNat, OfNat.ofNat_ne_one, OfNat.one_ne_ofNat, reduceCtorEq]; first | rfl | assumption)) ?_
                  refine q_lcmp_ge 128 dX9_indexOf_119 dX9_indexOf_120 (by decide) (fun c119 => ?_) (fun c119 => ?_)
                  · refine q_ldc2 dX9_indexOf_128 kl_X9_23 ?_
                    exact q_lreturn dX9_indexOf_131 rfl (by decide) (by decide) (by refine ⟨rfl, ?_⟩; first | (simp only [stIx, *, if_true, if_false, reduceIte]; done) | (simp only [stIx, *, if_true, if_false, reduceIte]; rw [if_neg (by decide)]) | (simp only [stIx, *, if_true, if_false, reduceIte]; rw [if_pos (Int64.le_refl _)]))
                  · refine q_lload dX9_indexOf_123 rfl ?_
                    refine q_goto 131 dX9_indexOf_125 (by decide) ?_
                    exact q_lreturn dX9_indexOf_131 rfl (by decide) (by decide) (by refine ⟨rfl, ?_⟩; first | (simp only [stIx, *, if_true, if_false, reduceIte]; done) | (simp only [stIx, *, if_true, if_false, reduceIte]; rw [if_neg (by decide)]) | (simp only [stIx, *, if_true, if_false, reduceIte]; rw [if_pos (Int64.le_refl _)]))
              · refine q_ldc2 dX9_indexOf_92 kl_X9_23 ?_
                exact q_lreturn dX9_indexOf_95 rfl (by decide) (by decide) (by refine ⟨rfl, ?_⟩; first | (simp only [stIx, *, if_true, if_false, reduceIte]; done) | (simp only [stIx, *, if_true, if_false, reduceIte]; rw [if_neg (by decide)]) | (simp only [stIx, *, if_true, if_false, reduceIte]; rw [if_pos (Int64.le_refl _)]))
        · refine q_lconst (v := 0) dX9_indexOf_50 (by decide) ?_
          exact q_lreturn dX9_indexOf_51 rfl (by decide) (by decide) (by refine ⟨rfl, ?_⟩; first | (simp only [stIx, *, if_true, if_false, reduceIte]; done) | (simp only [stIx, *, if_true, if_false, reduceIte]; rw [if_neg (by decide)]) | (simp only [stIx, *, if_true, if_false, reduceIte]; rw [if_pos (Int64.le_refl _)]))
      · refine q_goto 37 dX9_indexOf_25 (by decide) ?_
        refine q_ldc2 dX9_indexOf_37 kl_X9_23 ?_
        exact q_lreturn dX9_indexOf_40 rfl (by decide) (by decide) (by refine ⟨rfl, ?_⟩; first | (simp only [stIx, *, if_true, if_false, reduceIte]; done) | (simp only [stIx, *, if_true, if_false, reduceIte]; rw [if_neg (by decide)]) | (simp only [stIx, *, if_true, if_false, reduceIte]; rw [if_pos (Int64.le_refl _)]))
set_option maxHeartbeats 4000000 in
set_option maxRecDepth 100000 in
theorem c_X9_turned (l : Launch) (G : Gt) (Z : Zt) (a : Nat) (f s c : Int64) (d : Int32) (hK : zK Z a = 9) (h0 : zF Z 0 a = .long f) (h1 : zF Z 1 a = .long s) (h2 : zF Z 2 a = .int d) (h3 : zF Z 3 a = .long c) (hN : a ≠ zN Z) (hd : d = 0 ∨ d = 1) : Ct l G YX9_turned (2, 1, 4) Z [.ref a] (ΦA (fun r Z1 => (c < 1 → r = some a ∧ Z1 = Z) ∧ (¬ c < 1 → r = some (zN Z) ∧ Z1 = nSt Z (stAt f s d (c - 1)) s (if d = 0 then 1 else 0) c))) := by
  refine ct_of [some (.ref a)] (by decide +kernel) (Nat.le_of_ble_eq_true rfl) rfl (fun M => ?_)
  first | refine q_aload_n dX9_turned_0 rfl ?_ | refine q_aload_nN dX9_turned_0 rfl ?_
  refine q_getf dX9_turned_1 fk_X9_20_8 (by first | assumption | (simp only [zK_sF, zK_sI, zK_sJ, zK_sR]; assumption)) (by first | assumption | (simp only [zF_sF, zF_sI, zF_sJ, zF_sR, true_and, and_true, false_and, and_false, if_true, if_false, eq_self, reduceIte, Nat.reduceEqDiff, OfNat.ofNat_ne_zero, OfNat.zero_ne_ofNat, OfNat.ofNat_ne_one, OfNat.one_ne_ofNat, reduceCtorEq]; first | rfl | assumption)) ?_
  refine q_lconst (v := 1) dX9_turned_4 (by decide) ?_
  refine q_lcmp_ge 13 dX9_turned_5 dX9_turned_6 (by decide) (fun c5 => ?_) (fun c5 => ?_)
  · refine q_new dX9_turned_13 nk_X9_8 rfl (by decide) (by decide) ?_
    refine q_dup dX9_turned_16 rfl ?_
    first | refine q_aload_n dX9_turned_17 rfl ?_ | refine q_aload_nN dX9_turned_17 rfl ?_
    first | refine q_aload_n dX9_turned_18 rfl ?_ | refine q_aload_nN dX9_turned_18 rfl ?_
    refine q_getf dX9_turned_19 fk_X9_20_8 (by first | (rw [zK_nO hN]; exact hK) | exact zK_nO') ((zF_nO hN).trans h3) ?_
    refine q_lconst (v := 1) dX9_turned_22 (by decide) ?_
    refine q_lsub dX9_turned_23 ?_
    refine q_callV 8 dX9_turned_24 mk_X9_37 rfl (by first | (rw [zK_nO hN]; exact hK) | exact zK_nO') (c_X9_numberAt l G _ a f s c d (by first | (rw [zK_nO hN]; exact hK) | exact zK_nO') ((zF_nO hN).trans h0) ((zF_nO hN).trans h1) ((zF_nO hN).trans h2) ((zF_nO hN).trans h3) (c - 1)) rfl np_X9_numberAt (by decide) (by decide) (by decide) (Nat.le_of_ble_eq_true rfl) (kL (fun r Z1 h => ?_))
    obtain ⟨rfl, rfl⟩ := h
    first | refine q_aload_n dX9_turned_27 rfl ?_ | refine q_aload_nN dX9_turned_27 rfl ?_
    refine q_getf dX9_turned_28 fk_X9_13_8 (by first | (rw [zK_nO hN]; exact hK) | exact zK_nO') ((zF_nO hN).trans h1) ?_
    first | refine q_aload_n dX9_turned_31 rfl ?_ | refine q_aload_nN dX9_turned_31 rfl ?_
    refine q_getf dX9_turned_32 fk_X9_16_8 (by first | (rw [zK_nO hN]; exact hK) | exact zK_nO') ((zF_nO hN).trans h2) ?_
    refine q_if_ne 42 dX9_turned_35 (by decide) (fun c35 => ?_) (fun c35 => ?_)
    · refine q_iconst (v := 0) dX9_turned_42 (by decide) ?_
      first | refine q_aload_n dX9_turned_43 rfl ?_ | refine q_aload_nN dX9_turned_43 rfl ?_
      refine q_getf dX9_turned_44 fk_X9_20_8 (by first | (rw [zK_nO hN]; exact hK) | exact zK_nO') ((zF_nO hN).trans h3) ?_
      refine q_callI dX9_turned_47 mk_X9_41 rfl (c_X9_init l G _ (zN Z) _ s c _ zK_nO' (by first | exact Or.inl rfl | exact Or.inr rfl)) rfl np_X9_init (by decide) (by decide) (by decide) (Nat.le_of_ble_eq_true rfl) (kV (fun Z1 h => ?_))
      subst h
      first | exact q_areturn dX9_turned_50 rfl (Or.inl ⟨_, rfl⟩) (by decide) (by decide) (by first | exact ⟨fun _ => ⟨rfl, rfl⟩, fun z => absurd (Int64.not_le.mp (by assumption)) z⟩ | (refine ⟨fun z => absurd z (Int64.not_lt.mpr (by assumption)), fun _ => ⟨rfl, ?_⟩⟩; first | rw [if_pos (by assumption)]; rfl | rw [if_neg (by assumption)]; rfl)) | exact q_areturnN dX9_turned_50 rfl (Or.inl ⟨_, rfl⟩) (by decide) (by decide) (by first | exact ⟨fun _ => ⟨rfl, rfl⟩, fun z => absurd (Int64.not_le.mp (by assumption)) z⟩ | (refine ⟨fun z => absurd z (Int64.not_lt.mpr (by assumption)), fun _ => ⟨rfl, ?_⟩⟩; first | rw [if_pos (by assumption)]; rfl | rw [if_neg (by assumption)]; rfl))
    · refine q_iconst (v := 1) dX9_turned_38 (by decide) ?_
      refine q_goto 43 dX9_turned_39 (by decide) ?_
      first | refine q_aload_n dX9_turned_43 rfl ?_ | refine q_aload_nN dX9_turned_43 rfl ?_
      refine q_getf dX9_turned_44 fk_X9_20_8 (by first | (rw [zK_nO hN]; exact hK) | exact zK_nO') ((zF_nO hN).trans h3) ?_
      refine q_callI dX9_turned_47 mk_X9_41 rfl (c_X9_init l G _ (zN Z) _ s c _ zK_nO' (by first | exact Or.inl rfl | exact Or.inr rfl)) rfl np_X9_init (by decide) (by decide) (by decide) (Nat.le_of_ble_eq_true rfl) (kV (fun Z1 h => ?_))
      subst h
      first | exact q_areturn dX9_turned_50 rfl (Or.inl ⟨_, rfl⟩) (by decide) (by decide) (by first | exact ⟨fun _ => ⟨rfl, rfl⟩, fun z => absurd (Int64.not_le.mp (by assumption)) z⟩ | (refine ⟨fun z => absurd z (Int64.not_lt.mpr (by assumption)), fun _ => ⟨rfl, ?_⟩⟩; first | rw [if_pos (by assumption)]; rfl | rw [if_neg (by assumption)]; rfl)) | exact q_areturnN dX9_turned_50 rfl (Or.inl ⟨_, rfl⟩) (by decide) (by decide) (by first | exact ⟨fun _ => ⟨rfl, rfl⟩, fun z => absurd (Int64.not_le.mp (by assumption)) z⟩ | (refine ⟨fun z => absurd z (Int64.not_lt.mpr (by assumption)), fun _ => ⟨rfl, ?_⟩⟩; first | rw [if_pos (by assumption)]; rfl | rw [if_neg (by assumption)]; rfl))
  · first | refine q_aload_n dX9_turned_9 rfl ?_ | refine q_aload_nN dX9_turned_9 rfl ?_
    refine q_goto 50 dX9_turned_10 (by decide) ?_
    first | exact q_areturn dX9_turned_50 rfl (Or.inl ⟨_, rfl⟩) (by decide) (by decide) (by first | exact ⟨fun _ => ⟨rfl, rfl⟩, fun z => absurd (Int64.not_le.mp (by assumption)) z⟩ | (refine ⟨fun z => absurd z (Int64.not_lt.mpr (by assumption)), fun _ => ⟨rfl, ?_⟩⟩; first | rw [if_pos (by assumption)]; rfl | rw [if_neg (by assumption)]; rfl)) | exact q_areturnN dX9_turned_50 rfl (Or.inl ⟨_, rfl⟩) (by decide) (by decide) (by first | exact ⟨fun _ => ⟨rfl, rfl⟩, fun z => absurd (Int64.not_le.mp (by assumption)) z⟩ | (refine ⟨fun z => absurd z (Int64.not_lt.mpr (by assumption)), fun _ => ⟨rfl, ?_⟩⟩; first | rw [if_pos (by assumption)]; rfl | rw [if_neg (by assumption)]; rfl))
set_option maxHeartbeats 4000000 in
set_option maxRecDepth 100000 in
theorem c_X9_every (l : Launch) (G : Gt) (Z : Zt) (a : Nat) (f s c : Int64) (d : Int32) (hK : zK Z a = 9) (h0 : zF Z 0 a = .long f) (h1 : zF Z 1 a = .long s) (h2 : zF Z 2 a = .int d) (h3 : zF Z 3 a = .long c) (hN : a ≠ zN Z) (n : Int32) (hn : ¬ n.toInt64 = 0) (hd : d = 0 ∨ d = 1) : Ct l G YX9_every (2, 1, 4) Z [.ref a, .int n] (ΦA (fun r Z1 => ((c < 1 ∨ ¬ 1 ≤ n) → r = some a ∧ Z1 = Z) ∧ (¬ (c < 1 ∨ ¬ 1 ≤ n) → r = some (zN Z) ∧ Z1 = nSt Z f (s * n.toInt64) d ((c - 1) / n.toInt64 + 1)))) := by
  refine ct_of [some (.ref a), some (.int n)] (by decide +kernel) (Nat.le_of_ble_eq_true rfl) rfl (fun M => ?_)
  first | refine q_aload_n dX9_every_0 rfl ?_ | refine q_aload_nN dX9_every_0 rfl ?_
  refine q_getf dX9_every_1 fk_X9_20_8 (by first | assumption | (simp only [zK_sF, zK_sI, zK_sJ, zK_sR]; assumption)) (by first | assumption | (simp only [zF_sF, zF_sI, zF_sJ, zF_sR, true_and, and_true, false_and, and_false, if_true, if_false, eq_self, reduceIte, Nat.reduceEqDiff, OfNat.ofNat_ne_zero, OfNat.zero_ne_ofNat, OfNat.ofNat_ne_one, OfNat.one_ne_ofNat, reduceCtorEq]; first | rfl | assumption)) ?_
  refine q_lconst (v := 1) dX9_every_4 (by decide) ?_
  refine q_lcmp_lt 14 dX9_every_5 dX9_every_6 (by decide) (fun c5 => ?_) (fun c5 => ?_)
  · first | refine q_aload_n dX9_every_14 rfl ?_ | refine q_aload_nN dX9_every_14 rfl ?_
    refine q_goto 51 dX9_every_15 (by decide) ?_
    first | exact q_areturn dX9_every_51 rfl (Or.inl ⟨_, rfl⟩) (by decide) (by decide) (by first | exact ⟨fun _ => ⟨rfl, rfl⟩, fun z => absurd (by first | exact Or.inl (by assumption) | exact Or.inr (by assumption)) z⟩ | exact ⟨fun z => absurd z (fun z => z.elim (by assumption) (fun z => z (by assumption))), fun _ => ⟨rfl, rfl⟩⟩) | exact q_areturnN dX9_every_51 rfl (Or.inl ⟨_, rfl⟩) (by decide) (by decide) (by first | exact ⟨fun _ => ⟨rfl, rfl⟩, fun z => absurd (by first | exact Or.inl (by assumption) | exact Or.inr (by assumption)) z⟩ | exact ⟨fun z => absurd z (fun z => z.elim (by assumption) (fun z => z (by assumption))), fun _ => ⟨rfl, rfl⟩⟩)
  · refine q_iload_n dX9_every_9 rfl ?_
    refine q_iconst (v := 1) dX9_every_10 (by decide) ?_
    refine q_icmp_ge 18 dX9_every_11 (by decide) (fun c11 => ?_) (fun c11 => ?_)
    · refine q_new dX9_every_18 nk_X9_8 rfl (by decide) (by decide) ?_
      refine q_dup dX9_every_21 rfl ?_
      first | refine q_aload_n dX9_every_22 rfl ?_ | refine q_aload_nN dX9_every_22 rfl ?_
      refine q_getf dX9_every_23 fk_X9_7_8 (by first | (rw [zK_nO hN]; exact hK) | exact zK_nO') ((zF_nO hN).trans h0) ?_
      first | refine q_aload_n dX9_every_26 rfl ?_ | refine q_aload_nN dX9_every_26 rfl ?_
      refine q_getf dX9_every_27 fk_X9_13_8 (by first | (rw [zK_nO hN]; exact hK) | exact zK_nO') ((zF_nO hN).trans h1) ?_
      refine q_iload_n dX9_every_30 rfl ?_
      refine q_i2l dX9_every_31 ?_
      refine q_lmul dX9_every_32 ?_
      first | refine q_aload_n dX9_every_33 rfl ?_ | refine q_aload_nN dX9_every_33 rfl ?_
      refine q_getf dX9_every_34 fk_X9_16_8 (by first | (rw [zK_nO hN]; exact hK) | exact zK_nO') ((zF_nO hN).trans h2) ?_
      first | refine q_aload_n dX9_every_37 rfl ?_ | refine q_aload_nN dX9_every_37 rfl ?_
      refine q_getf dX9_every_38 fk_X9_20_8 (by first | (rw [zK_nO hN]; exact hK) | exact zK_nO') ((zF_nO hN).trans h3) ?_
      refine q_lconst (v := 1) dX9_every_41 (by decide) ?_
      refine q_lsub dX9_every_42 ?_
      refine q_iload_n dX9_every_43 rfl ?_
      refine q_i2l dX9_every_44 ?_
      refine q_ldiv dX9_every_45 hn ?_
      refine q_lconst (v := 1) dX9_every_46 (by decide) ?_
      refine q_ladd dX9_every_47 ?_
      refine q_callI dX9_every_48 mk_X9_41 rfl (c_X9_init l G _ (zN Z) f _ _ d zK_nO' hd) rfl np_X9_init (by decide) (by decide) (by decide) (Nat.le_of_ble_eq_true rfl) (kV (fun Z1 h => ?_))
      subst h
      first | exact q_areturn dX9_every_51 rfl (Or.inl ⟨_, rfl⟩) (by decide) (by decide) (by first | exact ⟨fun _ => ⟨rfl, rfl⟩, fun z => absurd (by first | exact Or.inl (by assumption) | exact Or.inr (by assumption)) z⟩ | exact ⟨fun z => absurd z (fun z => z.elim (by assumption) (fun z => z (by assumption))), fun _ => ⟨rfl, rfl⟩⟩) | exact q_areturnN dX9_every_51 rfl (Or.inl ⟨_, rfl⟩) (by decide) (by decide) (by first | exact ⟨fun _ => ⟨rfl, rfl⟩, fun z => absurd (by first | exact Or.inl (by assumption) | exact Or.inr (by assumption)) z⟩ | exact ⟨fun z => absurd z (fun z => z.elim (by assumption) (fun z => z (by assumption))), fun _ => ⟨rfl, rfl⟩⟩)
    · first | refine q_aload_n dX9_every_14 rfl ?_ | refine q_aload_nN dX9_every_14 rfl ?_
      refine q_goto 51 dX9_every_15 (by decide) ?_
      first | exact q_areturn dX9_every_51 rfl (Or.inl ⟨_, rfl⟩) (by decide) (by decide) (by first | exact ⟨fun _ => ⟨rfl, rfl⟩, fun z => absurd (by first | exact Or.inl (by assumption) | exact Or.inr (by assumption)) z⟩ | exact ⟨fun z => absurd z (fun z => z.elim (by assumption) (fun z => z (by assumption))), fun _ => ⟨rfl, rfl⟩⟩) | exact q_areturnN dX9_every_51 rfl (Or.inl ⟨_, rfl⟩) (by decide) (by decide) (by first | exact ⟨fun _ => ⟨rfl, rfl⟩, fun z => absurd (by first | exact Or.inl (by assumption) | exact Or.inr (by assumption)) z⟩ | exact ⟨fun z => absurd z (fun z => z.elim (by assumption) (fun z => z (by assumption))), fun _ => ⟨rfl, rfl⟩⟩)
set_option maxHeartbeats 4000000 in
set_option maxRecDepth 100000 in
theorem c_X5_becomePlain (l : Launch) (G : Gt) (Z : Zt) (a s : Nat) (hK : zK Z a = 5) : Ct l G YX5_becomePlain (0, 0, 0) Z [.ref a, .ref s] (ΦV (fun Z1 => Z1 = sF (sF Z 0 a (.ref s)) 2 a (.int 0))) := by
  refine ct_of [some (.ref a), some (.ref s)] (by decide +kernel) (Nat.le_of_ble_eq_true rfl) rfl (fun M => ?_)
  first | refine q_aload_n dX5_becomePlain_0 rfl ?_ | refine q_aload_nN dX5_becomePlain_0 rfl ?_
  first | refine q_aload_n dX5_becomePlain_1 rfl ?_ | refine q_aload_nN dX5_becomePlain_1 rfl ?_
  refine q_putf dX5_becomePlain_2 fk_X5_15_4 rfl (by first | assumption | (simp only [zK_sF, zK_sI, zK_sJ, zK_sR]; assumption)) rfl rfl ?_
  first | refine q_aload_n dX5_becomePlain_5 rfl ?_ | refine q_aload_nN dX5_becomePlain_5 rfl ?_
  refine q_iconst (v := 0) dX5_becomePlain_6 (by decide) ?_
  refine q_putf dX5_becomePlain_7 fk_X5_19_4 rfl (by first | assumption | (simp only [zK_sF, zK_sI, zK_sJ, zK_sR]; assumption)) rfl rfl ?_
  exact q_return dX5_becomePlain_10 rfl (by decide) (by decide) rfl
set_option maxHeartbeats 4000000 in
set_option maxRecDepth 100000 in
theorem c_X5_many_g (l : Launch) (G : Gt) (Z : Zt) (a : Nat) (cn : Int32) (hK : zK Z a = 5) (h0 : zF Z 0 a = .null) (h2 : zF Z 2 a = .int cn) : Ct l G YX5_many (0, 0, 0) Z [.ref a] (ΦL (fun r Z1 => Z1 = Z ∧ r = cn.toInt64)) := by
  refine ct_of [some (.ref a)] (by decide +kernel) (Nat.le_of_ble_eq_true rfl) rfl (fun M => ?_)
  first | refine q_aload_n dX5_many_0 rfl ?_ | refine q_aload_nN dX5_many_0 rfl ?_
  refine q_getf dX5_many_1 fk_X5_15_4 (by first | assumption | (simp only [zK_sF, zK_sI, zK_sJ, zK_sR]; assumption)) (by first | assumption | (simp only [zF_sF, zF_sI, zF_sJ, zF_sR, true_and, and_true, false_and, and_false, if_true, if_false, eq_self, reduceIte, Nat.reduceEqDiff, OfNat.ofNat_ne_zero, OfNat.zero_ne_ofNat, OfNat.ofNat_ne_one, OfNat.one_ne_ofNat, reduceCtorEq]; first | rfl | assumption)) ?_
  refine q_ifnonnullN dX5_many_4 ?_
  first | refine q_aload_n dX5_many_7 rfl ?_ | refine q_aload_nN dX5_many_7 rfl ?_
  refine q_getf dX5_many_8 fk_X5_19_4 (by first | assumption | (simp only [zK_sF, zK_sI, zK_sJ, zK_sR]; assumption)) (by first | assumption | (simp only [zF_sF, zF_sI, zF_sJ, zF_sR, true_and, and_true, false_and, and_false, if_true, if_false, eq_self, reduceIte, Nat.reduceEqDiff, OfNat.ofNat_ne_zero, OfNat.zero_ne_ofNat, OfNat.ofNat_ne_one, OfNat.one_ne_ofNat, reduceCtorEq]; first | rfl | assumption)) ?_
  refine q_i2l dX5_many_11 ?_
  refine q_goto 22 dX5_many_12 (by decide) ?_
  exact q_lreturn dX5_many_22 rfl (by decide) (by decide) ⟨rfl, rfl⟩
set_option maxHeartbeats 4000000 in
set_option maxRecDepth 100000 in
theorem c_X5_many_p (l : Launch) (G : Gt) (Z : Zt) (a s : Nat) (c : Int64) (hK : zK Z a = 5) (h0 : zF Z 0 a = .ref s) (hKs : zK Z s = 9) (hs : zF Z 3 s = .long c) : Ct l G YX5_many (0, 0, 0) Z [.ref a] (ΦL (fun r Z1 => Z1 = Z ∧ r = c)) := by
  refine ct_of [some (.ref a)] (by decide +kernel) (Nat.le_of_ble_eq_true rfl) rfl (fun M => ?_)
  first | refine q_aload_n dX5_many_0 rfl ?_ | refine q_aload_nN dX5_many_0 rfl ?_
  refine q_getf dX5_many_1 fk_X5_15_4 (by first | assumption | (simp only [zK_sF, zK_sI, zK_sJ, zK_sR]; assumption)) (by first | assumption | (simp only [zF_sF, zF_sI, zF_sJ, zF_sR, true_and, and_true, false_and, and_false, if_true, if_false, eq_self, reduceIte, Nat.reduceEqDiff, OfNat.ofNat_ne_zero, OfNat.zero_ne_ofNat, OfNat.ofNat_ne_one, OfNat.one_ne_ofNat, reduceCtorEq]; first | rfl | assumption)) ?_
  refine q_ifnonnull 15 dX5_many_4 (by decide) ?_
  first | refine q_aload_n dX5_many_15 rfl ?_ | refine q_aload_nN dX5_many_15 rfl ?_
  refine q_getf dX5_many_16 fk_X5_15_4 (by first | assumption | (simp only [zK_sF, zK_sI, zK_sJ, zK_sR]; assumption)) (by first | assumption | (simp only [zF_sF, zF_sI, zF_sJ, zF_sR, true_and, and_true, false_and, and_false, if_true, if_false, eq_self, reduceIte, Nat.reduceEqDiff, OfNat.ofNat_ne_zero, OfNat.zero_ne_ofNat, OfNat.ofNat_ne_one, OfNat.one_ne_ofNat, reduceCtorEq]; first | rfl | assumption)) ?_
  refine q_getf dX5_many_19 fk_X5_27_8 (by first | assumption | (simp only [zK_sF, zK_sI, zK_sJ, zK_sR]; assumption)) (by first | assumption | (simp only [zF_sF, zF_sI, zF_sJ, zF_sR, true_and, and_true, false_and, and_false, if_true, if_false, eq_self, reduceIte, Nat.reduceEqDiff, OfNat.ofNat_ne_zero, OfNat.zero_ne_ofNat, OfNat.ofNat_ne_one, OfNat.one_ne_ofNat, reduceCtorEq]; first | rfl | assumption)) ?_
  exact q_lreturn dX5_many_22 rfl (by decide) (by decide) ⟨rfl, rfl⟩
set_option maxHeartbeats 4000000 in
set_option maxRecDepth 100000 in
theorem c_X5_numberAt_p (l : Launch) (G : Gt) (Z : Zt) (a q : Nat) (f s c : Int64) (d : Int32) (k : Int64) (hKr : zK Z a = 5) (hr : zF Z 0 a = .ref q) (hK : zK Z q = 9) (h0 : zF Z 0 q = .long f) (h1 : zF Z 1 q = .long s) (h2 : zF Z 2 q = .int d) (h3 : zF Z 3 q = .long c) : Ct l G YX5_numberAt (1, 0, 0) Z [.ref a, .long k] (ΦL (fun r Z1 => Z1 = Z ∧ r = stAt f s d k)) := by
  refine ct_of [some (.ref a), some (.long k), none] (by decide +kernel) (Nat.le_of_ble_eq_true rfl) rfl (fun M => ?_)
  first | refine q_aload_n dX5_numberAt_0 rfl ?_ | refine q_aload_nN dX5_numberAt_0 rfl ?_
  refine q_getf dX5_numberAt_1 fk_X5_15_4 (by first | assumption | (simp only [zK_sF, zK_sI, zK_sJ, zK_sR]; assumption)) (by first | assumption | (simp only [zF_sF, zF_sI, zF_sJ, zF_sR, true_and, and_true, false_and, and_false, if_true, if_false, eq_self, reduceIte, Nat.reduceEqDiff, OfNat.ofNat_ne_zero, OfNat.zero_ne_ofNat, OfNat.ofNat_ne_one, OfNat.one_ne_ofNat, reduceCtorEq]; first | rfl | assumption)) ?_
  refine q_ifnull dX5_numberAt_4 ?_
  first | refine q_aload_n dX5_numberAt_7 rfl ?_ | refine q_aload_nN dX5_numberAt_7 rfl ?_
  refine q_getf dX5_numberAt_8 fk_X5_15_4 (by first | assumption | (simp only [zK_sF, zK_sI, zK_sJ, zK_sR]; assumption)) (by first | assumption | (simp only [zF_sF, zF_sI, zF_sJ, zF_sR, true_and, and_true, false_and, and_false, if_true, if_false, eq_self, reduceIte, Nat.reduceEqDiff, OfNat.ofNat_ne_zero, OfNat.zero_ne_ofNat, OfNat.ofNat_ne_one, OfNat.one_ne_ofNat, reduceCtorEq]; first | rfl | assumption)) ?_
  refine q_lload_n dX5_numberAt_11 rfl ?_
  refine q_callV 8 dX5_numberAt_12 mk_X5_32 rfl (by first | assumption | (simp only [zK_sF, zK_sI, zK_sJ, zK_sR]; assumption)) (c_X9_numberAt l G _ q f s c d hK h0 h1 h2 h3 k) rfl np_X9_numberAt (by decide) (by decide) (by decide) (Nat.le_of_ble_eq_true rfl) (kL (fun r Z1 h => ?_))
  exact q_lreturn dX5_numberAt_15 rfl (by decide) (by decide) h
set_option maxHeartbeats 4000000 in
set_option maxRecDepth 100000 in
theorem c_X5_numberAt_g (l : Launch) (G : Gt) (Z : Zt) (a nb : Nat) (cn : Int32) (k : Int64) (hK : zK Z a = 5) (h0 : zF Z 0 a = .null) (h1 : zF Z 1 a = .ref nb) (h2 : zF Z 2 a = .int cn) (hKn : zK Z nb = 21) (hk : ¬ k < 0) (hc : k < cn.toInt64) (hi : vp_in k.toInt32 (zL Z nb)) : Ct l G YX5_numberAt (1, 0, 0) Z [.ref a, .long k] (ΦL (fun r Z1 => Z1 = Z ∧ r = zJ Z nb k.toInt32.toNatClampNeg)) := by
  refine ct_of [some (.ref a), some (.long k), none] (by decide +kernel) (Nat.le_of_ble_eq_true rfl) rfl (fun M => ?_)
  first | refine q_aload_n dX5_numberAt_0 rfl ?_ | refine q_aload_nN dX5_numberAt_0 rfl ?_
  refine q_getf dX5_numberAt_1 fk_X5_15_4 (by first | assumption | (simp only [zK_sF, zK_sI, zK_sJ, zK_sR]; assumption)) (by first | assumption | (simp only [zF_sF, zF_sI, zF_sJ, zF_sR, true_and, and_true, false_and, and_false, if_true, if_false, eq_self, reduceIte, Nat.reduceEqDiff, OfNat.ofNat_ne_zero, OfNat.zero_ne_ofNat, OfNat.ofNat_ne_one, OfNat.one_ne_ofNat, reduceCtorEq]; first | rfl | assumption)) ?_
  refine q_ifnullN 16 dX5_numberAt_4 (by decide) ?_
  refine q_lload_n dX5_numberAt_16 rfl ?_
  refine q_lconst (v := 0) dX5_numberAt_17 (by decide) ?_
  refine q_lcmp_lt 32 dX5_numberAt_18 dX5_numberAt_19 (by decide) (fun c18 => absurd c18 hk) (fun c18 => ?_)
  refine q_lload_n dX5_numberAt_22 rfl ?_
  first | refine q_aload_n dX5_numberAt_23 rfl ?_ | refine q_aload_nN dX5_numberAt_23 rfl ?_
  refine q_getf dX5_numberAt_24 fk_X5_19_4 (by first | assumption | (simp only [zK_sF, zK_sI, zK_sJ, zK_sR]; assumption)) (by first | assumption | (simp only [zF_sF, zF_sI, zF_sJ, zF_sR, true_and, and_true, false_and, and_false, if_true, if_false, eq_self, reduceIte, Nat.reduceEqDiff, OfNat.ofNat_ne_zero, OfNat.zero_ne_ofNat, OfNat.ofNat_ne_one, OfNat.one_ne_ofNat, reduceCtorEq]; first | rfl | assumption)) ?_
  refine q_i2l dX5_numberAt_27 ?_
  refine q_lcmp_lt 36 dX5_numberAt_28 dX5_numberAt_29 (by decide) (fun c28 => ?_) (fun c28 => absurd c28 (not_not_intro hc))
  first | refine q_aload_n dX5_numberAt_36 rfl ?_ | refine q_aload_nN dX5_numberAt_36 rfl ?_
  refine q_getf dX5_numberAt_37 fk_X5_9_4 (by first | assumption | (simp only [zK_sF, zK_sI, zK_sJ, zK_sR]; assumption)) (by first | assumption | (simp only [zF_sF, zF_sI, zF_sJ, zF_sR, true_and, and_true, false_and, and_false, if_true, if_false, eq_self, reduceIte, Nat.reduceEqDiff, OfNat.ofNat_ne_zero, OfNat.zero_ne_ofNat, OfNat.ofNat_ne_one, OfNat.one_ne_ofNat, reduceCtorEq]; first | rfl | assumption)) ?_
  refine q_lload_n dX5_numberAt_40 rfl ?_
  refine q_l2i dX5_numberAt_41 ?_
  refine q_lald dX5_numberAt_42 (by first | assumption | (simp only [zK_sF, zK_sI, zK_sJ, zK_sR]; assumption)) hi ?_
  exact q_lreturn dX5_numberAt_43 rfl (by decide) (by decide) ⟨rfl, rfl⟩
set_option maxHeartbeats 4000000 in
set_option maxRecDepth 100000 in
theorem c_X5_indexOf_p (l : Launch) (G : Gt) (Z : Zt) (a q : Nat) (f s c : Int64) (d : Int32) (v : Int64) (hKr : zK Z a = 5) (hr : zF Z 0 a = .ref q) (hK : zK Z q = 9) (h0 : zF Z 0 q = .long f) (h1 : zF Z 1 q = .long s) (h2 : zF Z 2 q = .int d) (h3 : zF Z 3 q = .long c) : Ct l G YX5_indexOf (4, 0, 0) Z [.ref a, .long v] (ΦL (fun r Z1 => Z1 = Z ∧ r = stIx f s d c v)) := by
  refine ct_of [some (.ref a), some (.long v), none] (by decide +kernel) (Nat.le_of_ble_eq_true rfl) rfl (fun M => ?_)
  first | refine q_aload_n dX5_indexOf_0 rfl ?_ | refine q_aload_nN dX5_indexOf_0 rfl ?_
  refine q_getf dX5_indexOf_1 fk_X5_15_4 (by first | assumption | (simp only [zK_sF, zK_sI, zK_sJ, zK_sR]; assumption)) (by first | assumption | (simp only [zF_sF, zF_sI, zF_sJ, zF_sR, true_and, and_true, false_and, and_false, if_true, if_false, eq_self, reduceIte, Nat.reduceEqDiff, OfNat.ofNat_ne_zero, OfNat.zero_ne_ofNat, OfNat.ofNat_ne_one, OfNat.one_ne_ofNat, reduceCtorEq]; first | rfl | assumption)) ?_
  refine q_ifnonnull 24 dX5_indexOf_4 (by decide) ?_
  first | refine q_aload_n dX5_indexOf_24 rfl ?_ | refine q_aload_nN dX5_indexOf_24 rfl ?_
  refine q_getf dX5_indexOf_25 fk_X5_15_4 (by first | assumption | (simp only [zK_sF, zK_sI, zK_sJ, zK_sR]; assumption)) (by first | assumption | (simp only [zF_sF, zF_sI, zF_sJ, zF_sR, true_and, and_true, false_and, and_false, if_true, if_false, eq_self, reduceIte, Nat.reduceEqDiff, OfNat.ofNat_ne_zero, OfNat.zero_ne_ofNat, OfNat.ofNat_ne_one, OfNat.one_ne_ofNat, reduceCtorEq]; first | rfl | assumption)) ?_
  refine q_lload_n dX5_indexOf_28 rfl ?_
  refine q_callV 8 dX5_indexOf_29 mk_X5_36 rfl (by first | assumption | (simp only [zK_sF, zK_sI, zK_sJ, zK_sR]; assumption)) (c_X9_indexOf l G _ q f s c d hK h0 h1 h2 h3 v) rfl np_X9_indexOf (by decide) (by decide) (by decide) (Nat.le_of_ble_eq_true rfl) (kL (fun r Z1 h => ?_))
  exact q_lreturn dX5_indexOf_32 rfl (by decide) (by decide) h
set_option maxHeartbeats 4000000 in
set_option maxRecDepth 100000 in
theorem c_X5_indexOf_g (l : Launch) (G : Gt) (Z : Zt) (a nb n : Nat) (v : Int64) (hK : zK Z a = 5) (h0 : zF Z 0 a = .null) (h1 : zF Z 1 a = .ref nb) (h2 : zF Z 2 a = .int (nI n)) (hKn : zK Z nb = 21) (hL : zL Z nb = 200) (hn : n ≤ 200) : Ct l G YX5_indexOf (1, 0, 0) Z [.ref a, .long v] (ΦL (fun r Z1 => Z1 = Z ∧ ∃ i, r = i.toInt64 ∧ fnd (zJ Z nb) 0 n v i)) := by
  refine ct_of [some (.ref a), some (.long v), none] (by decide +kernel) (Nat.le_of_ble_eq_true rfl) rfl (fun M => ?_)
  first | refine q_aload_n dX5_indexOf_0 rfl ?_ | refine q_aload_nN dX5_indexOf_0 rfl ?_
  refine q_getf dX5_indexOf_1 fk_X5_15_4 (by first | assumption | (simp only [zK_sF, zK_sI, zK_sJ, zK_sR]; assumption)) (by first | assumption | (simp only [zF_sF, zF_sI, zF_sJ, zF_sR, true_and, and_true, false_and, and_false, if_true, if_false, eq_self, reduceIte, Nat.reduceEqDiff, OfNat.ofNat_ne_zero, OfNat.zero_ne_ofNat, OfNat.ofNat_ne_one, OfNat.one_ne_ofNat, reduceCtorEq]; first | rfl | assumption)) ?_
  refine q_ifnonnullN dX5_indexOf_4 ?_
  first | refine q_aload_n dX5_indexOf_7 rfl ?_ | refine q_aload_nN dX5_indexOf_7 rfl ?_
  refine q_getf dX5_indexOf_8 fk_X5_9_4 (by first | assumption | (simp only [zK_sF, zK_sI, zK_sJ, zK_sR]; assumption)) (by first | assumption | (simp only [zF_sF, zF_sI, zF_sJ, zF_sR, true_and, and_true, false_and, and_false, if_true, if_false, eq_self, reduceIte, Nat.reduceEqDiff, OfNat.ofNat_ne_zero, OfNat.zero_ne_ofNat, OfNat.ofNat_ne_one, OfNat.one_ne_ofNat, reduceCtorEq]; first | rfl | assumption)) ?_
  refine q_iconst (v := 0) dX5_indexOf_11 (by decide) ?_
  first | refine q_aload_n dX5_indexOf_12 rfl ?_ | refine q_aload_nN dX5_indexOf_12 rfl ?_
  refine q_getf dX5_indexOf_13 fk_X5_19_4 (by first | assumption | (simp only [zK_sF, zK_sI, zK_sJ, zK_sR]; assumption)) (by first | assumption | (simp only [zF_sF, zF_sI, zF_sJ, zF_sR, true_and, and_true, false_and, and_false, if_true, if_false, eq_self, reduceIte, Nat.reduceEqDiff, OfNat.ofNat_ne_zero, OfNat.zero_ne_ofNat, OfNat.ofNat_ne_one, OfNat.one_ne_ofNat, reduceCtorEq]; first | rfl | assumption)) ?_
  refine q_lload_n dX5_indexOf_16 rfl ?_
  refine q_callSN dX5_indexOf_17 mn_X5_23 (c_X11_find l G _ nb 0 n v hKn (by rw [hL]; decide) (by rw [hL]; exact hn) (by decide)) rfl np_X11_find (by decide) (by decide) (by decide) (Nat.le_of_ble_eq_true rfl) (kI (fun r Z1 h => ?_))
  obtain ⟨rfl, h⟩ := h
  refine q_i2l dX5_indexOf_20 ?_
  refine q_goto 32 dX5_indexOf_21 (by decide) ?_
  exact q_lreturn dX5_indexOf_32 rfl (by decide) (by decide) ⟨rfl, _, rfl, h⟩
set_option maxHeartbeats 4000000 in
set_option maxRecDepth 100000 in
theorem c_X5_init (l : Launch) (G : Gt) (Z : Zt) (a : Nat) (hK : zK Z a = 5) (hN : a ≠ zN Z) : Ct l G YX5_init (1, 1, 200) Z [.ref a] (ΦV (fun Z1 => Z1 = sF (nA Z 21 200) 1 a (.ref (zN Z)))) := by
  refine ct_of [some (.ref a)] (by decide +kernel) (Nat.le_of_ble_eq_true rfl) rfl (fun M => ?_)
  first | refine q_aload_n dX5_init_0 rfl ?_ | refine q_aload_nN dX5_init_0 rfl ?_
  refine q_objInit dX5_init_1 ok_X5_3 oi_m oi_c (by decide) (Nat.le_of_ble_eq_true rfl) ?_
  first | refine q_aload_n dX5_init_4 rfl ?_ | refine q_aload_nN dX5_init_4 rfl ?_
  refine q_sipush (v := 200) dX5_init_5 (by decide) ?_
  refine q_newa (w := 1) (N := 200) dX5_init_8 rfl (by decide) ac_1 (by decide) rfl (by decide) (by decide) (by decide) ?_
  refine q_putF dX5_init_10 fk_X5_9_4 rfl rfl rfl ((zK_nA hN).trans hK) rfl rfl ?_
  exact q_return dX5_init_13 rfl (by decide) (by decide) rfl
set_option maxHeartbeats 4000000 in
set_option maxRecDepth 100000 in
theorem c_X6_init (l : Launch) (G : Gt) (Z : Zt) (a : Nat) (hK : zK Z a = 6) (hN : a ≠ zN Z) : Ct l G YX6_init (1, 1, 12) Z [.ref a] (ΦV (fun Z1 => Z1 = sF (sF (nA Z 21 12) 0 a (.ref (zN Z))) 1 a (.int 0))) := by
  refine ct_of [some (.ref a)] (by decide +kernel) (Nat.le_of_ble_eq_true rfl) rfl (fun M => ?_)
  first | refine q_aload_n dX6_init_0 rfl ?_ | refine q_aload_nN dX6_init_0 rfl ?_
  refine q_objInit dX6_init_1 ok_X6_3 oi_m oi_c (by decide) (Nat.le_of_ble_eq_true rfl) ?_
  first | refine q_aload_n dX6_init_4 rfl ?_ | refine q_aload_nN dX6_init_4 rfl ?_
  refine q_bipush (v := 12) dX6_init_5 (by decide) ?_
  refine q_newa (w := 1) (N := 12) dX6_init_7 rfl (by decide) ac_1 (by decide) rfl (by decide) (by decide) (by decide) ?_
  refine q_putF dX6_init_9 fk_X6_9_5 rfl rfl rfl ((zK_nA hN).trans hK) rfl rfl ?_
  first | refine q_aload_n dX6_init_12 rfl ?_ | refine q_aload_nN dX6_init_12 rfl ?_
  refine q_iconst (v := 0) dX6_init_13 (by decide) ?_
  refine q_putf dX6_init_14 fk_X6_15_5 rfl (by rw [zK_sF]; exact (zK_nA hN).trans hK) rfl rfl ?_
  exact q_return dX6_init_17 rfl (by decide) (by decide) rfl
set_option maxHeartbeats 4000000 in
set_option maxRecDepth 100000 in
theorem c_X0_init (l : Launch) (G : Gt) (Z : Zt) (a : Nat) (n : Int32) (hK : zK Z a = 1) (hN : a ≠ zN Z) : Ct l G YX0_init (1, 1, 3) Z [.ref a, .int n] (ΦV (fun Z1 => Z1 = sF (sF (nA Z 20 3) 0 a (.ref (zN Z))) 1 a (.int n))) := by
  refine ct_of [some (.ref a), some (.int n)] (by decide +kernel) (Nat.le_of_ble_eq_true rfl) rfl (fun M => ?_)
  first | refine q_aload_n dX0_init_0 rfl ?_ | refine q_aload_nN dX0_init_0 rfl ?_
  refine q_objInit dX0_init_1 ok_X0_3 oi_m oi_c (by decide) (Nat.le_of_ble_eq_true rfl) ?_
  first | refine q_aload_n dX0_init_4 rfl ?_ | refine q_aload_nN dX0_init_4 rfl ?_
  refine q_iconst (v := 3) dX0_init_5 (by decide) ?_
  refine q_newa (w := 0) (N := 3) dX0_init_6 rfl (by decide) ac_0 (by decide) rfl (by decide) (by decide) (by decide) ?_
  refine q_putF dX0_init_8 fk_X0_9_0 rfl rfl rfl ((zK_nA hN).trans hK) rfl rfl ?_
  first | refine q_aload_n dX0_init_11 rfl ?_ | refine q_aload_nN dX0_init_11 rfl ?_
  refine q_iload_n dX0_init_12 rfl ?_
  refine q_putF dX0_init_13 fk_X0_15_0 rfl rfl rfl (by rw [zK_sF]; exact (zK_nA hN).trans hK) rfl rfl ?_
  exact q_return dX0_init_16 rfl (by decide) (by decide) rfl
set_option maxHeartbeats 4000000 in
set_option maxRecDepth 100000 in
theorem c_X10_init (l : Launch) (G : Gt) (Z : Zt) (a : Nat) (hK : zK Z a = 10) (hN : a < zN Z) : Ct l G YX10_init (1, 3, 60) Z [.ref a] (ΦV (fun Z1 => Z1 = sF (sF (nA (sF (nA (sF (nA Z 21 20) 0 a (.ref (zN Z))) 20 20) 1 a (.ref (zN Z + 1))) 20 20) 2 a (.ref (zN Z + 2))) 5 a (.int (-1)))) := by
  refine ct_of [some (.ref a)] (by decide +kernel) (Nat.le_of_ble_eq_true rfl) rfl (fun M => ?_)
  first | refine q_aload_n dX10_init_0 rfl ?_ | refine q_aload_nN dX10_init_0 rfl ?_
  refine q_objInit dX10_init_1 ok_X10_3 oi_m oi_c (by decide) (Nat.le_of_ble_eq_true rfl) ?_
  first | refine q_aload_n dX10_init_4 rfl ?_ | refine q_aload_nN dX10_init_4 rfl ?_
  refine q_bipush (v := 20) dX10_init_5 (by decide) ?_
  refine q_newa (w := 1) (N := 20) dX10_init_7 rfl (by decide) ac_1 (by decide) rfl (by decide) (by decide) (by decide) ?_
  refine q_putF dX10_init_9 fk_X10_9_9 rfl rfl rfl ((zK_nA (by omega)).trans hK) rfl rfl ?_
  first | refine q_aload_n dX10_init_12 rfl ?_ | refine q_aload_nN dX10_init_12 rfl ?_
  refine q_bipush (v := 20) dX10_init_13 (by decide) ?_
  refine q_newa (w := 0) (N := 20) dX10_init_15 rfl (by decide) ac_0 (by decide) rfl (by decide) (by decide) (by decide) ?_
  refine q_putF dX10_init_17 fk_X10_15_9 rfl rfl rfl (by rw [zK_nA (by show a ≠ zN Z + 1; omega), zK_sF, zK_nA (by omega)]; exact hK) rfl rfl ?_
  first | refine q_aload_n dX10_init_20 rfl ?_ | refine q_aload_nN dX10_init_20 rfl ?_
  refine q_bipush (v := 20) dX10_init_21 (by decide) ?_
  refine q_newa (w := 0) (N := 20) dX10_init_23 rfl (by decide) ac_0 (by decide) rfl (by decide) (by decide) (by decide) ?_
  refine q_putF dX10_init_25 fk_X10_19_9 rfl rfl rfl (by rw [zK_nA (by show a ≠ zN Z + 1 + 1; omega), zK_sF, zK_nA (by show a ≠ zN Z + 1; omega), zK_sF, zK_nA (by omega)]; exact hK) rfl rfl ?_
  first | refine q_aload_n dX10_init_28 rfl ?_ | refine q_aload_nN dX10_init_28 rfl ?_
  refine q_iconst (v := (-1)) dX10_init_29 (by decide) ?_
  refine q_putf dX10_init_30 fk_X10_22_9 rfl (by rw [zK_sF, zK_nA (by show a ≠ zN Z + 1 + 1; omega), zK_sF, zK_nA (by show a ≠ zN Z + 1; omega), zK_sF, zK_nA (by omega)]; exact hK) rfl rfl ?_
  exact q_return dX10_init_33 rfl (by decide) (by decide) rfl
end
section
section QU
variable {l : Launch} {G : Gt} {Y Y' : Yt} {B B' : Bt} {M : Mt} {Z : Zt} {cells slots : Nat} {Q : State → Prop} {pc : Nat} {ls : List (Option Value)} {st rest av : List Value} {Φ : Option Value → Zt → Prop}
def uOK (own : String) (i : Nat) (x : MethodName) (Y : Yt) : Prop := Cond.code Y.1 Y.2.1 Y.2.2.1 Y.2.2.2 ∈ WS ∧ Cond.initialized Y.1.cls ∈ WS ∧ Cond.methodLink own i x ∈ WS ∧ (Y.1.cls ≠ "java/lang/invoke/MethodHandle" ∧ Y.1.cls ≠ "java/lang/invoke/VarHandle" ∧ (nPar Y).isSome = true ∧ Y.2.2.1 ≤ 45) ∧ Y.1.desc = x.desc
theorem q_back (C : Cx G Y B M) (hM : Ct l G Y' B' Z av Φ) (h1 : Cond.code Y'.1 Y'.2.1 Y'.2.2.1 Y'.2.2.2 ∈ WS) (h2 : Cond.initialized Y'.1.cls ∈ WS) (hl : Y'.2.2.1 ≤ 45) (hB : B'.1 + 1 ≤ B.1) : Back l M.2.2.1 M.1 M.2.1 M.2.2.2.2.2.2.1 M.2.2.2.1 M.2.2.2.2.2.1 Y'.1 3 8 (PreOf M.2.2.1 B'.2.1 B'.2.2 (va_Pc av (fun U => Rep G Z U.heap ∧ Kn G U ∧ G.2.2.2 ≤ U.heap.size))) (PostOf (Qc G Φ) B'.2.1 B'.2.2 (fun q => G.2.2.2 ≤ q)) := by
  have hts := C.2.2.2.2.2.1
  refine back_of (bytes := Y'.2.1) (maxL := Y'.2.2.1) (ret := Y'.2.2.2) hM (Pc_blind G Z av) rfl rfl ?_ ?_ (pay_in hts (wsY_good Y Y' h1)) List.mem_cons_self (fun a' U hW => word_at hW (good_of_word (ws_good h2)) (hts _ h2))
  · rw [C.2.2.2.2.2.2.2.2.2.1]; exact hB
  · rw [C.2.2.2.2.2.2.2.2.2.1]; show 8 + (Y'.2.2.1 + 11) + 64 * B'.1 ≤ 64 * B.1; omega
theorem q_callSU {i : Nat} (x : MethodName) (hd : decode Y.2.1 pc = .ok (.invokestatic i, 3)) (hw : uOK Y.1.cls i x Y') (hsm : Cond.sameMethod x.cls Y'.1.cls x.name x.desc ∈ WS) (hxy : Y'.1 = ⟨Y'.1.cls, x.name, x.desc⟩) (hstt : Cond.static Y'.1 ∈ WS) (hM : Ct l G Y' B' Z av Φ) (hst : st = av.reverse ++ rest) (hn : nPar Y' = some av.length) (hB : B'.1 + 1 ≤ B.1) (hc : cells + B'.2.1 ≤ B.2.1) (hs : slots + B'.2.2 ≤ B.2.2) (hW : (rest.map fun v => v.category).sum ≤ 8)
    (kk : ∀ (v : Option Value) (Z' : Zt), Φ v Z' → Jd l G Y B M Z' (cells + B'.2.1) (slots + B'.2.2) Q (pc + 3) ls (v.toList ++ rest)) : Jd l G Y B M Z cells slots Q pc ls st := by
  intro C H locs A hR hS hA
  refine q_run (mc := B'.2.1) (ms := B'.2.2) (a := av.toArray) H locs A rfl C hS hA ?_ kk
  obtain ⟨h1, h2, h3, h4, h5⟩ := hw
  have hts := C.2.2.2.2.2.1
  have hK := q_back C hM h1 h2 h4.2.2.2 hB
  intro T hT X
  have hcode := hts _ h1
  obtain ⟨mk, hnamed⟩ := Cond.code_named hcode
  obtain ⟨methM, cM, hmethM, -, -, -, -, -, -, hsigM⟩ := Cond.code_spec hnamed hcode
  have hstatic : methM.isStatic = true := Cond.static_spec hnamed hmethM (hts _ hstt)
  obtain ⟨kP, hkP, -⟩ := className_of_methodNamed hnamed
  have hinitP : kP.init = .initialized := Cond.initialized_spec (findClass_of_methodNamed hnamed) hkP (hts _ h2)
  have hlen : av.length = methM.sig.parameters.length := by
    have h6 : (parseMethodDescriptor Y'.1.desc).map (fun d => d.parameters.length) = some av.length := hn
    rw [hsigM] at h6
    exact (Option.some.inj h6).symm
  obtain ⟨vm₁, X₁, hstep₁⟩ := Stand.invokestaticUp X C.1 C.2.2.2.2.1 (hts _ h3) (hts _ hsm) ⟨h4.1, h4.2.1⟩ (by rw [← hxy]; exact hnamed) hmethM hstatic hkP hinitP (g := F0 M.2.2.2.2.1 pc A st) rfl (argsL := av) (rest := rest) hlen hst (by rw [C.2.1]; exact hd)
  obtain ⟨v, ⟨U', l2, c2, s2⟩, X', hpost, hsteps⟩ := hK M.2.2.2.2.1 M.2.2.2.2.2.2.2.1 M.2.2.2.2.2.2.2.2 ⟨T.setVm vm₁, locs, cells, slots⟩ { F0 M.2.2.2.2.1 pc A st with stack := rest } (.invokestatic i) mk av.toArray X₁ rfl (hA.1.trans C.2.2.1.symm) (by rw [C.2.1]; exact hd) (by show 2 * 0 + (rest.map fun v => v.category).sum ≤ 8; omega) (X₁.named hnamed)
    ⟨by rw [C.2.2.2.2.2.2.2.2.2.1]; exact hc, by rw [C.2.2.2.2.2.2.2.2.2.1]; exact hs, (q_pre (av := av) C hR hS).2 (T.setVm vm₁) hT X₁.warmed⟩
  obtain ⟨g', mk', t, L, e1, e2, hq, e3, hL, e4, e5⟩ := hpost
  dsimp only [Pt.U, Pt.locs, Pt.cells, Pt.slots] at X' e1 e2 e3 e4 e5 hsteps
  subst e3; subst e4; subst e5
  exact ⟨v, (T.setVm vm₁).calling g' mk' av.toArray, t, U', L, hT, X', hL, e1, e2, hq, fun target h => hstep₁ _ fun acts => by rw [doInvoke_state]; exact hsteps.trans h⟩
theorem q_callU {i b : Nat} (x : MethodName) (c : Nat) (cn : String) (hd : decode Y.2.1 pc = .ok (.invokevirtual i, 3)) (hw : uOK Y.1.cls i x Y') (hsm : Cond.sameMethod x.cls x.cls x.name x.desc ∈ WS) (hmh : x.cls ≠ "java/lang/invoke/MethodHandle" ∧ x.cls ≠ "java/lang/invoke/VarHandle") (hdcl : Cx G Y B M → va_Decl M.2.2.2.1 ⟨x.cls, x.name, x.desc⟩) (hsel : Cond.selects cn x Y'.1 ∈ WS) (him : Cond.instanceMethod Y'.1 ∈ WS) (hc0 : (vwCl[c]?).map (fun q => q.1) = some cn) (hk : zK Z b = c + 1) (hM : Ct l G Y' B' Z (.ref b :: av) Φ) (hst : st = av.reverse ++ .ref b :: rest) (hn : nPar Y' = some av.length) (hB : B'.1 + 1 ≤ B.1) (hc : cells + B'.2.1 ≤ B.2.1) (hs : slots + B'.2.2 ≤ B.2.2) (hW : (rest.map fun v => v.category).sum ≤ 8)
    (kk : ∀ (v : Option Value) (Z' : Zt), Φ v Z' → Jd l G Y B M Z' (cells + B'.2.1) (slots + B'.2.2) Q (pc + 3) ls (v.toList ++ rest)) : Jd l G Y B M Z cells slots Q pc ls st := by
  intro C H locs A hR hS hA
  obtain ⟨h1, h2, h3, h4, h5⟩ := hw
  have hts := C.2.2.2.2.2.1
  obtain ⟨q, hq, hqc⟩ := Option.map_eq_some_iff.mp hc0
  have hpre := q_pre (av := .ref b :: av) C hR hS
  have hrec := q_recv C hR hk hq
  rw [hqc] at hrec
  refine q_run H locs A rfl C hS hA (va_runU (As := av) (rest := rest) (g := F0 M.2.2.2.2.1 pc A st) (C := cn) (owner := x.cls) (x := x) (n := av.length) (bytes := Y'.2.1) (maxL := Y'.2.2.1) (ret := Y'.2.2.2) ⟨C.1, C.2.1, C.2.2.1, C.2.2.2.2.1, C.2.2.2.2.2.1⟩ hM ?_ ⟨hpre.1, hrec, hpre.2⟩ rfl rfl hA.1 hst ?_ hd ?_) kk
  · refine ⟨⟨rfl, rfl, ?_, ?_, pay_in hts (wsY_good Y Y' h1), List.mem_cons_self⟩, hts _ h1, hts _ h2, hmh, fun sig hsig => ?_, hts _ h3, hts _ hsm, hdcl C, hts _ hsel, hts _ him⟩
    · rw [C.2.2.2.2.2.2.2.2.2.1]; exact hB
    · rw [C.2.2.2.2.2.2.2.2.2.1]; show 8 + (Y'.2.2.1 + 11) + 64 * B'.1 ≤ 64 * B.1; have := h4.2.2.2; omega
    · have h6 : (parseMethodDescriptor Y'.1.desc).map (fun d => d.parameters.length) = some av.length := hn
      rw [h5, hsig] at h6
      exact (Option.some.inj h6).symm
  · show 2 * 0 + _ ≤ 8; omega
  · rw [C.2.2.2.2.2.2.2.2.2.1]; exact ⟨hc, hs⟩
end QU
theorem us_X4_22 : uOK RX4 22 ⟨RX4, "verdict", "(Z)I"⟩ YX2_verdict := ⟨cd_X2_verdict, (ws_t 8 (by decide +kernel) rfl), (ws_t 345 (by decide +kernel) rfl), by decide +kernel, rfl⟩
theorem us_X4_sm : Cond.sameMethod RX4 RX2 "verdict" "(Z)I" ∈ WS := (ws_t 346 (by decide +kernel) rfl)
theorem us_X7_40 : uOK RX7 40 ⟨RX7, "verdict", "(Z)I"⟩ YX2_verdict := ⟨cd_X2_verdict, (ws_t 8 (by decide +kernel) rfl), (ws_t 358 (by decide +kernel) rfl), by decide +kernel, rfl⟩
theorem us_X7_sm : Cond.sameMethod RX7 RX2 "verdict" "(Z)I" ∈ WS := (ws_t 359 (by decide +kernel) rfl)
theorem us_st : Cond.static yX2_verdict ∈ WS := (ws_t 347 (by decide +kernel) rfl)
def xJ : MethodName := ⟨RX2, "judge", "(JLCandidateRanges$Tally;)I"⟩
def xT : MethodName := ⟨RX2, "timesAsked", "()I"⟩
theorem uj_sm : Cond.sameMethod RX2 RX2 "judge" "(JLCandidateRanges$Tally;)I" ∈ WS := (ws_t 319 (by decide +kernel) rfl)
theorem ut_sm : Cond.sameMethod RX2 RX2 "timesAsked" "()I" ∈ WS := (ws_t 376 (by decide +kernel) rfl)
theorem uj_dc {G : Gt} {Y : Yt} {B : Bt} {M : Mt} (C : Cx G Y B M) : va_Decl M.2.2.2.1 ⟨RX2, "judge", "(JLCandidateRanges$Tally;)I"⟩ := va_Decl.abs C.2.2.2.2.2.2.2.1.2.2.1
theorem ut_im : Cond.instanceMethod yX2_timesAsked ∈ WS := (ws_t 375 (by decide +kernel) rfl)
theorem ut_dc {G : Gt} {Y : Yt} {B : Bt} {M : Mt} (C : Cx G Y B M) : va_Decl M.2.2.2.1 ⟨RX2, "timesAsked", "()I"⟩ := va_Decl.of (x := yX2_timesAsked) (C.2.2.2.2.2.1 _ ut_im) (C.2.2.2.2.2.1 _ cd_X2_timesAsked)
theorem uj_sel_X1 : Cond.selects RX1 xJ yX1_judge ∈ WS := (ws_t 320 (by decide +kernel) rfl)
theorem uj_im_X1 : Cond.instanceMethod yX1_judge ∈ WS := (ws_t 321 (by decide +kernel) rfl)
theorem ut_sel_X1 : Cond.selects RX1 xT yX2_timesAsked ∈ WS := (ws_t 377 (by decide +kernel) rfl)
theorem uj_X11_X1 : uOK RX11 115 xJ YX1_judge := ⟨cd_X1_judge, (ws_t 12 (by decide +kernel) rfl), (ws_t 317 (by decide +kernel) rfl), by decide +kernel, rfl⟩
theorem uj_X3_X1 : uOK RX3 32 xJ YX1_judge := ⟨cd_X1_judge, (ws_t 12 (by decide +kernel) rfl), (ws_t 342 (by decide +kernel) rfl), by decide +kernel, rfl⟩
theorem uj_X8_X1 : uOK RX8 141 xJ YX1_judge := ⟨cd_X1_judge, (ws_t 12 (by decide +kernel) rfl), (ws_t 569 (by decide +kernel) rfl), by decide +kernel, rfl⟩
theorem uj_sel_X3 : Cond.selects RX3 xJ yX3_judge ∈ WS := (ws_t 339 (by decide +kernel) rfl)
theorem uj_im_X3 : Cond.instanceMethod yX3_judge ∈ WS := (ws_t 340 (by decide +kernel) rfl)
theorem ut_sel_X3 : Cond.selects RX3 xT yX3_timesAsked ∈ WS := (ws_t 378 (by decide +kernel) rfl)
theorem uj_X11_X3 : uOK RX11 115 xJ YX3_judge := ⟨cd_X3_judge, (ws_t 9 (by decide +kernel) rfl), (ws_t 317 (by decide +kernel) rfl), by decide +kernel, rfl⟩
theorem uj_X3_X3 : uOK RX3 32 xJ YX3_judge := ⟨cd_X3_judge, (ws_t 9 (by decide +kernel) rfl), (ws_t 342 (by decide +kernel) rfl), by decide +kernel, rfl⟩
theorem uj_X8_X3 : uOK RX8 141 xJ YX3_judge := ⟨cd_X3_judge, (ws_t 9 (by decide +kernel) rfl), (ws_t 569 (by decide +kernel) rfl), by decide +kernel, rfl⟩
theorem uj_sel_X4 : Cond.selects RX4 xJ yX4_judge ∈ WS := (ws_t 368 (by decide +kernel) rfl)
theorem uj_im_X4 : Cond.instanceMethod yX4_judge ∈ WS := (ws_t 343 (by decide +kernel) rfl)
theorem ut_sel_X4 : Cond.selects RX4 xT yX2_timesAsked ∈ WS := (ws_t 381 (by decide +kernel) rfl)
theorem uj_X11_X4 : uOK RX11 115 xJ YX4_judge := ⟨cd_X4_judge, (ws_t 13 (by decide +kernel) rfl), (ws_t 317 (by decide +kernel) rfl), by decide +kernel, rfl⟩
theorem uj_X3_X4 : uOK RX3 32 xJ YX4_judge := ⟨cd_X4_judge, (ws_t 13 (by decide +kernel) rfl), (ws_t 342 (by decide +kernel) rfl), by decide +kernel, rfl⟩
theorem uj_X8_X4 : uOK RX8 141 xJ YX4_judge := ⟨cd_X4_judge, (ws_t 13 (by decide +kernel) rfl), (ws_t 569 (by decide +kernel) rfl), by decide +kernel, rfl⟩
theorem uj_sel_X7 : Cond.selects RX7 xJ yX7_judge ∈ WS := (ws_t 369 (by decide +kernel) rfl)
theorem uj_im_X7 : Cond.instanceMethod yX7_judge ∈ WS := (ws_t 355 (by decide +kernel) rfl)
theorem ut_sel_X7 : Cond.selects RX7 xT yX2_timesAsked ∈ WS := (ws_t 382 (by decide +kernel) rfl)
theorem uj_X11_X7 : uOK RX11 115 xJ YX7_judge := ⟨cd_X7_judge, (ws_t 11 (by decide +kernel) rfl), (ws_t 317 (by decide +kernel) rfl), by decide +kernel, rfl⟩
theorem uj_X3_X7 : uOK RX3 32 xJ YX7_judge := ⟨cd_X7_judge, (ws_t 11 (by decide +kernel) rfl), (ws_t 342 (by decide +kernel) rfl), by decide +kernel, rfl⟩
theorem uj_X8_X7 : uOK RX8 141 xJ YX7_judge := ⟨cd_X7_judge, (ws_t 11 (by decide +kernel) rfl), (ws_t 569 (by decide +kernel) rfl), by decide +kernel, rfl⟩
theorem ut_X11_X2 : uOK RX11 119 xT YX2_timesAsked := ⟨cd_X2_timesAsked, (ws_t 8 (by decide +kernel) rfl), (ws_t 374 (by decide +kernel) rfl), by decide +kernel, rfl⟩
theorem ut_X11_X3 : uOK RX11 119 xT YX3_timesAsked := ⟨cd_X3_timesAsked, (ws_t 9 (by decide +kernel) rfl), (ws_t 374 (by decide +kernel) rfl), by decide +kernel, rfl⟩
theorem ut_im3 : Cond.instanceMethod yX3_timesAsked ∈ WS := (ws_t 379 (by decide +kernel) rfl)
end
section
def failP (Z Z1 : Zt) (t : Nat) (fl nm e r : Int32) : Prop := (20 ≤ fl → r = -18 ∧ Z1 = Z) ∧ (¬ 20 ≤ fl → r = -10 - e ∧ Z1 = sF (sF Z 4 t (.int (fl + 1))) 5 t (.int nm))
def outP (Z Z1 : Zt) (t : Nat) (fl nm r : Int32) (w : Int32 ⊕ Int32) : Prop := match w with
  | .inl e => failP Z Z1 t fl nm e r
  | .inr x => r = x ∧ Z1 = Z
theorem outP_l {Z Z1 : Zt} {t : Nat} {fl nm e r : Int32} {w : Int32 ⊕ Int32} (hw : w = .inl e) (h : failP Z Z1 t fl nm e r) : outP Z Z1 t fl nm r w := by subst hw; exact h
theorem outP_r {Z : Zt} {t : Nat} {fl nm r : Int32} {w : Int32 ⊕ Int32} (hw : w = .inr r) : outP Z Z t fl nm r w := by subst hw; exact ⟨rfl, rfl⟩
def rmV (v c : Int64) : Int32 ⊕ Int32 := if c ≤ 12 then (if 0 ≤ c then .inr (if c < v then 0 else 1) else .inl 3) else .inl 7
def nfV (kd ai : Int32) (v c : Int64) : Int32 ⊕ Int32 :=
  if kd = 0 then .inr (if v ≤ c then 0 else 1)
  else if kd = 1 then (if v = 0 then .inl 6 else .inr (if c - c / v * v = ai.toInt64 then 1 else 0))
  else if kd = 2 then (if c = 0 then .inl 6 else .inr (if v / c ≤ ai.toInt64 then 0 else 1))
  else if kd = 4 then rmV v c
  else if c = v then .inl 7 else .inr 1
theorem nfV_0 (ai : Int32) (v c : Int64) : nfV 0 ai v c = .inr (if v ≤ c then 0 else 1) := rfl
theorem nfV_1 (ai : Int32) (v c : Int64) : nfV 1 ai v c = (if v = 0 then .inl 6 else .inr (if c - c / v * v = ai.toInt64 then 1 else 0)) := rfl
theorem nfV_2 (ai : Int32) (v c : Int64) : nfV 2 ai v c = (if c = 0 then .inl 6 else .inr (if v / c ≤ ai.toInt64 then 0 else 1)) := rfl
theorem nfV_3 (ai : Int32) (v c : Int64) : nfV 3 ai v c = (if c = v then .inl 7 else .inr 1) := rfl
theorem nfV_4 (ai : Int32) (v c : Int64) : nfV 4 ai v c = rmV v c := rfl
def sfV (wt skd cn pt : Int32) (v : Int64) (it : Nat → Int64) (c : Int64) : Int32 ⊕ Int32 :=
  if skd = 0 then .inl 1 else if skd = wt then (if wt = 3 then .inr (if c ≤ pt.toInt64 then 0 else 1) else if ¬ c < 0 ∧ ¬ cn.toInt64 ≤ c ∧ ¬ 12 ≤ c then .inr (if it c.toInt32.toNatClampNeg ≤ v then 0 else 1) else .inl 2) else .inl 5
theorem sfV_3 (cn pt : Int32) (v : Int64) (it : Nat → Int64) (c : Int64) : sfV 3 3 cn pt v it c = .inr (if c ≤ pt.toInt64 then 0 else 1) := rfl
theorem sfV_0 (wt cn pt : Int32) (v : Int64) (it : Nat → Int64) (c : Int64) : sfV wt 0 cn pt v it c = .inl 1 := rfl
theorem nfV_d {kd ai : Int32} {v : Int64} (n0 : ¬ kd = 0) (n1 : ¬ kd = 1) (n2 : ¬ kd = 2) (n4 : ¬ kd = 4) : nfV kd ai v v = .inl 7 := by rw [nfV, if_neg n0, if_neg n1, if_neg n2, if_neg n4, if_pos rfl]
def thF (c : Int64) : Int32 := if c - c / 3 * 3 = 0 then 2 else if c - c / 3 * 3 = 1 then 3 else 1
set_option maxHeartbeats 4000000 in
set_option maxRecDepth 100000 in
theorem c_X4_judgeRoom (l : Launch) (G : Gt) (Z : Zt) (a t : Nat) (nm kd ai fl : Int32) (v c : Int64) (hK : zK Z a = 4) (h0 : zF Z 0 a = .int nm) (h2 : zF Z 2 a = .int kd) (h3 : zF Z 3 a = .int ai) (h4 : zF Z 4 a = .long v) (hKt : zK Z t = 10) (hf : zF Z 4 t = .int fl) : Ct l G YX4_judgeRoom (1, 0, 0) Z [.ref a, .long c, .ref t] (ΦI (fun r Z1 => outP Z Z1 t fl nm r (rmV v c))) := by
  refine ct_of [some (.ref a), some (.long c), none, some (.ref t)] (by decide +kernel) (Nat.le_of_ble_eq_true rfl) rfl (fun M => ?_)
  refine q_lload_n dX4_judgeRoom_0 rfl ?_
  refine q_ldc2 dX4_judgeRoom_1 kl_X4_39 ?_
  refine q_lcmp_le 19 dX4_judgeRoom_4 dX4_judgeRoom_5 (by decide) (fun c4 => ?_) (fun c4 => ?_)
  · refine q_lload_n dX4_judgeRoom_19 rfl ?_
    refine q_lconst (v := 0) dX4_judgeRoom_20 (by decide) ?_
    refine q_lcmp_ge 37 dX4_judgeRoom_21 dX4_judgeRoom_22 (by decide) (fun c21 => ?_) (fun c21 => ?_)
    · refine q_lload_n dX4_judgeRoom_37 rfl ?_
      first | refine q_aload_n dX4_judgeRoom_38 rfl ?_ | refine q_aload_nN dX4_judgeRoom_38 rfl ?_
      refine q_getf dX4_judgeRoom_39 fk_X4_18_3 (by first | assumption | (simp only [zK_sF, zK_sI, zK_sJ, zK_sR]; assumption)) (by first | assumption | (simp only [zF_sF, zF_sI, zF_sJ, zF_sR, true_and, and_true, false_and, and_false, if_true, if_false, eq_self, reduceIte, Nat.reduceEqDiff, OfNat.ofNat_ne_zero, OfNat.zero_ne_ofNat, OfNat.ofNat_ne_one, OfNat.one_ne_ofNat, reduceCtorEq]; first | rfl | assumption)) ?_
      refine q_lcmp_lt 50 dX4_judgeRoom_42 dX4_judgeRoom_43 (by decide) (fun c42 => ?_) (fun c42 => ?_)
      · refine q_iconst (v := 0) dX4_judgeRoom_50 (by decide) ?_
        refine q_callSU ⟨RX4, "verdict", "(Z)I"⟩ dX4_judgeRoom_51 us_X4_22 us_X4_sm rfl us_st (c_X2_verdict l G _ _) rfl np_X2_verdict (by decide) (by decide) (by decide) (Nat.le_of_ble_eq_true rfl) (kI (fun r Z1 h => ?_))
        obtain ⟨rfl, rfl⟩ := h
        first | rw [if_neg (show ¬ (1 : Int32) = 0 by decide)] | rw [if_pos (show (0 : Int32) = 0 from rfl)]
        exact q_ireturn dX4_judgeRoom_54 rfl (by decide) (by decide) (by first | (subst c159; exact outP_l (nfV_d n0 n1 n2 n4) h) | exact outP_l (by simp only [nfV_0, nfV_1, nfV_2, nfV_3, nfV_4, sfV_3, sfV_0, *, if_true, if_false, reduceIte, eq_self, not_false_eq_true, not_true_eq_false, and_self, and_true, true_and]) h | exact outP_r (by simp only [nfV_0, nfV_1, nfV_2, nfV_3, nfV_4, sfV_3, sfV_0, *, if_true, if_false, reduceIte, eq_self, not_false_eq_true, not_true_eq_false, and_self, and_true, true_and]) | (refine outP_l ?_ h; simp only [rmV, *, if_true, if_false, reduceIte, eq_self, not_false_eq_true, not_true_eq_false, and_self, and_true, true_and]; done) | (refine outP_r ?_; simp only [rmV, *, if_true, if_false, reduceIte, eq_self, not_false_eq_true, not_true_eq_false, and_self, and_true, true_and]; done))
      · refine q_iconst (v := 1) dX4_judgeRoom_46 (by decide) ?_
        refine q_goto 51 dX4_judgeRoom_47 (by decide) ?_
        refine q_callSU ⟨RX4, "verdict", "(Z)I"⟩ dX4_judgeRoom_51 us_X4_22 us_X4_sm rfl us_st (c_X2_verdict l G _ _) rfl np_X2_verdict (by decide) (by decide) (by decide) (Nat.le_of_ble_eq_true rfl) (kI (fun r Z1 h => ?_))
        obtain ⟨rfl, rfl⟩ := h
        first | rw [if_neg (show ¬ (1 : Int32) = 0 by decide)] | rw [if_pos (show (0 : Int32) = 0 from rfl)]
        exact q_ireturn dX4_judgeRoom_54 rfl (by decide) (by decide) (by first | (subst c159; exact outP_l (nfV_d n0 n1 n2 n4) h) | exact outP_l (by simp only [nfV_0, nfV_1, nfV_2, nfV_3, nfV_4, sfV_3, sfV_0, *, if_true, if_false, reduceIte, eq_self, not_false_eq_true, not_true_eq_false, and_self, and_true, true_and]) h | exact outP_r (by simp only [nfV_0, nfV_1, nfV_2, nfV_3, nfV_4, sfV_3, sfV_0, *, if_true, if_false, reduceIte, eq_self, not_false_eq_true, not_true_eq_false, and_self, and_true, true_and]) | (refine outP_l ?_ h; simp only [rmV, *, if_true, if_false, reduceIte, eq_self, not_false_eq_true, not_true_eq_false, and_self, and_true, true_and]; done) | (refine outP_r ?_; simp only [rmV, *, if_true, if_false, reduceIte, eq_self, not_false_eq_true, not_true_eq_false, and_self, and_true, true_and]; done))
    · first | refine q_aload_n dX4_judgeRoom_25 rfl ?_ | refine q_aload_nN dX4_judgeRoom_25 rfl ?_
      refine q_iconst (v := 3) dX4_judgeRoom_26 (by decide) ?_
      first | refine q_aload_n dX4_judgeRoom_27 rfl ?_ | refine q_aload_nN dX4_judgeRoom_27 rfl ?_
      refine q_getf dX4_judgeRoom_28 fk_X4_26_3 (by first | assumption | (simp only [zK_sF, zK_sI, zK_sJ, zK_sR]; assumption)) (by first | assumption | (simp only [zF_sF, zF_sI, zF_sJ, zF_sR, true_and, and_true, false_and, and_false, if_true, if_false, eq_self, reduceIte, Nat.reduceEqDiff, OfNat.ofNat_ne_zero, OfNat.zero_ne_ofNat, OfNat.ofNat_ne_one, OfNat.one_ne_ofNat, reduceCtorEq]; first | rfl | assumption)) ?_
      refine q_callV 9 dX4_judgeRoom_31 mk_X4_29 rfl (by first | assumption | (simp only [zK_sF, zK_sI, zK_sJ, zK_sR]; assumption)) (c_X10_fail l G _ t fl 3 nm hKt hf) rfl np_X10_fail (by decide) (by decide) (by decide) (Nat.le_of_ble_eq_true rfl) (kI (fun r Z1 h => ?_))
      refine q_goto 54 dX4_judgeRoom_34 (by decide) ?_
      exact q_ireturn dX4_judgeRoom_54 rfl (by decide) (by decide) (by first | (subst c159; exact outP_l (nfV_d n0 n1 n2 n4) h) | exact outP_l (by simp only [nfV_0, nfV_1, nfV_2, nfV_3, nfV_4, sfV_3, sfV_0, *, if_true, if_false, reduceIte, eq_self, not_false_eq_true, not_true_eq_false, and_self, and_true, true_and]) h | exact outP_r (by simp only [nfV_0, nfV_1, nfV_2, nfV_3, nfV_4, sfV_3, sfV_0, *, if_true, if_false, reduceIte, eq_self, not_false_eq_true, not_true_eq_false, and_self, and_true, true_and]) | (refine outP_l ?_ h; simp only [rmV, *, if_true, if_false, reduceIte, eq_self, not_false_eq_true, not_true_eq_false, and_self, and_true, true_and]; done) | (refine outP_r ?_; simp only [rmV, *, if_true, if_false, reduceIte, eq_self, not_false_eq_true, not_true_eq_false, and_self, and_true, true_and]; done))
  · first | refine q_aload_n dX4_judgeRoom_8 rfl ?_ | refine q_aload_nN dX4_judgeRoom_8 rfl ?_
    refine q_bipush (v := 7) dX4_judgeRoom_9 (by decide) ?_
    first | refine q_aload_n dX4_judgeRoom_11 rfl ?_ | refine q_aload_nN dX4_judgeRoom_11 rfl ?_
    refine q_getf dX4_judgeRoom_12 fk_X4_26_3 (by first | assumption | (simp only [zK_sF, zK_sI, zK_sJ, zK_sR]; assumption)) (by first | assumption | (simp only [zF_sF, zF_sI, zF_sJ, zF_sR, true_and, and_true, false_and, and_false, if_true, if_false, eq_self, reduceIte, Nat.reduceEqDiff, OfNat.ofNat_ne_zero, OfNat.zero_ne_ofNat, OfNat.ofNat_ne_one, OfNat.one_ne_ofNat, reduceCtorEq]; first | rfl | assumption)) ?_
    refine q_callV 9 dX4_judgeRoom_15 mk_X4_29 rfl (by first | assumption | (simp only [zK_sF, zK_sI, zK_sJ, zK_sR]; assumption)) (c_X10_fail l G _ t fl 7 nm hKt hf) rfl np_X10_fail (by decide) (by decide) (by decide) (Nat.le_of_ble_eq_true rfl) (kI (fun r Z1 h => ?_))
    exact q_ireturn dX4_judgeRoom_18 rfl (by decide) (by decide) (by first | (subst c159; exact outP_l (nfV_d n0 n1 n2 n4) h) | exact outP_l (by simp only [nfV_0, nfV_1, nfV_2, nfV_3, nfV_4, sfV_3, sfV_0, *, if_true, if_false, reduceIte, eq_self, not_false_eq_true, not_true_eq_false, and_self, and_true, true_and]) h | exact outP_r (by simp only [nfV_0, nfV_1, nfV_2, nfV_3, nfV_4, sfV_3, sfV_0, *, if_true, if_false, reduceIte, eq_self, not_false_eq_true, not_true_eq_false, and_self, and_true, true_and]) | (refine outP_l ?_ h; simp only [rmV, *, if_true, if_false, reduceIte, eq_self, not_false_eq_true, not_true_eq_false, and_self, and_true, true_and]; done) | (refine outP_r ?_; simp only [rmV, *, if_true, if_false, reduceIte, eq_self, not_false_eq_true, not_true_eq_false, and_self, and_true, true_and]; done))
set_option maxHeartbeats 4000000 in
set_option maxRecDepth 100000 in
theorem c_X4_judge (l : Launch) (G : Gt) (Z : Zt) (a t : Nat) (nm kd ai fl : Int32) (v c : Int64) (hK : zK Z a = 4) (h0 : zF Z 0 a = .int nm) (h2 : zF Z 2 a = .int kd) (h3 : zF Z 3 a = .int ai) (h4 : zF Z 4 a = .long v) (hKt : zK Z t = 10) (hf : zF Z 4 t = .int fl) : Ct l G YX4_judge (2, 0, 0) Z [.ref a, .long c, .ref t] (ΦI (fun r Z1 => outP Z Z1 t fl nm r (nfV kd ai v c))) := by
  refine ct_of [some (.ref a), some (.long c), none, some (.ref t)] (by decide +kernel) (Nat.le_of_ble_eq_true rfl) rfl (fun M => ?_)
  first | refine q_aload_n dX4_judge_0 rfl ?_ | refine q_aload_nN dX4_judge_0 rfl ?_
  refine q_getf dX4_judge_1 fk_X4_9_3 (by first | assumption | (simp only [zK_sF, zK_sI, zK_sJ, zK_sR]; assumption)) (by first | assumption | (simp only [zF_sF, zF_sI, zF_sJ, zF_sR, true_and, and_true, false_and, and_false, if_true, if_false, eq_self, reduceIte, Nat.reduceEqDiff, OfNat.ofNat_ne_zero, OfNat.zero_ne_ofNat, OfNat.ofNat_ne_one, OfNat.one_ne_ofNat, reduceCtorEq]; first | rfl | assumption)) ?_
  refine q_tsw [(0, 40), (1, 58), (2, 104), (3, 154), (4, 147)] 154 dX4_judge_4 (by decide) (by decide) (by decide) (by decide) (fun q hq c4 => ?_) (fun c4 => ?_)
  · rcases List.mem_cons.mp hq with rfl | hq
    · dsimp only at c4 ⊢
      subst c4
      refine q_lload_n dX4_judge_40 rfl ?_
      first | refine q_aload_n dX4_judge_41 rfl ?_ | refine q_aload_nN dX4_judge_41 rfl ?_
      refine q_getf dX4_judge_42 fk_X4_18_3 (by first | assumption | (simp only [zK_sF, zK_sI, zK_sJ, zK_sR]; assumption)) (by first | assumption | (simp only [zF_sF, zF_sI, zF_sJ, zF_sR, true_and, and_true, false_and, and_false, if_true, if_false, eq_self, reduceIte, Nat.reduceEqDiff, OfNat.ofNat_ne_zero, OfNat.zero_ne_ofNat, OfNat.ofNat_ne_one, OfNat.one_ne_ofNat, reduceCtorEq]; first | rfl | assumption)) ?_
      refine q_lcmp_ge 53 dX4_judge_45 dX4_judge_46 (by decide) (fun c45 => ?_) (fun c45 => ?_)
      · refine q_iconst (v := 0) dX4_judge_53 (by decide) ?_
        refine q_callSU ⟨RX4, "verdict", "(Z)I"⟩ dX4_judge_54 us_X4_22 us_X4_sm rfl us_st (c_X2_verdict l G _ _) rfl np_X2_verdict (by decide) (by decide) (by decide) (Nat.le_of_ble_eq_true rfl) (kI (fun r Z1 h => ?_))
        obtain ⟨rfl, rfl⟩ := h
        first | rw [if_neg (show ¬ (1 : Int32) = 0 by decide)] | rw [if_pos (show (0 : Int32) = 0 from rfl)]
        exact q_ireturn dX4_judge_57 rfl (by decide) (by decide) (by first | (subst c159; exact outP_l (nfV_d n0 n1 n2 n4) h) | exact outP_l (by simp only [nfV_0, nfV_1, nfV_2, nfV_3, nfV_4, sfV_3, sfV_0, *, if_true, if_false, reduceIte, eq_self, not_false_eq_true, not_true_eq_false, and_self, and_true, true_and]) h | exact outP_r (by simp only [nfV_0, nfV_1, nfV_2, nfV_3, nfV_4, sfV_3, sfV_0, *, if_true, if_false, reduceIte, eq_self, not_false_eq_true, not_true_eq_false, and_self, and_true, true_and]) | (refine outP_l ?_ h; simp only [nfV, *, if_true, if_false, reduceIte, eq_self, not_false_eq_true, not_true_eq_false, and_self, and_true, true_and]; done) | (refine outP_r ?_; simp only [nfV, *, if_true, if_false, reduceIte, eq_self, not_false_eq_true, not_true_eq_false, and_self, and_true, true_and]; done))
      · refine q_iconst (v := 1) dX4_judge_49 (by decide) ?_
        refine q_goto 54 dX4_judge_50 (by decide) ?_
        refine q_callSU ⟨RX4, "verdict", "(Z)I"⟩ dX4_judge_54 us_X4_22 us_X4_sm rfl us_st (c_X2_verdict l G _ _) rfl np_X2_verdict (by decide) (by decide) (by decide) (Nat.le_of_ble_eq_true rfl) (kI (fun r Z1 h => ?_))
        obtain ⟨rfl, rfl⟩ := h
        first | rw [if_neg (show ¬ (1 : Int32) = 0 by decide)] | rw [if_pos (show (0 : Int32) = 0 from rfl)]
        exact q_ireturn dX4_judge_57 rfl (by decide) (by decide) (by first | (subst c159; exact outP_l (nfV_d n0 n1 n2 n4) h) | exact outP_l (by simp only [nfV_0, nfV_1, nfV_2, nfV_3, nfV_4, sfV_3, sfV_0, *, if_true, if_false, reduceIte, eq_self, not_false_eq_true, not_true_eq_false, and_self, and_true, true_and]) h | exact outP_r (by simp only [nfV_0, nfV_1, nfV_2, nfV_3, nfV_4, sfV_3, sfV_0, *, if_true, if_false, reduceIte, eq_self, not_false_eq_true, not_true_eq_false, and_self, and_true, true_and]) | (refine outP_l ?_ h; simp only [nfV, *, if_true, if_false, reduceIte, eq_self, not_false_eq_true, not_true_eq_false, and_self, and_true, true_and]; done) | (refine outP_r ?_; simp only [nfV, *, if_true, if_false, reduceIte, eq_self, not_false_eq_true, not_true_eq_false, and_self, and_true, true_and]; done))
    rcases List.mem_cons.mp hq with rfl | hq
    · dsimp only at c4 ⊢
      subst c4
      first | refine q_aload_n dX4_judge_58 rfl ?_ | refine q_aload_nN dX4_judge_58 rfl ?_
      refine q_getf dX4_judge_59 fk_X4_18_3 (by first | assumption | (simp only [zK_sF, zK_sI, zK_sJ, zK_sR]; assumption)) (by first | assumption | (simp only [zF_sF, zF_sI, zF_sJ, zF_sR, true_and, and_true, false_and, and_false, if_true, if_false, eq_self, reduceIte, Nat.reduceEqDiff, OfNat.ofNat_ne_zero, OfNat.zero_ne_ofNat, OfNat.ofNat_ne_one, OfNat.one_ne_ofNat, reduceCtorEq]; first | rfl | assumption)) ?_
      refine q_lconst (v := 0) dX4_judge_62 (by decide) ?_
      refine q_lcmp_ne 80 dX4_judge_63 dX4_judge_64 (by decide) (fun c63 => ?_) (fun c63 => ?_)
      · refine q_lload_n dX4_judge_80 rfl ?_
        first | refine q_aload_n dX4_judge_81 rfl ?_ | refine q_aload_nN dX4_judge_81 rfl ?_
        refine q_getf dX4_judge_82 fk_X4_18_3 (by first | assumption | (simp only [zK_sF, zK_sI, zK_sJ, zK_sR]; assumption)) (by first | assumption | (simp only [zF_sF, zF_sI, zF_sJ, zF_sR, true_and, and_true, false_and, and_false, if_true, if_false, eq_self, reduceIte, Nat.reduceEqDiff, OfNat.ofNat_ne_zero, OfNat.zero_ne_ofNat, OfNat.ofNat_ne_one, OfNat.one_ne_ofNat, reduceCtorEq]; first | rfl | assumption)) ?_
        refine q_lrem dX4_judge_85 (by assumption) ?_
        first | refine q_aload_n dX4_judge_86 rfl ?_ | refine q_aload_nN dX4_judge_86 rfl ?_
        refine q_getf dX4_judge_87 fk_X4_15_3 (by first | assumption | (simp only [zK_sF, zK_sI, zK_sJ, zK_sR]; assumption)) (by first | assumption | (simp only [zF_sF, zF_sI, zF_sJ, zF_sR, true_and, and_true, false_and, and_false, if_true, if_false, eq_self, reduceIte, Nat.reduceEqDiff, OfNat.ofNat_ne_zero, OfNat.zero_ne_ofNat, OfNat.ofNat_ne_one, OfNat.one_ne_ofNat, reduceCtorEq]; first | rfl | assumption)) ?_
        refine q_i2l dX4_judge_90 ?_
        refine q_lcmp_ne 99 dX4_judge_91 dX4_judge_92 (by decide) (fun c91 => ?_) (fun c91 => ?_)
        · refine q_iconst (v := 0) dX4_judge_99 (by decide) ?_
          refine q_callSU ⟨RX4, "verdict", "(Z)I"⟩ dX4_judge_100 us_X4_22 us_X4_sm rfl us_st (c_X2_verdict l G _ _) rfl np_X2_verdict (by decide) (by decide) (by decide) (Nat.le_of_ble_eq_true rfl) (kI (fun r Z1 h => ?_))
          obtain ⟨rfl, rfl⟩ := h
          first | rw [if_neg (show ¬ (1 : Int32) = 0 by decide)] | rw [if_pos (show (0 : Int32) = 0 from rfl)]
          exact q_ireturn dX4_judge_103 rfl (by decide) (by decide) (by first | (subst c159; exact outP_l (nfV_d n0 n1 n2 n4) h) | exact outP_l (by simp only [nfV_0, nfV_1, nfV_2, nfV_3, nfV_4, sfV_3, sfV_0, *, if_true, if_false, reduceIte, eq_self, not_false_eq_true, not_true_eq_false, and_self, and_true, true_and]) h | exact outP_r (by simp only [nfV_0, nfV_1, nfV_2, nfV_3, nfV_4, sfV_3, sfV_0, *, if_true, if_false, reduceIte, eq_self, not_false_eq_true, not_true_eq_false, and_self, and_true, true_and]) | (refine outP_l ?_ h; simp only [nfV, *, if_true, if_false, reduceIte, eq_self, not_false_eq_true, not_true_eq_false, and_self, and_true, true_and]; done) | (refine outP_r ?_; simp only [nfV, *, if_true, if_false, reduceIte, eq_self, not_false_eq_true, not_true_eq_false, and_self, and_true, true_and]; done))
        · refine q_iconst (v := 1) dX4_judge_95 (by decide) ?_
          refine q_goto 100 dX4_judge_96 (by decide) ?_
          refine q_callSU ⟨RX4, "verdict", "(Z)I"⟩ dX4_judge_100 us_X4_22 us_X4_sm rfl us_st (c_X2_verdict l G _ _) rfl np_X2_verdict (by decide) (by decide) (by decide) (Nat.le_of_ble_eq_true rfl) (kI (fun r Z1 h => ?_))
          obtain ⟨rfl, rfl⟩ := h
          first | rw [if_neg (show ¬ (1 : Int32) = 0 by decide)] | rw [if_pos (show (0 : Int32) = 0 from rfl)]
          exact q_ireturn dX4_judge_103 rfl (by decide) (by decide) (by first | (subst c159; exact outP_l (nfV_d n0 n1 n2 n4) h) | exact outP_l (by simp only [nfV_0, nfV_1, nfV_2, nfV_3, nfV_4, sfV_3, sfV_0, *, if_true, if_false, reduceIte, eq_self, not_false_eq_true, not_true_eq_false, and_self, and_true, true_and]) h | exact outP_r (by simp only [nfV_0, nfV_1, nfV_2, nfV_3, nfV_4, sfV_3, sfV_0, *, if_true, if_false, reduceIte, eq_self, not_false_eq_true, not_true_eq_false, and_self, and_true, true_and]) | (refine outP_l ?_ h; simp only [nfV, *, if_true, if_false, reduceIte, eq_self, not_false_eq_true, not_true_eq_false, and_self, and_true, true_and]; done) | (refine outP_r ?_; simp only [nfV, *, if_true, if_false, reduceIte, eq_self, not_false_eq_true, not_true_eq_false, and_self, and_true, true_and]; done))
      · first | refine q_aload_n dX4_judge_67 rfl ?_ | refine q_aload_nN dX4_judge_67 rfl ?_
        refine q_bipush (v := 6) dX4_judge_68 (by decide) ?_
        first | refine q_aload_n dX4_judge_70 rfl ?_ | refine q_aload_nN dX4_judge_70 rfl ?_
        refine q_getf dX4_judge_71 fk_X4_26_3 (by first | assumption | (simp only [zK_sF, zK_sI, zK_sJ, zK_sR]; assumption)) (by first | assumption | (simp only [zF_sF, zF_sI, zF_sJ, zF_sR, true_and, and_true, false_and, and_false, if_true, if_false, eq_self, reduceIte, Nat.reduceEqDiff, OfNat.ofNat_ne_zero, OfNat.zero_ne_ofNat, OfNat.ofNat_ne_one, OfNat.one_ne_ofNat, reduceCtorEq]; first | rfl | assumption)) ?_
        refine q_callV 9 dX4_judge_74 mk_X4_29 rfl (by first | assumption | (simp only [zK_sF, zK_sI, zK_sJ, zK_sR]; assumption)) (c_X10_fail l G _ t fl 6 nm hKt hf) rfl np_X10_fail (by decide) (by decide) (by decide) (Nat.le_of_ble_eq_true rfl) (kI (fun r Z1 h => ?_))
        refine q_goto 103 dX4_judge_77 (by decide) ?_
        exact q_ireturn dX4_judge_103 rfl (by decide) (by decide) (by first | (subst c159; exact outP_l (nfV_d n0 n1 n2 n4) h) | exact outP_l (by simp only [nfV_0, nfV_1, nfV_2, nfV_3, nfV_4, sfV_3, sfV_0, *, if_true, if_false, reduceIte, eq_self, not_false_eq_true, not_true_eq_false, and_self, and_true, true_and]) h | exact outP_r (by simp only [nfV_0, nfV_1, nfV_2, nfV_3, nfV_4, sfV_3, sfV_0, *, if_true, if_false, reduceIte, eq_self, not_false_eq_true, not_true_eq_false, and_self, and_true, true_and]) | (refine outP_l ?_ h; simp only [nfV, *, if_true, if_false, reduceIte, eq_self, not_false_eq_true, not_true_eq_false, and_self, and_true, true_and]; done) | (refine outP_r ?_; simp only [nfV, *, if_true, if_false, reduceIte, eq_self, not_false_eq_true, not_true_eq_false, and_self, and_true, true_and]; done))
    rcases List.mem_cons.mp hq with rfl | hq
    · dsimp only at c4 ⊢
      subst c4
      refine q_lload_n dX4_judge_104 rfl ?_
      refine q_lconst (v := 0) dX4_judge_105 (by decide) ?_
      refine q_lcmp_ne 123 dX4_judge_106 dX4_judge_107 (by decide) (fun c106 => ?_) (fun c106 => ?_)
      · first | refine q_aload_n dX4_judge_123 rfl ?_ | refine q_aload_nN dX4_judge_123 rfl ?_
        refine q_getf dX4_judge_124 fk_X4_18_3 (by first | assumption | (simp only [zK_sF, zK_sI, zK_sJ, zK_sR]; assumption)) (by first | assumption | (simp only [zF_sF, zF_sI, zF_sJ, zF_sR, true_and, and_true, false_and, and_false, if_true, if_false, eq_self, reduceIte, Nat.reduceEqDiff, OfNat.ofNat_ne_zero, OfNat.zero_ne_ofNat, OfNat.ofNat_ne_one, OfNat.one_ne_ofNat, reduceCtorEq]; first | rfl | assumption)) ?_
        refine q_lload_n dX4_judge_127 rfl ?_
        refine q_ldiv dX4_judge_128 (by assumption) ?_
        first | refine q_aload_n dX4_judge_129 rfl ?_ | refine q_aload_nN dX4_judge_129 rfl ?_
        refine q_getf dX4_judge_130 fk_X4_15_3 (by first | assumption | (simp only [zK_sF, zK_sI, zK_sJ, zK_sR]; assumption)) (by first | assumption | (simp only [zF_sF, zF_sI, zF_sJ, zF_sR, true_and, and_true, false_and, and_false, if_true, if_false, eq_self, reduceIte, Nat.reduceEqDiff, OfNat.ofNat_ne_zero, OfNat.zero_ne_ofNat, OfNat.ofNat_ne_one, OfNat.one_ne_ofNat, reduceCtorEq]; first | rfl | assumption)) ?_
        refine q_i2l dX4_judge_133 ?_
        refine q_lcmp_le 142 dX4_judge_134 dX4_judge_135 (by decide) (fun c134 => ?_) (fun c134 => ?_)
        · refine q_iconst (v := 0) dX4_judge_142 (by decide) ?_
          refine q_callSU ⟨RX4, "verdict", "(Z)I"⟩ dX4_judge_143 us_X4_22 us_X4_sm rfl us_st (c_X2_verdict l G _ _) rfl np_X2_verdict (by decide) (by decide) (by decide) (Nat.le_of_ble_eq_true rfl) (kI (fun r Z1 h => ?_))
          obtain ⟨rfl, rfl⟩ := h
          first | rw [if_neg (show ¬ (1 : Int32) = 0 by decide)] | rw [if_pos (show (0 : Int32) = 0 from rfl)]
          exact q_ireturn dX4_judge_146 rfl (by decide) (by decide) (by first | (subst c159; exact outP_l (nfV_d n0 n1 n2 n4) h) | exact outP_l (by simp only [nfV_0, nfV_1, nfV_2, nfV_3, nfV_4, sfV_3, sfV_0, *, if_true, if_false, reduceIte, eq_self, not_false_eq_true, not_true_eq_false, and_self, and_true, true_and]) h | exact outP_r (by simp only [nfV_0, nfV_1, nfV_2, nfV_3, nfV_4, sfV_3, sfV_0, *, if_true, if_false, reduceIte, eq_self, not_false_eq_true, not_true_eq_false, and_self, and_true, true_and]) | (refine outP_l ?_ h; simp only [nfV, *, if_true, if_false, reduceIte, eq_self, not_false_eq_true, not_true_eq_false, and_self, and_true, true_and]; done) | (refine outP_r ?_; simp only [nfV, *, if_true, if_false, reduceIte, eq_self, not_false_eq_true, not_true_eq_false, and_self, and_true, true_and]; done))
        · refine q_iconst (v := 1) dX4_judge_138 (by decide) ?_
          refine q_goto 143 dX4_judge_139 (by decide) ?_
          refine q_callSU ⟨RX4, "verdict", "(Z)I"⟩ dX4_judge_143 us_X4_22 us_X4_sm rfl us_st (c_X2_verdict l G _ _) rfl np_X2_verdict (by decide) (by decide) (by decide) (Nat.le_of_ble_eq_true rfl) (kI (fun r Z1 h => ?_))
          obtain ⟨rfl, rfl⟩ := h
          first | rw [if_neg (show ¬ (1 : Int32) = 0 by decide)] | rw [if_pos (show (0 : Int32) = 0 from rfl)]
          exact q_ireturn dX4_judge_146 rfl (by decide) (by decide) (by first | (subst c159; exact outP_l (nfV_d n0 n1 n2 n4) h) | exact outP_l (by simp only [nfV_0, nfV_1, nfV_2, nfV_3, nfV_4, sfV_3, sfV_0, *, if_true, if_false, reduceIte, eq_self, not_false_eq_true, not_true_eq_false, and_self, and_true, true_and]) h | exact outP_r (by simp only [nfV_0, nfV_1, nfV_2, nfV_3, nfV_4, sfV_3, sfV_0, *, if_true, if_false, reduceIte, eq_self, not_false_eq_true, not_true_eq_false, and_self, and_true, true_and]) | (refine outP_l ?_ h; simp only [nfV, *, if_true, if_false, reduceIte, eq_self, not_false_eq_true, not_true_eq_false, and_self, and_true, true_and]; done) | (refine outP_r ?_; simp only [nfV, *, if_true, if_false, reduceIte, eq_self, not_false_eq_true, not_true_eq_false, and_self, and_true, true_and]; done))
      · first | refine q_aload_n dX4_judge_110 rfl ?_ | refine q_aload_nN dX4_judge_110 rfl ?_
        refine q_bipush (v := 6) dX4_judge_111 (by decide) ?_
        first | refine q_aload_n dX4_judge_113 rfl ?_ | refine q_aload_nN dX4_judge_113 rfl ?_
        refine q_getf dX4_judge_114 fk_X4_26_3 (by first | assumption | (simp only [zK_sF, zK_sI, zK_sJ, zK_sR]; assumption)) (by first | assumption | (simp only [zF_sF, zF_sI, zF_sJ, zF_sR, true_and, and_true, false_and, and_false, if_true, if_false, eq_self, reduceIte, Nat.reduceEqDiff, OfNat.ofNat_ne_zero, OfNat.zero_ne_ofNat, OfNat.ofNat_ne_one, OfNat.one_ne_ofNat, reduceCtorEq]; first | rfl | assumption)) ?_
        refine q_callV 9 dX4_judge_117 mk_X4_29 rfl (by first | assumption | (simp only [zK_sF, zK_sI, zK_sJ, zK_sR]; assumption)) (c_X10_fail l G _ t fl 6 nm hKt hf) rfl np_X10_fail (by decide) (by decide) (by decide) (Nat.le_of_ble_eq_true rfl) (kI (fun r Z1 h => ?_))
        refine q_goto 146 dX4_judge_120 (by decide) ?_
        exact q_ireturn dX4_judge_146 rfl (by decide) (by decide) (by first | (subst c159; exact outP_l (nfV_d n0 n1 n2 n4) h) | exact outP_l (by simp only [nfV_0, nfV_1, nfV_2, nfV_3, nfV_4, sfV_3, sfV_0, *, if_true, if_false, reduceIte, eq_self, not_false_eq_true, not_true_eq_false, and_self, and_true, true_and]) h | exact outP_r (by simp only [nfV_0, nfV_1, nfV_2, nfV_3, nfV_4, sfV_3, sfV_0, *, if_true, if_false, reduceIte, eq_self, not_false_eq_true, not_true_eq_false, and_self, and_true, true_and]) | (refine outP_l ?_ h; simp only [nfV, *, if_true, if_false, reduceIte, eq_self, not_false_eq_true, not_true_eq_false, and_self, and_true, true_and]; done) | (refine outP_r ?_; simp only [nfV, *, if_true, if_false, reduceIte, eq_self, not_false_eq_true, not_true_eq_false, and_self, and_true, true_and]; done))
    rcases List.mem_cons.mp hq with rfl | hq
    · dsimp only at c4 ⊢
      subst c4
      refine q_lload_n dX4_judge_154 rfl ?_
      first | refine q_aload_n dX4_judge_155 rfl ?_ | refine q_aload_nN dX4_judge_155 rfl ?_
      refine q_getf dX4_judge_156 fk_X4_18_3 (by first | assumption | (simp only [zK_sF, zK_sI, zK_sJ, zK_sR]; assumption)) (by first | assumption | (simp only [zF_sF, zF_sI, zF_sJ, zF_sR, true_and, and_true, false_and, and_false, if_true, if_false, eq_self, reduceIte, Nat.reduceEqDiff, OfNat.ofNat_ne_zero, OfNat.zero_ne_ofNat, OfNat.ofNat_ne_one, OfNat.one_ne_ofNat, reduceCtorEq]; first | rfl | assumption)) ?_
      refine q_lcmp_ne 176 dX4_judge_159 dX4_judge_160 (by decide) (fun c159 => ?_) (fun c159 => ?_)
      · refine q_iconst (v := 1) dX4_judge_176 (by decide) ?_
        exact q_ireturn dX4_judge_177 rfl (by decide) (by decide) (by first | (subst c159; exact outP_l (nfV_d n0 n1 n2 n4) h) | exact outP_l (by simp only [nfV_0, nfV_1, nfV_2, nfV_3, nfV_4, sfV_3, sfV_0, *, if_true, if_false, reduceIte, eq_self, not_false_eq_true, not_true_eq_false, and_self, and_true, true_and]) h | exact outP_r (by simp only [nfV_0, nfV_1, nfV_2, nfV_3, nfV_4, sfV_3, sfV_0, *, if_true, if_false, reduceIte, eq_self, not_false_eq_true, not_true_eq_false, and_self, and_true, true_and]) | (refine outP_l ?_ h; simp only [nfV, *, if_true, if_false, reduceIte, eq_self, not_false_eq_true, not_true_eq_false, and_self, and_true, true_and]; done) | (refine outP_r ?_; simp only [nfV, *, if_true, if_false, reduceIte, eq_self, not_false_eq_true, not_true_eq_false, and_self, and_true, true_and]; done))
      · first | refine q_aload_n dX4_judge_163 rfl ?_ | refine q_aload_nN dX4_judge_163 rfl ?_
        refine q_bipush (v := 7) dX4_judge_164 (by decide) ?_
        first | refine q_aload_n dX4_judge_166 rfl ?_ | refine q_aload_nN dX4_judge_166 rfl ?_
        refine q_getf dX4_judge_167 fk_X4_26_3 (by first | assumption | (simp only [zK_sF, zK_sI, zK_sJ, zK_sR]; assumption)) (by first | assumption | (simp only [zF_sF, zF_sI, zF_sJ, zF_sR, true_and, and_true, false_and, and_false, if_true, if_false, eq_self, reduceIte, Nat.reduceEqDiff, OfNat.ofNat_ne_zero, OfNat.zero_ne_ofNat, OfNat.ofNat_ne_one, OfNat.one_ne_ofNat, reduceCtorEq]; first | rfl | assumption)) ?_
        refine q_callV 9 dX4_judge_170 mk_X4_29 rfl (by first | assumption | (simp only [zK_sF, zK_sI, zK_sJ, zK_sR]; assumption)) (c_X10_fail l G _ t fl 7 nm hKt hf) rfl np_X10_fail (by decide) (by decide) (by decide) (Nat.le_of_ble_eq_true rfl) (kI (fun r Z1 h => ?_))
        refine q_goto 177 dX4_judge_173 (by decide) ?_
        exact q_ireturn dX4_judge_177 rfl (by decide) (by decide) (by first | (subst c159; exact outP_l (nfV_d n0 n1 n2 n4) h) | exact outP_l (by simp only [nfV_0, nfV_1, nfV_2, nfV_3, nfV_4, sfV_3, sfV_0, *, if_true, if_false, reduceIte, eq_self, not_false_eq_true, not_true_eq_false, and_self, and_true, true_and]) h | exact outP_r (by simp only [nfV_0, nfV_1, nfV_2, nfV_3, nfV_4, sfV_3, sfV_0, *, if_true, if_false, reduceIte, eq_self, not_false_eq_true, not_true_eq_false, and_self, and_true, true_and]) | (refine outP_l ?_ h; simp only [nfV, *, if_true, if_false, reduceIte, eq_self, not_false_eq_true, not_true_eq_false, and_self, and_true, true_and]; done) | (refine outP_r ?_; simp only [nfV, *, if_true, if_false, reduceIte, eq_self, not_false_eq_true, not_true_eq_false, and_self, and_true, true_and]; done))
    rcases List.mem_cons.mp hq with rfl | hq
    · dsimp only at c4 ⊢
      subst c4
      first | refine q_aload_n dX4_judge_147 rfl ?_ | refine q_aload_nN dX4_judge_147 rfl ?_
      refine q_lload_n dX4_judge_148 rfl ?_
      first | refine q_aload_n dX4_judge_149 rfl ?_ | refine q_aload_nN dX4_judge_149 rfl ?_
      refine q_callV 3 dX4_judge_150 mk_X4_35 rfl (by first | assumption | (simp only [zK_sF, zK_sI, zK_sJ, zK_sR]; assumption)) (c_X4_judgeRoom l G _ a t nm 4 ai fl v c hK h0 h2 h3 h4 hKt hf) rfl np_X4_judgeRoom (by decide) (by decide) (by decide) (Nat.le_of_ble_eq_true rfl) (kI (fun r Z1 h => ?_))
      exact q_ireturn dX4_judge_153 rfl (by decide) (by decide) (by rw [nfV_4]; exact h)
    exact absurd hq List.not_mem_nil
  · have n0 : ¬ kd = 0 := c4 (0, 40) (by simp)
    have n1 : ¬ kd = 1 := c4 (1, 58) (by simp)
    have n2 : ¬ kd = 2 := c4 (2, 104) (by simp)
    have n4 : ¬ kd = 4 := c4 (4, 147) (by simp)
    refine q_lload_n dX4_judge_154 rfl ?_
    first | refine q_aload_n dX4_judge_155 rfl ?_ | refine q_aload_nN dX4_judge_155 rfl ?_
    refine q_getf dX4_judge_156 fk_X4_18_3 (by first | assumption | (simp only [zK_sF, zK_sI, zK_sJ, zK_sR]; assumption)) (by first | assumption | (simp only [zF_sF, zF_sI, zF_sJ, zF_sR, true_and, and_true, false_and, and_false, if_true, if_false, eq_self, reduceIte, Nat.reduceEqDiff, OfNat.ofNat_ne_zero, OfNat.zero_ne_ofNat, OfNat.ofNat_ne_one, OfNat.one_ne_ofNat, reduceCtorEq]; first | rfl | assumption)) ?_
    refine q_lcmp_ne 176 dX4_judge_159 dX4_judge_160 (by decide) (fun c159 => ?_) (fun c159 => ?_)
    · refine q_iconst (v := 1) dX4_judge_176 (by decide) ?_
      exact q_ireturn dX4_judge_177 rfl (by decide) (by decide) (by first | (subst c159; exact outP_l (nfV_d n0 n1 n2 n4) h) | exact outP_l (by simp only [nfV_0, nfV_1, nfV_2, nfV_3, nfV_4, sfV_3, sfV_0, *, if_true, if_false, reduceIte, eq_self, not_false_eq_true, not_true_eq_false, and_self, and_true, true_and]) h | exact outP_r (by simp only [nfV_0, nfV_1, nfV_2, nfV_3, nfV_4, sfV_3, sfV_0, *, if_true, if_false, reduceIte, eq_self, not_false_eq_true, not_true_eq_false, and_self, and_true, true_and]) | (refine outP_l ?_ h; simp only [nfV, *, if_true, if_false, reduceIte, eq_self, not_false_eq_true, not_true_eq_false, and_self, and_true, true_and]; done) | (refine outP_r ?_; simp only [nfV, *, if_true, if_false, reduceIte, eq_self, not_false_eq_true, not_true_eq_false, and_self, and_true, true_and]; done))
    · first | refine q_aload_n dX4_judge_163 rfl ?_ | refine q_aload_nN dX4_judge_163 rfl ?_
      refine q_bipush (v := 7) dX4_judge_164 (by decide) ?_
      first | refine q_aload_n dX4_judge_166 rfl ?_ | refine q_aload_nN dX4_judge_166 rfl ?_
      refine q_getf dX4_judge_167 fk_X4_26_3 (by first | assumption | (simp only [zK_sF, zK_sI, zK_sJ, zK_sR]; assumption)) (by first | assumption | (simp only [zF_sF, zF_sI, zF_sJ, zF_sR, true_and, and_true, false_and, and_false, if_true, if_false, eq_self, reduceIte, Nat.reduceEqDiff, OfNat.ofNat_ne_zero, OfNat.zero_ne_ofNat, OfNat.ofNat_ne_one, OfNat.one_ne_ofNat, reduceCtorEq]; first | rfl | assumption)) ?_
      refine q_callV 9 dX4_judge_170 mk_X4_29 rfl (by first | assumption | (simp only [zK_sF, zK_sI, zK_sJ, zK_sR]; assumption)) (c_X10_fail l G _ t fl 7 nm hKt hf) rfl np_X10_fail (by decide) (by decide) (by decide) (Nat.le_of_ble_eq_true rfl) (kI (fun r Z1 h => ?_))
      refine q_goto 177 dX4_judge_173 (by decide) ?_
      exact q_ireturn dX4_judge_177 rfl (by decide) (by decide) (by first | (subst c159; exact outP_l (nfV_d n0 n1 n2 n4) h) | exact outP_l (by simp only [nfV_0, nfV_1, nfV_2, nfV_3, nfV_4, sfV_3, sfV_0, *, if_true, if_false, reduceIte, eq_self, not_false_eq_true, not_true_eq_false, and_self, and_true, true_and]) h | exact outP_r (by simp only [nfV_0, nfV_1, nfV_2, nfV_3, nfV_4, sfV_3, sfV_0, *, if_true, if_false, reduceIte, eq_self, not_false_eq_true, not_true_eq_false, and_self, and_true, true_and]) | (refine outP_l ?_ h; simp only [nfV, *, if_true, if_false, reduceIte, eq_self, not_false_eq_true, not_true_eq_false, and_self, and_true, true_and]; done) | (refine outP_r ?_; simp only [nfV, *, if_true, if_false, reduceIte, eq_self, not_false_eq_true, not_true_eq_false, and_self, and_true, true_and]; done))
theorem in12L {c : Int64} (h0 : ¬ c < 0) (h : ¬ 12 ≤ c) : vp_in c.toInt32 12 ∧ c.toInt32.toNatClampNeg = uN c ∧ uN c < 12 := by
  obtain ⟨h1, h2⟩ := uN_pos h0
  have h3 : c.toInt < 12 := by have := Int64.lt_iff_toInt_lt.mp (Int64.not_le.mp h); simpa using this
  have h4 : uN c < 12 := by omega
  have h5 : c = lN (uN c) := uN_inj (by rw [uN_ofNat (uN_lt c)])
  have h6 : c.toInt32 = nI (uN c) := by rw [h5, lN_i, ← h5]
  rw [h6]
  exact ⟨vp_in_nI h4 (by decide), nI_clamp (by omega), h4⟩
set_option maxHeartbeats 4000000 in
set_option maxRecDepth 100000 in
theorem c_X7_judge (l : Launch) (G : Gt) (Z : Zt) (a t hs it : Nat) (nm wt skd cn pt fl : Int32) (v c : Int64) (hK : zK Z a = 7) (h0 : zF Z 0 a = .int nm) (h2 : zF Z 2 a = .ref hs) (h3 : zF Z 3 a = .int wt) (h4 : zF Z 4 a = .long v) (hKs : zK Z hs = 6) (s0 : zF Z 0 hs = .ref it) (s1 : zF Z 1 hs = .int skd) (s2 : zF Z 2 hs = .int cn) (s3 : zF Z 3 hs = .int pt) (hKi : zK Z it = 21) (hLi : zL Z it = 12) (hKt : zK Z t = 10) (hf : zF Z 4 t = .int fl) : Ct l G YX7_judge (1, 0, 0) Z [.ref a, .long c, .ref t] (ΦI (fun r Z1 => outP Z Z1 t fl nm r (sfV wt skd cn pt v (zJ Z it) c))) := by
  refine ct_of [some (.ref a), some (.long c), none, some (.ref t)] (by decide +kernel) (Nat.le_of_ble_eq_true rfl) rfl (fun M => ?_)
  first | refine q_aload_n dX7_judge_0 rfl ?_ | refine q_aload_nN dX7_judge_0 rfl ?_
  refine q_getf dX7_judge_1 fk_X7_9_6 (by first | assumption | (simp only [zK_sF, zK_sI, zK_sJ, zK_sR]; assumption)) (by first | assumption | (simp only [zF_sF, zF_sI, zF_sJ, zF_sR, true_and, and_true, false_and, and_false, if_true, if_false, eq_self, reduceIte, Nat.reduceEqDiff, OfNat.ofNat_ne_zero, OfNat.zero_ne_ofNat, OfNat.ofNat_ne_one, OfNat.one_ne_ofNat, reduceCtorEq]; first | rfl | assumption)) ?_
  refine q_getf dX7_judge_4 fk_X7_23_5 (by first | assumption | (simp only [zK_sF, zK_sI, zK_sJ, zK_sR]; assumption)) (by first | assumption | (simp only [zF_sF, zF_sI, zF_sJ, zF_sR, true_and, and_true, false_and, and_false, if_true, if_false, eq_self, reduceIte, Nat.reduceEqDiff, OfNat.ofNat_ne_zero, OfNat.zero_ne_ofNat, OfNat.ofNat_ne_one, OfNat.one_ne_ofNat, reduceCtorEq]; first | rfl | assumption)) ?_
  refine q_if_ne 20 dX7_judge_7 (by decide) (fun c7 => ?_) (fun c7 => ?_)
  · first | refine q_aload_n dX7_judge_20 rfl ?_ | refine q_aload_nN dX7_judge_20 rfl ?_
    refine q_getf dX7_judge_21 fk_X7_9_6 (by first | assumption | (simp only [zK_sF, zK_sI, zK_sJ, zK_sR]; assumption)) (by first | assumption | (simp only [zF_sF, zF_sI, zF_sJ, zF_sR, true_and, and_true, false_and, and_false, if_true, if_false, eq_self, reduceIte, Nat.reduceEqDiff, OfNat.ofNat_ne_zero, OfNat.zero_ne_ofNat, OfNat.ofNat_ne_one, OfNat.one_ne_ofNat, reduceCtorEq]; first | rfl | assumption)) ?_
    refine q_getf dX7_judge_24 fk_X7_23_5 (by first | assumption | (simp only [zK_sF, zK_sI, zK_sJ, zK_sR]; assumption)) (by first | assumption | (simp only [zF_sF, zF_sI, zF_sJ, zF_sR, true_and, and_true, false_and, and_false, if_true, if_false, eq_self, reduceIte, Nat.reduceEqDiff, OfNat.ofNat_ne_zero, OfNat.zero_ne_ofNat, OfNat.ofNat_ne_one, OfNat.one_ne_ofNat, reduceCtorEq]; first | rfl | assumption)) ?_
    first | refine q_aload_n dX7_judge_27 rfl ?_ | refine q_aload_nN dX7_judge_27 rfl ?_
    refine q_getf dX7_judge_28 fk_X7_15_6 (by first | assumption | (simp only [zK_sF, zK_sI, zK_sJ, zK_sR]; assumption)) (by first | assumption | (simp only [zF_sF, zF_sI, zF_sJ, zF_sR, true_and, and_true, false_and, and_false, if_true, if_false, eq_self, reduceIte, Nat.reduceEqDiff, OfNat.ofNat_ne_zero, OfNat.zero_ne_ofNat, OfNat.ofNat_ne_one, OfNat.one_ne_ofNat, reduceCtorEq]; first | rfl | assumption)) ?_
    refine q_icmp_eq 44 dX7_judge_31 (by decide) (fun c31 => ?_) (fun c31 => ?_)
    · subst c31
      first | refine q_aload_n dX7_judge_44 rfl ?_ | refine q_aload_nN dX7_judge_44 rfl ?_
      refine q_getf dX7_judge_45 fk_X7_15_6 (by first | assumption | (simp only [zK_sF, zK_sI, zK_sJ, zK_sR]; assumption)) (by first | assumption | (simp only [zF_sF, zF_sI, zF_sJ, zF_sR, true_and, and_true, false_and, and_false, if_true, if_false, eq_self, reduceIte, Nat.reduceEqDiff, OfNat.ofNat_ne_zero, OfNat.zero_ne_ofNat, OfNat.ofNat_ne_one, OfNat.one_ne_ofNat, reduceCtorEq]; first | rfl | assumption)) ?_
      refine q_iconst (v := 3) dX7_judge_48 (by decide) ?_
      refine q_icmp_ne 74 dX7_judge_49 (by decide) (fun c49 => ?_) (fun c49 => ?_)
      · first | refine q_aload_n dX7_judge_74 rfl ?_ | refine q_aload_nN dX7_judge_74 rfl ?_
        refine q_getf dX7_judge_75 fk_X7_9_6 (by first | assumption | (simp only [zK_sF, zK_sI, zK_sJ, zK_sR]; assumption)) (by first | assumption | (simp only [zF_sF, zF_sI, zF_sJ, zF_sR, true_and, and_true, false_and, and_false, if_true, if_false, eq_self, reduceIte, Nat.reduceEqDiff, OfNat.ofNat_ne_zero, OfNat.zero_ne_ofNat, OfNat.ofNat_ne_one, OfNat.one_ne_ofNat, reduceCtorEq]; first | rfl | assumption)) ?_
        refine q_lload_n dX7_judge_78 rfl ?_
        refine q_callV 5 dX7_judge_79 mk_X7_44 rfl (by first | assumption | (simp only [zK_sF, zK_sI, zK_sJ, zK_sR]; assumption)) (c_X6_hasItem l G _ hs cn c hKs s2) rfl np_X6_hasItem (by decide) (by decide) (by decide) (Nat.le_of_ble_eq_true rfl) (kI (fun r Z2 hp => ?_))
        obtain ⟨rfl, hp⟩ := hp
        refine q_if_ne 95 dX7_judge_82 (by decide) (fun c82 => ?_) (fun c82 => ?_)
        · have hp := rb_t hp c82
          first | refine q_aload_n dX7_judge_95 rfl ?_ | refine q_aload_nN dX7_judge_95 rfl ?_
          refine q_getf dX7_judge_96 fk_X7_9_6 (by first | assumption | (simp only [zK_sF, zK_sI, zK_sJ, zK_sR]; assumption)) (by first | assumption | (simp only [zF_sF, zF_sI, zF_sJ, zF_sR, true_and, and_true, false_and, and_false, if_true, if_false, eq_self, reduceIte, Nat.reduceEqDiff, OfNat.ofNat_ne_zero, OfNat.zero_ne_ofNat, OfNat.ofNat_ne_one, OfNat.one_ne_ofNat, reduceCtorEq]; first | rfl | assumption)) ?_
          refine q_getf dX7_judge_99 fk_X7_48_5 (by first | assumption | (simp only [zK_sF, zK_sI, zK_sJ, zK_sR]; assumption)) (by first | assumption | (simp only [zF_sF, zF_sI, zF_sJ, zF_sR, true_and, and_true, false_and, and_false, if_true, if_false, eq_self, reduceIte, Nat.reduceEqDiff, OfNat.ofNat_ne_zero, OfNat.zero_ne_ofNat, OfNat.ofNat_ne_one, OfNat.one_ne_ofNat, reduceCtorEq]; first | rfl | assumption)) ?_
          refine q_lload_n dX7_judge_102 rfl ?_
          refine q_l2i dX7_judge_103 ?_
          refine q_lald dX7_judge_104 (by first | assumption | (simp only [zK_sF, zK_sI, zK_sJ, zK_sR]; assumption)) (by rw [hLi]; exact (in12L hp.1 hp.2.2).1) ?_
          first | refine q_aload_n dX7_judge_105 rfl ?_ | refine q_aload_nN dX7_judge_105 rfl ?_
          refine q_getf dX7_judge_106 fk_X7_19_6 (by first | assumption | (simp only [zK_sF, zK_sI, zK_sJ, zK_sR]; assumption)) (by first | assumption | (simp only [zF_sF, zF_sI, zF_sJ, zF_sR, true_and, and_true, false_and, and_false, if_true, if_false, eq_self, reduceIte, Nat.reduceEqDiff, OfNat.ofNat_ne_zero, OfNat.zero_ne_ofNat, OfNat.ofNat_ne_one, OfNat.one_ne_ofNat, reduceCtorEq]; first | rfl | assumption)) ?_
          refine q_lcmp_le 117 dX7_judge_109 dX7_judge_110 (by decide) (fun c109 => ?_) (fun c109 => ?_)
          · refine q_iconst (v := 0) dX7_judge_117 (by decide) ?_
            refine q_callSU ⟨RX7, "verdict", "(Z)I"⟩ dX7_judge_118 us_X7_40 us_X7_sm rfl us_st (c_X2_verdict l G _ _) rfl np_X2_verdict (by decide) (by decide) (by decide) (Nat.le_of_ble_eq_true rfl) (kI (fun r Z1 h => ?_))
            obtain ⟨rfl, rfl⟩ := h
            first | rw [if_neg (show ¬ (1 : Int32) = 0 by decide)] | rw [if_pos (show (0 : Int32) = 0 from rfl)]
            exact q_ireturn dX7_judge_121 rfl (by decide) (by decide) (by first | (subst c159; exact outP_l (nfV_d n0 n1 n2 n4) h) | exact outP_l (by simp only [nfV_0, nfV_1, nfV_2, nfV_3, nfV_4, sfV_3, sfV_0, *, if_true, if_false, reduceIte, eq_self, not_false_eq_true, not_true_eq_false, and_self, and_true, true_and]) h | exact outP_r (by simp only [nfV_0, nfV_1, nfV_2, nfV_3, nfV_4, sfV_3, sfV_0, *, if_true, if_false, reduceIte, eq_self, not_false_eq_true, not_true_eq_false, and_self, and_true, true_and]) | (refine outP_l ?_ h; simp only [sfV, *, if_true, if_false, reduceIte, eq_self, not_false_eq_true, not_true_eq_false, and_self, and_true, true_and]; done) | (refine outP_r ?_; simp only [sfV, *, if_true, if_false, reduceIte, eq_self, not_false_eq_true, not_true_eq_false, and_self, and_true, true_and]; done))
          · refine q_iconst (v := 1) dX7_judge_113 (by decide) ?_
            refine q_goto 118 dX7_judge_114 (by decide) ?_
            refine q_callSU ⟨RX7, "verdict", "(Z)I"⟩ dX7_judge_118 us_X7_40 us_X7_sm rfl us_st (c_X2_verdict l G _ _) rfl np_X2_verdict (by decide) (by decide) (by decide) (Nat.le_of_ble_eq_true rfl) (kI (fun r Z1 h => ?_))
            obtain ⟨rfl, rfl⟩ := h
            first | rw [if_neg (show ¬ (1 : Int32) = 0 by decide)] | rw [if_pos (show (0 : Int32) = 0 from rfl)]
            exact q_ireturn dX7_judge_121 rfl (by decide) (by decide) (by first | (subst c159; exact outP_l (nfV_d n0 n1 n2 n4) h) | exact outP_l (by simp only [nfV_0, nfV_1, nfV_2, nfV_3, nfV_4, sfV_3, sfV_0, *, if_true, if_false, reduceIte, eq_self, not_false_eq_true, not_true_eq_false, and_self, and_true, true_and]) h | exact outP_r (by simp only [nfV_0, nfV_1, nfV_2, nfV_3, nfV_4, sfV_3, sfV_0, *, if_true, if_false, reduceIte, eq_self, not_false_eq_true, not_true_eq_false, and_self, and_true, true_and]) | (refine outP_l ?_ h; simp only [sfV, *, if_true, if_false, reduceIte, eq_self, not_false_eq_true, not_true_eq_false, and_self, and_true, true_and]; done) | (refine outP_r ?_; simp only [sfV, *, if_true, if_false, reduceIte, eq_self, not_false_eq_true, not_true_eq_false, and_self, and_true, true_and]; done))
        · have hp := rb_f hp c82
          first | refine q_aload_n dX7_judge_85 rfl ?_ | refine q_aload_nN dX7_judge_85 rfl ?_
          refine q_iconst (v := 2) dX7_judge_86 (by decide) ?_
          first | refine q_aload_n dX7_judge_87 rfl ?_ | refine q_aload_nN dX7_judge_87 rfl ?_
          refine q_getf dX7_judge_88 fk_X7_28_6 (by first | assumption | (simp only [zK_sF, zK_sI, zK_sJ, zK_sR]; assumption)) (by first | assumption | (simp only [zF_sF, zF_sI, zF_sJ, zF_sR, true_and, and_true, false_and, and_false, if_true, if_false, eq_self, reduceIte, Nat.reduceEqDiff, OfNat.ofNat_ne_zero, OfNat.zero_ne_ofNat, OfNat.ofNat_ne_one, OfNat.one_ne_ofNat, reduceCtorEq]; first | rfl | assumption)) ?_
          refine q_callV 9 dX7_judge_91 mk_X7_31 rfl (by first | assumption | (simp only [zK_sF, zK_sI, zK_sJ, zK_sR]; assumption)) (c_X10_fail l G _ t fl 2 nm hKt hf) rfl np_X10_fail (by decide) (by decide) (by decide) (Nat.le_of_ble_eq_true rfl) (kI (fun r Z1 h => ?_))
          exact q_ireturn dX7_judge_94 rfl (by decide) (by decide) (by first | (subst c159; exact outP_l (nfV_d n0 n1 n2 n4) h) | exact outP_l (by simp only [nfV_0, nfV_1, nfV_2, nfV_3, nfV_4, sfV_3, sfV_0, *, if_true, if_false, reduceIte, eq_self, not_false_eq_true, not_true_eq_false, and_self, and_true, true_and]) h | exact outP_r (by simp only [nfV_0, nfV_1, nfV_2, nfV_3, nfV_4, sfV_3, sfV_0, *, if_true, if_false, reduceIte, eq_self, not_false_eq_true, not_true_eq_false, and_self, and_true, true_and]) | (refine outP_l ?_ h; simp only [sfV, *, if_true, if_false, reduceIte, eq_self, not_false_eq_true, not_true_eq_false, and_self, and_true, true_and]; done) | (refine outP_r ?_; simp only [sfV, *, if_true, if_false, reduceIte, eq_self, not_false_eq_true, not_true_eq_false, and_self, and_true, true_and]; done))
      · refine q_lload_n dX7_judge_52 rfl ?_
        first | refine q_aload_n dX7_judge_53 rfl ?_ | refine q_aload_nN dX7_judge_53 rfl ?_
        refine q_getf dX7_judge_54 fk_X7_9_6 (by first | assumption | (simp only [zK_sF, zK_sI, zK_sJ, zK_sR]; assumption)) (by first | assumption | (simp only [zF_sF, zF_sI, zF_sJ, zF_sR, true_and, and_true, false_and, and_false, if_true, if_false, eq_self, reduceIte, Nat.reduceEqDiff, OfNat.ofNat_ne_zero, OfNat.zero_ne_ofNat, OfNat.ofNat_ne_one, OfNat.one_ne_ofNat, reduceCtorEq]; first | rfl | assumption)) ?_
        refine q_getf dX7_judge_57 fk_X7_37_5 (by first | assumption | (simp only [zK_sF, zK_sI, zK_sJ, zK_sR]; assumption)) (by first | assumption | (simp only [zF_sF, zF_sI, zF_sJ, zF_sR, true_and, and_true, false_and, and_false, if_true, if_false, eq_self, reduceIte, Nat.reduceEqDiff, OfNat.ofNat_ne_zero, OfNat.zero_ne_ofNat, OfNat.ofNat_ne_one, OfNat.one_ne_ofNat, reduceCtorEq]; first | rfl | assumption)) ?_
        refine q_i2l dX7_judge_60 ?_
        refine q_lcmp_le 69 dX7_judge_61 dX7_judge_62 (by decide) (fun c61 => ?_) (fun c61 => ?_)
        · refine q_iconst (v := 0) dX7_judge_69 (by decide) ?_
          refine q_callSU ⟨RX7, "verdict", "(Z)I"⟩ dX7_judge_70 us_X7_40 us_X7_sm rfl us_st (c_X2_verdict l G _ _) rfl np_X2_verdict (by decide) (by decide) (by decide) (Nat.le_of_ble_eq_true rfl) (kI (fun r Z1 h => ?_))
          obtain ⟨rfl, rfl⟩ := h
          first | rw [if_neg (show ¬ (1 : Int32) = 0 by decide)] | rw [if_pos (show (0 : Int32) = 0 from rfl)]
          exact q_ireturn dX7_judge_73 rfl (by decide) (by decide) (by first | (subst c159; exact outP_l (nfV_d n0 n1 n2 n4) h) | exact outP_l (by simp only [nfV_0, nfV_1, nfV_2, nfV_3, nfV_4, sfV_3, sfV_0, *, if_true, if_false, reduceIte, eq_self, not_false_eq_true, not_true_eq_false, and_self, and_true, true_and]) h | exact outP_r (by simp only [nfV_0, nfV_1, nfV_2, nfV_3, nfV_4, sfV_3, sfV_0, *, if_true, if_false, reduceIte, eq_self, not_false_eq_true, not_true_eq_false, and_self, and_true, true_and]) | (refine outP_l ?_ h; simp only [sfV, *, if_true, if_false, reduceIte, eq_self, not_false_eq_true, not_true_eq_false, and_self, and_true, true_and]; done) | (refine outP_r ?_; simp only [sfV, *, if_true, if_false, reduceIte, eq_self, not_false_eq_true, not_true_eq_false, and_self, and_true, true_and]; done))
        · refine q_iconst (v := 1) dX7_judge_65 (by decide) ?_
          refine q_goto 70 dX7_judge_66 (by decide) ?_
          refine q_callSU ⟨RX7, "verdict", "(Z)I"⟩ dX7_judge_70 us_X7_40 us_X7_sm rfl us_st (c_X2_verdict l G _ _) rfl np_X2_verdict (by decide) (by decide) (by decide) (Nat.le_of_ble_eq_true rfl) (kI (fun r Z1 h => ?_))
          obtain ⟨rfl, rfl⟩ := h
          first | rw [if_neg (show ¬ (1 : Int32) = 0 by decide)] | rw [if_pos (show (0 : Int32) = 0 from rfl)]
          exact q_ireturn dX7_judge_73 rfl (by decide) (by decide) (by first | (subst c159; exact outP_l (nfV_d n0 n1 n2 n4) h) | exact outP_l (by simp only [nfV_0, nfV_1, nfV_2, nfV_3, nfV_4, sfV_3, sfV_0, *, if_true, if_false, reduceIte, eq_self, not_false_eq_true, not_true_eq_false, and_self, and_true, true_and]) h | exact outP_r (by simp only [nfV_0, nfV_1, nfV_2, nfV_3, nfV_4, sfV_3, sfV_0, *, if_true, if_false, reduceIte, eq_self, not_false_eq_true, not_true_eq_false, and_self, and_true, true_and]) | (refine outP_l ?_ h; simp only [sfV, *, if_true, if_false, reduceIte, eq_self, not_false_eq_true, not_true_eq_false, and_self, and_true, true_and]; done) | (refine outP_r ?_; simp only [sfV, *, if_true, if_false, reduceIte, eq_self, not_false_eq_true, not_true_eq_false, and_self, and_true, true_and]; done))
    · first | refine q_aload_n dX7_judge_34 rfl ?_ | refine q_aload_nN dX7_judge_34 rfl ?_
      refine q_iconst (v := 5) dX7_judge_35 (by decide) ?_
      first | refine q_aload_n dX7_judge_36 rfl ?_ | refine q_aload_nN dX7_judge_36 rfl ?_
      refine q_getf dX7_judge_37 fk_X7_28_6 (by first | assumption | (simp only [zK_sF, zK_sI, zK_sJ, zK_sR]; assumption)) (by first | assumption | (simp only [zF_sF, zF_sI, zF_sJ, zF_sR, true_and, and_true, false_and, and_false, if_true, if_false, eq_self, reduceIte, Nat.reduceEqDiff, OfNat.ofNat_ne_zero, OfNat.zero_ne_ofNat, OfNat.ofNat_ne_one, OfNat.one_ne_ofNat, reduceCtorEq]; first | rfl | assumption)) ?_
      refine q_callV 9 dX7_judge_40 mk_X7_31 rfl (by first | assumption | (simp only [zK_sF, zK_sI, zK_sJ, zK_sR]; assumption)) (c_X10_fail l G _ t fl 5 nm hKt hf) rfl np_X10_fail (by decide) (by decide) (by decide) (Nat.le_of_ble_eq_true rfl) (kI (fun r Z1 h => ?_))
      exact q_ireturn dX7_judge_43 rfl (by decide) (by decide) (by first | (subst c159; exact outP_l (nfV_d n0 n1 n2 n4) h) | exact outP_l (by simp only [nfV_0, nfV_1, nfV_2, nfV_3, nfV_4, sfV_3, sfV_0, *, if_true, if_false, reduceIte, eq_self, not_false_eq_true, not_true_eq_false, and_self, and_true, true_and]) h | exact outP_r (by simp only [nfV_0, nfV_1, nfV_2, nfV_3, nfV_4, sfV_3, sfV_0, *, if_true, if_false, reduceIte, eq_self, not_false_eq_true, not_true_eq_false, and_self, and_true, true_and]) | (refine outP_l ?_ h; simp only [sfV, *, if_true, if_false, reduceIte, eq_self, not_false_eq_true, not_true_eq_false, and_self, and_true, true_and]; done) | (refine outP_r ?_; simp only [sfV, *, if_true, if_false, reduceIte, eq_self, not_false_eq_true, not_true_eq_false, and_self, and_true, true_and]; done))
  · first | refine q_aload_n dX7_judge_10 rfl ?_ | refine q_aload_nN dX7_judge_10 rfl ?_
    refine q_iconst (v := 1) dX7_judge_11 (by decide) ?_
    first | refine q_aload_n dX7_judge_12 rfl ?_ | refine q_aload_nN dX7_judge_12 rfl ?_
    refine q_getf dX7_judge_13 fk_X7_28_6 (by first | assumption | (simp only [zK_sF, zK_sI, zK_sJ, zK_sR]; assumption)) (by first | assumption | (simp only [zF_sF, zF_sI, zF_sJ, zF_sR, true_and, and_true, false_and, and_false, if_true, if_false, eq_self, reduceIte, Nat.reduceEqDiff, OfNat.ofNat_ne_zero, OfNat.zero_ne_ofNat, OfNat.ofNat_ne_one, OfNat.one_ne_ofNat, reduceCtorEq]; first | rfl | assumption)) ?_
    refine q_callV 9 dX7_judge_16 mk_X7_31 rfl (by first | assumption | (simp only [zK_sF, zK_sI, zK_sJ, zK_sR]; assumption)) (c_X10_fail l G _ t fl 1 nm hKt hf) rfl np_X10_fail (by decide) (by decide) (by decide) (Nat.le_of_ble_eq_true rfl) (kI (fun r Z1 h => ?_))
    exact q_ireturn dX7_judge_19 rfl (by decide) (by decide) (by first | (subst c159; exact outP_l (nfV_d n0 n1 n2 n4) h) | exact outP_l (by simp only [nfV_0, nfV_1, nfV_2, nfV_3, nfV_4, sfV_3, sfV_0, *, if_true, if_false, reduceIte, eq_self, not_false_eq_true, not_true_eq_false, and_self, and_true, true_and]) h | exact outP_r (by simp only [nfV_0, nfV_1, nfV_2, nfV_3, nfV_4, sfV_3, sfV_0, *, if_true, if_false, reduceIte, eq_self, not_false_eq_true, not_true_eq_false, and_self, and_true, true_and]) | (refine outP_l ?_ h; simp only [sfV, *, if_true, if_false, reduceIte, eq_self, not_false_eq_true, not_true_eq_false, and_self, and_true, true_and]; done) | (refine outP_r ?_; simp only [sfV, *, if_true, if_false, reduceIte, eq_self, not_false_eq_true, not_true_eq_false, and_self, and_true, true_and]; done))
set_option maxHeartbeats 4000000 in
set_option maxRecDepth 100000 in
theorem c_X1_thingFor (l : Launch) (G : Gt) (Z : Zt) (c : Int64) : Ct l G YX1_thingFor (0, 0, 0) Z [.long c] (ΦI (fun r Z1 => Z1 = Z ∧ r = thF c)) := by
  refine ct_of [some (.long c), none, none, none] (by decide +kernel) (Nat.le_of_ble_eq_true rfl) rfl (fun M => ?_)
  refine q_lload_n dX1_thingFor_0 rfl ?_
  refine q_ldc2 dX1_thingFor_1 kl_X1_38 ?_
  refine q_lrem dX1_thingFor_4 (by decide) ?_
  refine q_lstore_n (ls' := [_, _, _, _]) dX1_thingFor_5 rfl rfl (Nat.le_of_ble_eq_true rfl) (by decide) ?_
  refine q_lload_n dX1_thingFor_6 rfl ?_
  refine q_lconst (v := 0) dX1_thingFor_7 (by decide) ?_
  refine q_lcmp_ne 14 dX1_thingFor_8 dX1_thingFor_9 (by decide) (fun c8 => ?_) (fun c8 => ?_)
  · refine q_lload_n dX1_thingFor_14 rfl ?_
    refine q_lconst (v := 1) dX1_thingFor_15 (by decide) ?_
    refine q_lcmp_ne 24 dX1_thingFor_16 dX1_thingFor_17 (by decide) (fun c16 => ?_) (fun c16 => ?_)
    · refine q_iconst (v := 1) dX1_thingFor_24 (by decide) ?_
      exact q_ireturn dX1_thingFor_25 rfl (by decide) (by decide) (by refine ⟨rfl, ?_⟩; first | (rw [thF, if_pos c8]; done) | (rw [thF, if_neg c8, if_pos c16]; done) | (rw [thF, if_neg c8, if_neg c16]; done) | simp only [thF, *, if_true, if_false, reduceIte, eq_self, not_false_eq_true, not_true_eq_false, and_self, and_true, true_and])
    · refine q_iconst (v := 3) dX1_thingFor_20 (by decide) ?_
      refine q_goto 25 dX1_thingFor_21 (by decide) ?_
      exact q_ireturn dX1_thingFor_25 rfl (by decide) (by decide) (by refine ⟨rfl, ?_⟩; first | (rw [thF, if_pos c8]; done) | (rw [thF, if_neg c8, if_pos c16]; done) | (rw [thF, if_neg c8, if_neg c16]; done) | simp only [thF, *, if_true, if_false, reduceIte, eq_self, not_false_eq_true, not_true_eq_false, and_self, and_true, true_and])
  · refine q_iconst (v := 2) dX1_thingFor_12 (by decide) ?_
    exact q_ireturn dX1_thingFor_13 rfl (by decide) (by decide) (by refine ⟨rfl, ?_⟩; first | (rw [thF, if_pos c8]; done) | (rw [thF, if_neg c8, if_pos c16]; done) | (rw [thF, if_neg c8, if_neg c16]; done) | simp only [thF, *, if_true, if_false, reduceIte, eq_self, not_false_eq_true, not_true_eq_false, and_self, and_true, true_and])
set_option maxHeartbeats 4000000 in
set_option maxRecDepth 100000 in
theorem c_X1_judge (l : Launch) (G : Gt) (Z : Zt) (a t hb tg : Nat) (nm nb it fl : Int32) (c : Int64) (hK : zK Z a = 2) (h0 : zF Z 0 a = .int nm) (h2 : zF Z 2 a = .ref hb) (h3 : zF Z 3 a = .int it) (hKb : zK Z hb = 1) (b0 : zF Z 0 hb = .ref tg) (b1 : zF Z 1 hb = .int nb) (hKg : zK Z tg = 20) (hLg : zL Z tg = 3) (hi : vp_in it 3) (hi0 : ¬ it < 0) (hi3 : ¬ 3 ≤ it) (hKt : zK Z t = 10) (hf : zF Z 4 t = .int fl) : Ct l G YX1_judge (2, 0, 0) Z [.ref a, .long c, .ref t] (ΦI (fun r Z1 => ((if nb = 0 then thF c = 1 ∨ thF c = 2 else if nb = 1 then thF c = 2 else True) → r = 1 ∧ Z1 = sI Z tg it.toNatClampNeg (thF c)) ∧ (¬ (if nb = 0 then thF c = 1 ∨ thF c = 2 else if nb = 1 then thF c = 2 else True) → failP Z Z1 t fl nm 4 r))) := by
  refine ct_of [some (.ref a), some (.long c), none, some (.ref t)] (by decide +kernel) (Nat.le_of_ble_eq_true rfl) rfl (fun M => ?_)
  first | refine q_aload_n dX1_judge_0 rfl ?_ | refine q_aload_nN dX1_judge_0 rfl ?_
  refine q_getf dX1_judge_1 fk_X1_9_1 (by first | assumption | (simp only [zK_sF, zK_sI, zK_sJ, zK_sR]; assumption)) (by first | assumption | (simp only [zF_sF, zF_sI, zF_sJ, zF_sR, true_and, and_true, false_and, and_false, if_true, if_false, eq_self, reduceIte, Nat.reduceEqDiff, OfNat.ofNat_ne_zero, OfNat.zero_ne_ofNat, OfNat.ofNat_ne_one, OfNat.one_ne_ofNat, reduceCtorEq]; first | rfl | assumption)) ?_
  first | refine q_aload_n dX1_judge_4 rfl ?_ | refine q_aload_nN dX1_judge_4 rfl ?_
  refine q_getf dX1_judge_5 fk_X1_15_1 (by first | assumption | (simp only [zK_sF, zK_sI, zK_sJ, zK_sR]; assumption)) (by first | assumption | (simp only [zF_sF, zF_sI, zF_sJ, zF_sR, true_and, and_true, false_and, and_false, if_true, if_false, eq_self, reduceIte, Nat.reduceEqDiff, OfNat.ofNat_ne_zero, OfNat.zero_ne_ofNat, OfNat.ofNat_ne_one, OfNat.one_ne_ofNat, reduceCtorEq]; first | rfl | assumption)) ?_
  refine q_lload_n dX1_judge_8 rfl ?_
  refine q_callS dX1_judge_9 mk_X1_19 (c_X1_thingFor l G _ c) rfl np_X1_thingFor (by decide) (by decide) (by decide) (Nat.le_of_ble_eq_true rfl) (kI (fun r Z1 h => ?_))
  obtain ⟨rfl, rfl⟩ := h
  refine q_callV 0 dX1_judge_12 mk_X1_23 rfl (by first | assumption | (simp only [zK_sF, zK_sI, zK_sJ, zK_sR]; assumption)) (c_X0_put l G _ hb tg nb it (thF c) hKb b1 b0 hKg hLg hi hi0 hi3) rfl np_X0_put (by decide) (by decide) (by decide) (Nat.le_of_ble_eq_true rfl) (kI (fun r Z1 h => ?_))
  refine q_if_eq 22 dX1_judge_15 (by decide) (fun c15 => ?_) (fun c15 => ?_)
  · have hp : ¬ (if nb = 0 then thF c = 1 ∨ thF c = 2 else if nb = 1 then thF c = 2 else True) := fun z => absurd ((h.1 z).1.symm.trans c15) (by decide)
    obtain ⟨rfl, rfl⟩ := h.2 hp
    first | refine q_aload_n dX1_judge_22 rfl ?_ | refine q_aload_nN dX1_judge_22 rfl ?_
    refine q_iconst (v := 4) dX1_judge_23 (by decide) ?_
    first | refine q_aload_n dX1_judge_24 rfl ?_ | refine q_aload_nN dX1_judge_24 rfl ?_
    refine q_getf dX1_judge_25 fk_X1_29_1 (by first | assumption | (simp only [zK_sF, zK_sI, zK_sJ, zK_sR]; assumption)) (by first | assumption | (simp only [zF_sF, zF_sI, zF_sJ, zF_sR, true_and, and_true, false_and, and_false, if_true, if_false, eq_self, reduceIte, Nat.reduceEqDiff, OfNat.ofNat_ne_zero, OfNat.zero_ne_ofNat, OfNat.ofNat_ne_one, OfNat.one_ne_ofNat, reduceCtorEq]; first | rfl | assumption)) ?_
    refine q_callV 9 dX1_judge_28 mk_X1_32 rfl (by first | assumption | (simp only [zK_sF, zK_sI, zK_sJ, zK_sR]; assumption)) (c_X10_fail l G _ t fl 4 nm hKt hf) rfl np_X10_fail (by decide) (by decide) (by decide) (Nat.le_of_ble_eq_true rfl) (kI (fun r Z2 h5 => ?_))
    exact q_ireturn dX1_judge_31 rfl (by decide) (by decide) (by first | exact ⟨fun _ => ⟨rfl, rfl⟩, fun z => absurd hp z⟩ | exact ⟨fun z => absurd z hp, fun _ => h5⟩)
  · have hp : (if nb = 0 then thF c = 1 ∨ thF c = 2 else if nb = 1 then thF c = 2 else True) := Classical.byContradiction fun z => c15 (h.2 z).1
    obtain ⟨rfl, rfl⟩ := h.1 hp
    refine q_iconst (v := 1) dX1_judge_18 (by decide) ?_
    refine q_goto 31 dX1_judge_19 (by decide) ?_
    exact q_ireturn dX1_judge_31 rfl (by decide) (by decide) (by first | exact ⟨fun _ => ⟨rfl, rfl⟩, fun z => absurd hp z⟩ | exact ⟨fun z => absurd z hp, fun _ => h5⟩)
set_option maxHeartbeats 4000000 in
set_option maxRecDepth 100000 in
theorem c_X1_init (l : Launch) (G : Gt) (Z : Zt) (a hb : Nat) (n it : Int32) (hK : zK Z a = 2) : Ct l G YX1_init (2, 0, 0) Z [.ref a, .int n, .ref hb, .int it] (ΦV (fun Z1 => Z1 = sF (sF (sF (sF Z 0 a (.int n)) 1 a (.int 1)) 2 a (.ref hb)) 3 a (.int it))) := by
  refine ct_of [some (.ref a), some (.int n), some (.ref hb), some (.int it)] (by decide +kernel) (Nat.le_of_ble_eq_true rfl) rfl (fun M => ?_)
  first | refine q_aload_n dX1_init_0 rfl ?_ | refine q_aload_nN dX1_init_0 rfl ?_
  refine q_iload_n dX1_init_1 rfl ?_
  refine q_iconst (v := 1) dX1_init_2 (by decide) ?_
  refine q_callI dX1_init_3 mk_X1_3 rfl (c_X2_init_1 l G _ a n 1 hK) rfl np_X2_init (by decide) (by decide) (by decide) (Nat.le_of_ble_eq_true rfl) (kV (fun Z1 h => ?_))
  subst h
  first | refine q_aload_n dX1_init_6 rfl ?_ | refine q_aload_nN dX1_init_6 rfl ?_
  first | refine q_aload_n dX1_init_7 rfl ?_ | refine q_aload_nN dX1_init_7 rfl ?_
  refine q_putF dX1_init_8 fk_X1_9_1 rfl rfl rfl (by first | assumption | (simp only [zK_sF, zK_sI, zK_sJ, zK_sR]; assumption)) rfl rfl ?_
  first | refine q_aload_n dX1_init_11 rfl ?_ | refine q_aload_nN dX1_init_11 rfl ?_
  refine q_iload_n dX1_init_12 rfl ?_
  refine q_putF dX1_init_13 fk_X1_15_1 rfl rfl rfl (by first | assumption | (simp only [zK_sF, zK_sI, zK_sJ, zK_sR]; assumption)) rfl rfl ?_
  exact q_return dX1_init_16 rfl (by decide) (by decide) rfl
set_option maxHeartbeats 4000000 in
set_option maxRecDepth 100000 in
theorem c_X4_init (l : Launch) (G : Gt) (Z : Zt) (a : Nat) (n kd ai : Int32) (v : Int64) (hK : zK Z a = 4) : Ct l G YX4_init (2, 0, 0) Z [.ref a, .int n, .int kd, .int ai, .long v] (ΦV (fun Z1 => Z1 = sF (sF (sF (sF (sF Z 0 a (.int n)) 1 a (.int 1)) 2 a (.int kd)) 3 a (.int ai)) 4 a (.long v))) := by
  refine ct_of [some (.ref a), some (.int n), some (.int kd), some (.int ai), some (.long v), none] (by decide +kernel) (Nat.le_of_ble_eq_true rfl) rfl (fun M => ?_)
  first | refine q_aload_n dX4_init_0 rfl ?_ | refine q_aload_nN dX4_init_0 rfl ?_
  refine q_iload_n dX4_init_1 rfl ?_
  refine q_iconst (v := 1) dX4_init_2 (by decide) ?_
  refine q_callI dX4_init_3 mk_X4_3 rfl (c_X2_init_3 l G _ a n 1 hK) rfl np_X2_init (by decide) (by decide) (by decide) (Nat.le_of_ble_eq_true rfl) (kV (fun Z1 h => ?_))
  subst h
  first | refine q_aload_n dX4_init_6 rfl ?_ | refine q_aload_nN dX4_init_6 rfl ?_
  refine q_iload_n dX4_init_7 rfl ?_
  refine q_putF dX4_init_8 fk_X4_9_3 rfl rfl rfl (by first | assumption | (simp only [zK_sF, zK_sI, zK_sJ, zK_sR]; assumption)) rfl rfl ?_
  first | refine q_aload_n dX4_init_11 rfl ?_ | refine q_aload_nN dX4_init_11 rfl ?_
  refine q_iload_n dX4_init_12 rfl ?_
  refine q_putF dX4_init_13 fk_X4_15_3 rfl rfl rfl (by first | assumption | (simp only [zK_sF, zK_sI, zK_sJ, zK_sR]; assumption)) rfl rfl ?_
  first | refine q_aload_n dX4_init_16 rfl ?_ | refine q_aload_nN dX4_init_16 rfl ?_
  refine q_lload dX4_init_17 rfl ?_
  refine q_putF dX4_init_19 fk_X4_18_3 rfl rfl rfl (by first | assumption | (simp only [zK_sF, zK_sI, zK_sJ, zK_sR]; assumption)) rfl rfl ?_
  exact q_return dX4_init_22 rfl (by decide) (by decide) rfl
set_option maxHeartbeats 4000000 in
set_option maxRecDepth 100000 in
theorem c_X7_init (l : Launch) (G : Gt) (Z : Zt) (a hs : Nat) (n wt : Int32) (v : Int64) (hK : zK Z a = 7) : Ct l G YX7_init (2, 0, 0) Z [.ref a, .int n, .ref hs, .int wt, .long v] (ΦV (fun Z1 => Z1 = sF (sF (sF (sF (sF Z 0 a (.int n)) 1 a (.int 1)) 2 a (.ref hs)) 3 a (.int wt)) 4 a (.long v))) := by
  refine ct_of [some (.ref a), some (.int n), some (.ref hs), some (.int wt), some (.long v), none] (by decide +kernel) (Nat.le_of_ble_eq_true rfl) rfl (fun M => ?_)
  first | refine q_aload_n dX7_init_0 rfl ?_ | refine q_aload_nN dX7_init_0 rfl ?_
  refine q_iload_n dX7_init_1 rfl ?_
  refine q_iconst (v := 1) dX7_init_2 (by decide) ?_
  refine q_callI dX7_init_3 mk_X7_3 rfl (c_X2_init_6 l G _ a n 1 hK) rfl np_X2_init (by decide) (by decide) (by decide) (Nat.le_of_ble_eq_true rfl) (kV (fun Z1 h => ?_))
  subst h
  first | refine q_aload_n dX7_init_6 rfl ?_ | refine q_aload_nN dX7_init_6 rfl ?_
  first | refine q_aload_n dX7_init_7 rfl ?_ | refine q_aload_nN dX7_init_7 rfl ?_
  refine q_putF dX7_init_8 fk_X7_9_6 rfl rfl rfl (by first | assumption | (simp only [zK_sF, zK_sI, zK_sJ, zK_sR]; assumption)) rfl rfl ?_
  first | refine q_aload_n dX7_init_11 rfl ?_ | refine q_aload_nN dX7_init_11 rfl ?_
  refine q_iload_n dX7_init_12 rfl ?_
  refine q_putF dX7_init_13 fk_X7_15_6 rfl rfl rfl (by first | assumption | (simp only [zK_sF, zK_sI, zK_sJ, zK_sR]; assumption)) rfl rfl ?_
  first | refine q_aload_n dX7_init_16 rfl ?_ | refine q_aload_nN dX7_init_16 rfl ?_
  refine q_lload dX7_init_17 rfl ?_
  refine q_putF dX7_init_19 fk_X7_19_6 rfl rfl rfl (by first | assumption | (simp only [zK_sF, zK_sI, zK_sJ, zK_sR]; assumption)) rfl rfl ?_
  exact q_return dX7_init_22 rfl (by decide) (by decide) rfl
set_option maxHeartbeats 4000000 in
set_option maxRecDepth 100000 in
theorem c_X3_init_two (l : Launch) (G : Gt) (Z : Zt) (a fa fb cf cs : Nat) (n kd df ds : Int32) (hK : zK Z a = 3) (hcf : fOK RX3 1 cf 1) (hKf : zK Z fa = cf + 1) (hdf : zF Z 1 fa = .int df) (hcs : fOK RX3 1 cs 1) (hKs : zK Z fb = cs + 1) (hds : zF Z 1 fb = .int ds) : Ct l G YX3_init (2, 0, 0) Z [.ref a, .int n, .int kd, .ref fa, .ref fb] (ΦV (fun Z1 => Z1 = sF (sF (sF (sF (sF Z 0 a (.int n)) 1 a (.int (1 + if df < ds then ds else df))) 2 a (.int kd)) 3 a (.ref fa)) 4 a (.ref fb))) := by
  refine ct_of [some (.ref a), some (.int n), some (.int kd), some (.ref fa), some (.ref fb)] (by decide +kernel) (Nat.le_of_ble_eq_true rfl) rfl (fun M => ?_)
  first | refine q_aload_n dX3_init_0 rfl ?_ | refine q_aload_nN dX3_init_0 rfl ?_
  refine q_iload_n dX3_init_1 rfl ?_
  refine q_iconst (v := 1) dX3_init_2 (by decide) ?_
  first | refine q_aload_n dX3_init_3 rfl ?_ | refine q_aload_nN dX3_init_3 rfl ?_
  refine q_getf dX3_init_4 hcf hKf hdf ?_
  first | refine q_aload dX3_init_7 rfl ?_ | refine q_aloadN dX3_init_7 rfl ?_
  refine q_ifnonnull 16 dX3_init_9 (by decide) ?_
  first | refine q_aload dX3_init_16 rfl ?_ | refine q_aloadN dX3_init_16 rfl ?_
  refine q_getf dX3_init_18 hcs hKs hds ?_
  refine q_mmax dX3_init_21 mk_X3_7 (by decide) (Nat.le_of_ble_eq_true rfl) (by decide) (by decide) ?_
  refine q_iadd dX3_init_24 ?_
  refine q_callI dX3_init_25 mk_X3_13 rfl (c_X2_init_2 l G _ a n _ hK) rfl np_X2_init (by decide) (by decide) (by decide) (Nat.le_of_ble_eq_true rfl) (kV (fun Z1 h => ?_))
  subst h
  first | refine q_aload_n dX3_init_28 rfl ?_ | refine q_aload_nN dX3_init_28 rfl ?_
  refine q_iload_n dX3_init_29 rfl ?_
  refine q_putF dX3_init_30 fk_X3_17_2 rfl rfl rfl (by first | assumption | (simp only [zK_sF, zK_sI, zK_sJ, zK_sR]; assumption)) rfl rfl ?_
  first | refine q_aload_n dX3_init_33 rfl ?_ | refine q_aload_nN dX3_init_33 rfl ?_
  first | refine q_aload_n dX3_init_34 rfl ?_ | refine q_aload_nN dX3_init_34 rfl ?_
  refine q_putF dX3_init_35 fk_X3_22_2 rfl rfl rfl (by first | assumption | (simp only [zK_sF, zK_sI, zK_sJ, zK_sR]; assumption)) rfl rfl ?_
  first | refine q_aload_n dX3_init_38 rfl ?_ | refine q_aload_nN dX3_init_38 rfl ?_
  first | refine q_aload dX3_init_39 rfl ?_ | refine q_aloadN dX3_init_39 rfl ?_
  refine q_putF dX3_init_41 fk_X3_26_2 rfl rfl rfl (by first | assumption | (simp only [zK_sF, zK_sI, zK_sJ, zK_sR]; assumption)) rfl rfl ?_
  exact q_return dX3_init_44 rfl (by decide) (by decide) rfl
set_option maxHeartbeats 4000000 in
set_option maxRecDepth 100000 in
theorem c_X3_init_one (l : Launch) (G : Gt) (Z : Zt) (a fa cf : Nat) (n kd df : Int32) (hK : zK Z a = 3) (hcf : fOK RX3 1 cf 1) (hKf : zK Z fa = cf + 1) (hdf : zF Z 1 fa = .int df) : Ct l G YX3_init (2, 0, 0) Z [.ref a, .int n, .int kd, .ref fa, .null] (ΦV (fun Z1 => Z1 = sF (sF (sF (sF (sF Z 0 a (.int n)) 1 a (.int (1 + if df < 0 then 0 else df))) 2 a (.int kd)) 3 a (.ref fa)) 4 a .null)) := by
  refine ct_of [some (.ref a), some (.int n), some (.int kd), some (.ref fa), some (.null)] (by decide +kernel) (Nat.le_of_ble_eq_true rfl) rfl (fun M => ?_)
  first | refine q_aload_n dX3_init_0 rfl ?_ | refine q_aload_nN dX3_init_0 rfl ?_
  refine q_iload_n dX3_init_1 rfl ?_
  refine q_iconst (v := 1) dX3_init_2 (by decide) ?_
  first | refine q_aload_n dX3_init_3 rfl ?_ | refine q_aload_nN dX3_init_3 rfl ?_
  refine q_getf dX3_init_4 hcf hKf hdf ?_
  first | refine q_aload dX3_init_7 rfl ?_ | refine q_aloadN dX3_init_7 rfl ?_
  refine q_ifnonnullN dX3_init_9 ?_
  refine q_iconst (v := 0) dX3_init_12 (by decide) ?_
  refine q_goto 21 dX3_init_13 (by decide) ?_
  refine q_mmax dX3_init_21 mk_X3_7 (by decide) (Nat.le_of_ble_eq_true rfl) (by decide) (by decide) ?_
  refine q_iadd dX3_init_24 ?_
  refine q_callI dX3_init_25 mk_X3_13 rfl (c_X2_init_2 l G _ a n _ hK) rfl np_X2_init (by decide) (by decide) (by decide) (Nat.le_of_ble_eq_true rfl) (kV (fun Z1 h => ?_))
  subst h
  first | refine q_aload_n dX3_init_28 rfl ?_ | refine q_aload_nN dX3_init_28 rfl ?_
  refine q_iload_n dX3_init_29 rfl ?_
  refine q_putF dX3_init_30 fk_X3_17_2 rfl rfl rfl (by first | assumption | (simp only [zK_sF, zK_sI, zK_sJ, zK_sR]; assumption)) rfl rfl ?_
  first | refine q_aload_n dX3_init_33 rfl ?_ | refine q_aload_nN dX3_init_33 rfl ?_
  first | refine q_aload_n dX3_init_34 rfl ?_ | refine q_aload_nN dX3_init_34 rfl ?_
  refine q_putF dX3_init_35 fk_X3_22_2 rfl rfl rfl (by first | assumption | (simp only [zK_sF, zK_sI, zK_sJ, zK_sR]; assumption)) rfl rfl ?_
  first | refine q_aload_n dX3_init_38 rfl ?_ | refine q_aload_nN dX3_init_38 rfl ?_
  first | refine q_aload dX3_init_39 rfl ?_ | refine q_aloadN dX3_init_39 rfl ?_
  refine q_putF dX3_init_41 fk_X3_26_2 rfl rfl rfl (by first | assumption | (simp only [zK_sF, zK_sI, zK_sJ, zK_sR]; assumption)) rfl rfl ?_
  exact q_return dX3_init_44 rfl (by decide) (by decide) rfl
set_option maxHeartbeats 4000000 in
set_option maxRecDepth 100000 in
theorem c_X3_leavesItToSecond (l : Launch) (G : Gt) (Z : Zt) (a : Nat) (kd v : Int32) (hK : zK Z a = 3) (h2 : zF Z 2 a = .int kd) : Ct l G YX3_leavesItToSecond (1, 0, 0) Z [.ref a, .int v] (ΦI (fun r Z1 => Z1 = Z ∧ rb r (if kd = 8 then v = 1 else if kd = 9 then v = 0 else ¬ 0 ≤ v ∧ ¬ v = -18))) := by
  refine ct_of [some (.ref a), some (.int v)] (by decide +kernel) (Nat.le_of_ble_eq_true rfl) rfl (fun M => ?_)
  first | refine q_aload_n dX3_leavesItToSecond_0 rfl ?_ | refine q_aload_nN dX3_leavesItToSecond_0 rfl ?_
  refine q_getf dX3_leavesItToSecond_1 fk_X3_17_2 (by first | assumption | (simp only [zK_sF, zK_sI, zK_sJ, zK_sR]; assumption)) (by first | assumption | (simp only [zF_sF, zF_sI, zF_sJ, zF_sR, true_and, and_true, false_and, and_false, if_true, if_false, eq_self, reduceIte, Nat.reduceEqDiff, OfNat.ofNat_ne_zero, OfNat.zero_ne_ofNat, OfNat.ofNat_ne_one, OfNat.one_ne_ofNat, reduceCtorEq]; first | rfl | assumption)) ?_
  refine q_lsw [(8, 32), (9, 43)] 53 dX3_leavesItToSecond_4 (by decide) (by decide) (by decide) (fun q hq c4 => ?_) (fun c4 => ?_)
  · rcases List.mem_cons.mp hq with rfl | hq
    · dsimp only at c4 ⊢
      subst c4
      refine q_iload_n dX3_leavesItToSecond_32 rfl ?_
      refine q_iconst (v := 1) dX3_leavesItToSecond_33 (by decide) ?_
      refine q_icmp_ne 41 dX3_leavesItToSecond_34 (by decide) (fun c34 => ?_) (fun c34 => ?_)
      · refine q_iconst (v := 0) dX3_leavesItToSecond_41 (by decide) ?_
        exact q_zreturn dX3_leavesItToSecond_42 rfl rfl (by decide) (by decide) (by first | exact ⟨rfl, rb_1 (by simp_all)⟩ | exact ⟨rfl, rb_0 (by simp_all)⟩)
      · refine q_iconst (v := 1) dX3_leavesItToSecond_37 (by decide) ?_
        refine q_goto 42 dX3_leavesItToSecond_38 (by decide) ?_
        exact q_zreturn dX3_leavesItToSecond_42 rfl rfl (by decide) (by decide) (by first | exact ⟨rfl, rb_1 (by simp_all)⟩ | exact ⟨rfl, rb_0 (by simp_all)⟩)
    rcases List.mem_cons.mp hq with rfl | hq
    · dsimp only at c4 ⊢
      subst c4
      refine q_iload_n dX3_leavesItToSecond_43 rfl ?_
      refine q_if_ne 51 dX3_leavesItToSecond_44 (by decide) (fun c44 => ?_) (fun c44 => ?_)
      · refine q_iconst (v := 0) dX3_leavesItToSecond_51 (by decide) ?_
        exact q_zreturn dX3_leavesItToSecond_52 rfl rfl (by decide) (by decide) (by first | exact ⟨rfl, rb_1 (by simp_all)⟩ | exact ⟨rfl, rb_0 (by simp_all)⟩)
      · refine q_iconst (v := 1) dX3_leavesItToSecond_47 (by decide) ?_
        refine q_goto 52 dX3_leavesItToSecond_48 (by decide) ?_
        exact q_zreturn dX3_leavesItToSecond_52 rfl rfl (by decide) (by decide) (by first | exact ⟨rfl, rb_1 (by simp_all)⟩ | exact ⟨rfl, rb_0 (by simp_all)⟩)
    exact absurd hq List.not_mem_nil
  · have n8 : ¬ kd = 8 := c4 (8, 32) (by simp)
    have n9 : ¬ kd = 9 := c4 (9, 43) (by simp)
    refine q_iload_n dX3_leavesItToSecond_53 rfl ?_
    refine q_callS dX3_leavesItToSecond_54 mk_X3_40 (c_X10_canBeMet l G _ v) rfl np_X10_canBeMet (by decide) (by decide) (by decide) (Nat.le_of_ble_eq_true rfl) (kI (fun r Z1 h => ?_))
    exact q_zreturn dX3_leavesItToSecond_57 rfl (by rcases rb_z h.2 with e | e <;> rw [e] <;> rfl) (by decide) (by decide) (by rw [if_neg n8, if_neg n9]; exact h)
set_option maxHeartbeats 4000000 in
set_option maxRecDepth 100000 in
theorem c_X3_timesAsked (l : Launch) (G : Gt) (Z : Zt) (a : Nat) (kd ta : Int32) (hK : zK Z a = 3) (h2 : zF Z 2 a = .int kd) (h5 : zF Z 5 a = .int ta) : Ct l G YX3_timesAsked (0, 0, 0) Z [.ref a] (ΦI (fun r Z1 => Z1 = Z ∧ r = if kd = 11 then ta else 0)) := by
  refine ct_of [some (.ref a)] (by decide +kernel) (Nat.le_of_ble_eq_true rfl) rfl (fun M => ?_)
  first | refine q_aload_n dX3_timesAsked_0 rfl ?_ | refine q_aload_nN dX3_timesAsked_0 rfl ?_
  refine q_getf dX3_timesAsked_1 fk_X3_17_2 (by first | assumption | (simp only [zK_sF, zK_sI, zK_sJ, zK_sR]; assumption)) (by first | assumption | (simp only [zF_sF, zF_sI, zF_sJ, zF_sR, true_and, and_true, false_and, and_false, if_true, if_false, eq_self, reduceIte, Nat.reduceEqDiff, OfNat.ofNat_ne_zero, OfNat.zero_ne_ofNat, OfNat.ofNat_ne_one, OfNat.one_ne_ofNat, reduceCtorEq]; first | rfl | assumption)) ?_
  refine q_bipush (v := 11) dX3_timesAsked_4 (by decide) ?_
  refine q_icmp_ne 16 dX3_timesAsked_6 (by decide) (fun c6 => ?_) (fun c6 => ?_)
  · refine q_iconst (v := 0) dX3_timesAsked_16 (by decide) ?_
    exact q_ireturn dX3_timesAsked_17 rfl (by decide) (by decide) (by simp_all)
  · first | refine q_aload_n dX3_timesAsked_9 rfl ?_ | refine q_aload_nN dX3_timesAsked_9 rfl ?_
    refine q_getf dX3_timesAsked_10 fk_X3_29_2 (by first | assumption | (simp only [zK_sF, zK_sI, zK_sJ, zK_sR]; assumption)) (by first | assumption | (simp only [zF_sF, zF_sI, zF_sJ, zF_sR, true_and, and_true, false_and, and_false, if_true, if_false, eq_self, reduceIte, Nat.reduceEqDiff, OfNat.ofNat_ne_zero, OfNat.zero_ne_ofNat, OfNat.ofNat_ne_one, OfNat.one_ne_ofNat, reduceCtorEq]; first | rfl | assumption)) ?_
    refine q_goto 17 dX3_timesAsked_13 (by decide) ?_
    exact q_ireturn dX3_timesAsked_17 rfl (by decide) (by decide) (by simp_all)
end
section
/-- the row g holds the list L from o on -/
def At (g : Nat → Int64) (o : Nat) (L : List Int64) : Prop := ∀ (i : Nat) (x : Int64), L[i]? = some x → g (o + i) = x
theorem At_nil {g : Nat → Int64} {o : Nat} : At g o [] := fun i x h => by simp at h
theorem At_snoc {g : Nat → Int64} {o : Nat} {L : List Int64} {x : Int64} (h : At g o L) (hx : g (o + L.length) = x) : At g o (L ++ [x]) := by
  intro i y hy
  by_cases hi : i < L.length
  · rw [List.getElem?_append_left hi] at hy; exact h i y hy
  · rw [List.getElem?_append_right (by omega)] at hy
    have hz : i - L.length < 1 := (List.getElem?_eq_some_iff.mp hy).1
    have hi2 : i = L.length := by omega
    subst hi2
    rw [Nat.sub_self] at hy
    simp at hy
    rw [hx, hy]
theorem At_app {g : Nat → Int64} {o : Nat} {L K : List Int64} (h : At g o L) (k : At g (o + L.length) K) : At g o (L ++ K) := by
  intro i y hy
  by_cases hi : i < L.length
  · rw [List.getElem?_append_left hi] at hy; exact h i y hy
  · rw [List.getElem?_append_right (by omega)] at hy
    have := k _ _ hy
    rw [show o + L.length + (i - L.length) = o + i by omega] at this
    exact this
theorem At_l {g : Nat → Int64} {o : Nat} {L K : List Int64} (h : At g o (L ++ K)) : At g o L := fun i x hx => h i x (by rw [List.getElem?_append_left (List.getElem?_eq_some_iff.mp hx).1]; exact hx)
theorem At_r {g : Nat → Int64} {o : Nat} {L K : List Int64} (h : At g o (L ++ K)) : At g (o + L.length) K := fun i x hx => by
  rw [Nat.add_assoc]
  exact h _ x (by rw [List.getElem?_append_right (by omega), show L.length + i - L.length = i by omega]; exact hx)
theorem At_same {g g' : Nat → Int64} {o : Nat} {L : List Int64} (h : At g o L) (e : ∀ j, o ≤ j → j < o + L.length → g' j = g j) : At g' o L := fun i x hx => by
  have hl := (List.getElem?_eq_some_iff.mp hx).1
  rw [e (o + i) (by omega) (by omega)]
  exact h i x hx
theorem At_get {g : Nat → Int64} {o : Nat} {L : List Int64} (h : At g o L) {i : Nat} (hi : i < L.length) : g (o + i) = L[i] := h i _ (List.getElem?_eq_getElem hi)
def nr (v x y : Int64) : Prop := uN (gpf x v) < uN (gpf y v) ∨ (gpf x v = gpf y v ∧ x < y)
set_option maxHeartbeats 4000000 in
set_option maxRecDepth 100000 in
theorem c_X8_isNearer (l : Launch) (G : Gt) (Z : Zt) (a : Nat) (v : Int64) (hK : zK Z a = 8) (hv : zF Z 8 a = .long v) (x y : Int64) : Ct l G YX8_isNearer (1, 0, 0) Z [.ref a, .long x, .long y] (ΦI (fun r Z1 => Z1 = Z ∧ rb r (nr v x y))) := by
  refine ct_of [some (.ref a), some (.long x), none, some (.long y), none, none, none, none, none] (by decide +kernel) (Nat.le_of_ble_eq_true rfl) rfl (fun M => ?_)
  refine q_lload_n dX8_isNearer_0 rfl ?_
  first | refine q_aload_n dX8_isNearer_1 rfl ?_ | refine q_aload_nN dX8_isNearer_1 rfl ?_
  refine q_getf dX8_isNearer_2 fk_X8_40_7 (by first | assumption | (simp only [zK_sF, zK_sI, zK_sJ, zK_sR]; assumption)) (by first | assumption | (simp only [zF_sF, zF_sI, zF_sJ, zF_sR, true_and, and_true, false_and, and_false, if_true, if_false, eq_self, reduceIte, Nat.reduceEqDiff, OfNat.ofNat_ne_zero, OfNat.zero_ne_ofNat, OfNat.ofNat_ne_one, OfNat.one_ne_ofNat, reduceCtorEq]; first | rfl | assumption)) ?_
  refine q_callSN dX8_isNearer_5 mn_X8_134 (c_X11_gap l G _ x v) rfl np_X11_gap (by decide) (by decide) (by decide) (Nat.le_of_ble_eq_true rfl) (kL (fun r Z1 h => ?_))
  obtain ⟨rfl, rfl⟩ := h
  rw [show (if x < v then v - x else x - v) = gpf x v from rfl]
  refine q_lstore (ls' := [_, _, _, _, _, _, _, _, _]) dX8_isNearer_8 rfl rfl (Nat.le_of_ble_eq_true rfl) (by decide) ?_
  refine q_lload_n dX8_isNearer_10 rfl ?_
  first | refine q_aload_n dX8_isNearer_11 rfl ?_ | refine q_aload_nN dX8_isNearer_11 rfl ?_
  refine q_getf dX8_isNearer_12 fk_X8_40_7 (by first | assumption | (simp only [zK_sF, zK_sI, zK_sJ, zK_sR]; assumption)) (by first | assumption | (simp only [zF_sF, zF_sI, zF_sJ, zF_sR, true_and, and_true, false_and, and_false, if_true, if_false, eq_self, reduceIte, Nat.reduceEqDiff, OfNat.ofNat_ne_zero, OfNat.zero_ne_ofNat, OfNat.ofNat_ne_one, OfNat.one_ne_ofNat, reduceCtorEq]; first | rfl | assumption)) ?_
  refine q_callSN dX8_isNearer_15 mn_X8_134 (c_X11_gap l G _ y v) rfl np_X11_gap (by decide) (by decide) (by decide) (Nat.le_of_ble_eq_true rfl) (kL (fun r Z1 h => ?_))
  obtain ⟨rfl, rfl⟩ := h
  rw [show (if y < v then v - y else y - v) = gpf y v from rfl]
  refine q_lstore (ls' := [_, _, _, _, _, _, _, _, _]) dX8_isNearer_18 rfl rfl (Nat.le_of_ble_eq_true rfl) (by decide) ?_
  refine q_lload dX8_isNearer_20 rfl ?_
  refine q_lload dX8_isNearer_22 rfl ?_
  refine q_callSN dX8_isNearer_24 mn_X8_138 (c_X11_unsignedBelow l G _ (gpf x v) (gpf y v)) rfl np_X11_unsignedBelow (by decide) (by decide) (by decide) (Nat.le_of_ble_eq_true rfl) (kI (fun r Z1 h => ?_))
  obtain ⟨rfl, h⟩ := h
  rw [uN_below] at h
  refine q_if_ne 44 dX8_isNearer_27 (by decide) (fun c27 => ?_) (fun c27 => ?_)
  · have h := rb_t h c27
    refine q_iconst (v := 1) dX8_isNearer_44 (by decide) ?_
    refine q_goto 49 dX8_isNearer_45 (by decide) ?_
    exact q_zreturn dX8_isNearer_49 rfl rfl (by decide) (by decide) (by first | exact ⟨rfl, rb_1 (Or.inl h)⟩ | exact ⟨rfl, rb_0 (fun z => z.elim h (fun z => c34 z.1))⟩ | exact ⟨rfl, rb_0 (fun z => z.elim h (fun z => absurd z.2 (Int64.not_lt.mpr c40)))⟩ | exact ⟨rfl, rb_1 (Or.inr ⟨c34, Int64.not_le.mp c40⟩)⟩)
  · have h := rb_f h c27
    refine q_lload dX8_isNearer_30 rfl ?_
    refine q_lload dX8_isNearer_32 rfl ?_
    refine q_lcmp_ne 48 dX8_isNearer_34 dX8_isNearer_35 (by decide) (fun c34 => ?_) (fun c34 => ?_)
    · refine q_iconst (v := 0) dX8_isNearer_48 (by decide) ?_
      exact q_zreturn dX8_isNearer_49 rfl rfl (by decide) (by decide) (by first | exact ⟨rfl, rb_1 (Or.inl h)⟩ | exact ⟨rfl, rb_0 (fun z => z.elim h (fun z => c34 z.1))⟩ | exact ⟨rfl, rb_0 (fun z => z.elim h (fun z => absurd z.2 (Int64.not_lt.mpr c40)))⟩ | exact ⟨rfl, rb_1 (Or.inr ⟨c34, Int64.not_le.mp c40⟩)⟩)
    · refine q_lload_n dX8_isNearer_38 rfl ?_
      refine q_lload_n dX8_isNearer_39 rfl ?_
      refine q_lcmp_ge 48 dX8_isNearer_40 dX8_isNearer_41 (by decide) (fun c40 => ?_) (fun c40 => ?_)
      · refine q_iconst (v := 0) dX8_isNearer_48 (by decide) ?_
        exact q_zreturn dX8_isNearer_49 rfl rfl (by decide) (by decide) (by first | exact ⟨rfl, rb_1 (Or.inl h)⟩ | exact ⟨rfl, rb_0 (fun z => z.elim h (fun z => c34 z.1))⟩ | exact ⟨rfl, rb_0 (fun z => z.elim h (fun z => absurd z.2 (Int64.not_lt.mpr c40)))⟩ | exact ⟨rfl, rb_1 (Or.inr ⟨c34, Int64.not_le.mp c40⟩)⟩)
      · refine q_iconst (v := 1) dX8_isNearer_44 (by decide) ?_
        refine q_goto 49 dX8_isNearer_45 (by decide) ?_
        exact q_zreturn dX8_isNearer_49 rfl rfl (by decide) (by decide) (by first | exact ⟨rfl, rb_1 (Or.inl h)⟩ | exact ⟨rfl, rb_0 (fun z => z.elim h (fun z => c34 z.1))⟩ | exact ⟨rfl, rb_0 (fun z => z.elim h (fun z => absurd z.2 (Int64.not_lt.mpr c40)))⟩ | exact ⟨rfl, rb_1 (Or.inr ⟨c34, Int64.not_le.mp c40⟩)⟩)
set_option maxHeartbeats 4000000 in
set_option maxRecDepth 100000 in
theorem c_X8_turn (l : Launch) (G : Gt) (Z : Zt) (p f n : Nat) (hKp : zK Z p = 21) (hLp : zL Z p = 1200) (hfn : f + n ≤ 1200) : Ct l G YX8_turn (0, 0, 0) Z [.ref p, .int (nI f), .int (nI (f + n))] (ΦV (fun Z1 => ∃ g, Z1 = tJ Z p g ∧ (∀ j, j < n → g (f + j) = zJ Z p (f + (n - 1 - j))) ∧ (∀ j, (j < f ∨ f + n ≤ j) → g j = zJ Z p j))) := by
  refine ct_of [some (.ref p), some (.int (nI f)), some (.int (nI (f + n))), none, none, none, none] (by decide +kernel) (Nat.le_of_ble_eq_true rfl) rfl (fun M => ?_)
  have loop : ∀ (k i : Nat) (hi : Int32) (g : Nat → Int64) (x5 : Option Value) (Zc : Zt), Zc = tJ Z p g → n - 2 * i ≤ k → i ≤ n → hi.toInt = (f : Int) + n - 1 - i → (∀ j, j < n → (j < i ∨ n - i ≤ j) → g (f + j) = zJ Z p (f + (n - 1 - j))) → (∀ j, j < n → i ≤ j → j < n - i → g (f + j) = zJ Z p (f + j)) → (∀ j, (j < f ∨ f + n ≤ j) → g j = zJ Z p j) → Jd l G YX8_turn (0, 0, 0) M Zc 0 0 (Qm G (0, 0, 0) M (ΦV (fun Z1 => ∃ g, Z1 = tJ Z p g ∧ (∀ j, j < n → g (f + j) = zJ Z p (f + (n - 1 - j))) ∧ (∀ j, (j < f ∨ f + n ≤ j) → g j = zJ Z p j)))) 7 [some (.ref p), some (.int (nI f)), some (.int (nI (f + n))), some (.int (nI (f + i))), some (.int hi), x5, none] [] := by
    intro k
    induction k with
    | zero =>
      intro i hi g x5 Zc hZ hk hin hh h1 h2 h3
      subst hZ
      refine q_iload_n dX8_turn_7 rfl ?_
      refine q_iload dX8_turn_8 rfl ?_
      refine q_icmp_ge 40 dX8_turn_10 (by decide) (fun c10 => ?_) (fun c10 => absurd c10 (not_not_intro (Int32.le_iff_toInt_le.mpr (by rw [hh, nI_toInt (by omega)]; omega))))
      exact q_return dX8_turn_40 rfl (by decide) (by decide) (⟨g, rfl, fun j hj => (by by_cases e : j < i ∨ n - i ≤ j; exact h1 j hj e; rw [h2 j hj (by omega) (by omega)]; congr 1; omega), h3⟩)
    | succ k ih =>
      intro i hi g x5 Zc hZ hk hin hh h1 h2 h3
      subst hZ
      by_cases hc : n ≤ 2 * i + 1
      · refine q_iload_n dX8_turn_7 rfl ?_
        refine q_iload dX8_turn_8 rfl ?_
        refine q_icmp_ge 40 dX8_turn_10 (by decide) (fun c10 => ?_) (fun c10 => absurd c10 (not_not_intro (Int32.le_iff_toInt_le.mpr (by rw [hh, nI_toInt (by omega)]; omega))))
        exact q_return dX8_turn_40 rfl (by decide) (by decide) (⟨g, rfl, fun j hj => (by by_cases e : j < i ∨ n - i ≤ j; exact h1 j hj e; rw [h2 j hj (by omega) (by omega)]; congr 1; omega), h3⟩)
      · have e : hi = nI (f + (n - 1 - i)) := Int32.toInt_inj.mp (by rw [hh, nI_toInt (by omega)]; omega)
        subst e
        refine q_iload_n dX8_turn_7 rfl ?_
        refine q_iload dX8_turn_8 rfl ?_
        refine q_icmp_ge 40 dX8_turn_10 (by decide) (fun c10 => absurd c10 (nI_ge (by omega) (by omega))) (fun c10 => ?_)
        first | refine q_aload_n dX8_turn_13 rfl ?_ | refine q_aload_nN dX8_turn_13 rfl ?_
        refine q_iload_n dX8_turn_14 rfl ?_
        refine q_lald dX8_turn_15 (by rw [zK_tJ]; exact hKp) (by rw [zL_tJ, hLp]; exact vp_in_nI (by omega) (by decide)) ?_
        refine q_lstore (ls' := [_, _, _, _, _, _, _]) dX8_turn_16 rfl rfl (Nat.le_of_ble_eq_true rfl) (by decide) ?_
        first | refine q_aload_n dX8_turn_18 rfl ?_ | refine q_aload_nN dX8_turn_18 rfl ?_
        refine q_iload_n dX8_turn_19 rfl ?_
        first | refine q_aload_n dX8_turn_20 rfl ?_ | refine q_aload_nN dX8_turn_20 rfl ?_
        refine q_iload dX8_turn_21 rfl ?_
        refine q_lald dX8_turn_23 (by rw [zK_tJ]; exact hKp) (by rw [zL_tJ, hLp]; exact vp_in_nI (by omega) (by decide)) ?_
        refine q_last dX8_turn_24 (by rw [zK_tJ]; exact hKp) (by rw [zL_tJ, hLp]; exact vp_in_nI (by omega) (by decide)) ?_
        first | refine q_aload_n dX8_turn_25 rfl ?_ | refine q_aload_nN dX8_turn_25 rfl ?_
        refine q_iload dX8_turn_26 rfl ?_
        refine q_lload dX8_turn_28 rfl ?_
        refine q_last dX8_turn_30 (by simp only [zK_sJ, zK_tJ]; exact hKp) (by simp only [zL_sJ, zL_tJ]; rw [hLp]; exact vp_in_nI (by omega) (by decide)) ?_
        refine q_iinc 1 (ls' := [_, _, _, _, _, _, _]) dX8_turn_31 rfl (by decide) rfl rfl (Nat.le_of_ble_eq_true rfl) (by decide) ?_
        refine q_iinc (-1) (ls' := [_, _, _, _, _, _, _]) dX8_turn_34 rfl (by decide) rfl rfl (Nat.le_of_ble_eq_true rfl) (by decide) ?_
        refine q_goto 7 dX8_turn_37 (by decide) ?_
        have e1 : nI (f + (n - 1 - i)) + (-1) = nI (f + (n - 1 - i) - 1) := sb_m1 (by omega)
        rw [nI_1, show f + i + 1 = f + (i + 1) by omega]
        refine ih (i + 1) _ (vp_updL (vp_updL g (f + i) (g (f + (n - 1 - i)))) (f + (n - 1 - i)) (g (f + i))) _ _ (by simp only [sJ_t, tJ_tJ, zJ_tJ, if_true, nI_clamp (show f + i < 2 ^ 31 by omega), nI_clamp (show f + (n - 1 - i) < 2 ^ 31 by omega)]) (by omega) (by omega) (by rw [e1, nI_toInt (by omega)]; omega) ?_ ?_ ?_
        · intro j hj hc2
          by_cases ea : j = n - 1 - i
          · subst ea; rw [pk_uLs, h2 i (by omega) (by omega) (by omega)]; congr 1; omega
          · rw [pk_uLn (by omega)]
            by_cases eb : j = i
            · subst eb; rw [pk_uLs, h2 (n - 1 - j) (by omega) (by omega) (by omega)]
            · rw [pk_uLn (by omega)]; exact h1 j hj (by omega)
        · intro j hj h4 h5
          rw [pk_uLn (by omega), pk_uLn (by omega)]; exact h2 j hj (by omega) (by omega)
        · intro j hj
          rw [pk_uLn (by omega), pk_uLn (by omega)]; exact h3 j hj
  refine q_iload_n dX8_turn_0 rfl ?_
  refine q_istore_n (ls' := [_, _, _, _, _, _, _]) dX8_turn_1 rfl rfl (Nat.le_of_ble_eq_true rfl) (by decide) ?_
  refine q_iload_n dX8_turn_2 rfl ?_
  refine q_iconst (v := 1) dX8_turn_3 (by decide) ?_
  refine q_isub dX8_turn_4 ?_
  refine q_istore (ls' := [_, _, _, _, _, _, _]) dX8_turn_5 rfl rfl (Nat.le_of_ble_eq_true rfl) (by decide) ?_
  have e0 : (nI (f + n) - 1).toInt = (f : Int) + n - 1 - (0 : Nat) := by
    have := pk_sub_toInt (a := f + n) (b := 1) (by omega) (by omega)
    rw [show nI 1 = 1 from rfl] at this
    rw [this]; omega
  exact loop n 0 _ (zJ Z p) none Z (tJ_id Z p).symm (by omega) (by omega) e0 (fun j hj h => absurd h (by omega)) (fun j _ _ _ => rfl) (fun j _ => rfl)
noncomputable def insR (v x : Int64) : List Int64 → List Int64
  | [] => [x]
  | y :: ys => @ite _ (nr v x y) (Classical.propDecidable _) (y :: insR v x ys) (x :: y :: ys)
theorem insR_t {v x y : Int64} {ys : List Int64} (h : nr v x y) : insR v x (y :: ys) = y :: insR v x ys := if_pos h
theorem insR_f {v x y : Int64} {ys : List Int64} (h : ¬ nr v x y) : insR v x (y :: ys) = x :: y :: ys := if_neg h
theorem insR_app {v x : Int64} {B : List Int64} : ∀ A : List Int64, (∀ y ∈ A, nr v x y) → insR v x (A ++ B) = A ++ insR v x B
  | [], _ => rfl
  | y :: A, h => by
    rw [List.cons_append, insR_t (h y List.mem_cons_self), insR_app A (fun z hz => h z (List.mem_cons_of_mem _ hz))]
    rfl
theorem insR_len (v x : Int64) : ∀ L : List Int64, (insR v x L).length = L.length + 1
  | [] => rfl
  | y :: L => by
    by_cases h : nr v x y
    · rw [insR_t h, List.length_cons, insR_len v x L]; rfl
    · rw [insR_f h]; rfl
noncomputable def srtR (v : Int64) (L : List Int64) : List Int64 := L.foldl (fun acc x => insR v x acc) []
theorem srtR_snoc (v x : Int64) (L : List Int64) : srtR v (L ++ [x]) = insR v x (srtR v L) := by simp [srtR, List.foldl_append]
theorem srtR_len (v : Int64) (L : List Int64) : (srtR v L).length = L.length := by
  suffices h : ∀ (L acc : List Int64), (L.foldl (fun acc x => insR v x acc) acc).length = L.length + acc.length by simpa [srtR] using h L []
  intro L
  induction L with
  | nil => intro acc; simp
  | cons x L ih => intro acc; rw [List.foldl_cons, ih, insR_len, List.length_cons]; omega
set_option maxHeartbeats 4000000 in
set_option maxRecDepth 100000 in
theorem c_X8_sortByNearness (l : Launch) (G : Gt) (Z : Zt) (a : Nat) (v : Int64) (hK : zK Z a = 8) (hv : zF Z 8 a = .long v) (p f : Nat) (L : List Int64) (hKp : zK Z p = 21) (hLp : zL Z p = 1200) (hfn : f + L.length ≤ 1200) (hL : At (zJ Z p) f L) : Ct l G YX8_sortByNearness (2, 0, 0) Z [.ref a, .ref p, .int (nI f), .int (nI (f + L.length))] (ΦV (fun Z1 => ∃ g, Z1 = tJ Z p g ∧ At g f (srtR v L).reverse ∧ (∀ j, (j < f ∨ f + L.length ≤ j) → g j = zJ Z p j))) := by
  refine ct_of [some (.ref a), some (.ref p), some (.int (nI f)), some (.int (nI (f + L.length))), none, none, none, none] (by decide +kernel) (Nat.le_of_ble_eq_true rfl) rfl (fun M => ?_)
  have outs : ∀ (i : Nat) (x : Int64) (P : List Int64) (g0 : Nat → Int64), i < L.length → P.length = i → x = zJ Z p (f + i) → ∀ (k : Nat) (A B : List Int64) (g : Nat → Int64) (Zc : Zt), Zc = tJ Z p g → B.length = k → A ++ B = P → (∀ y ∈ A, nr v x y) → At g f B.reverse → At g (f + B.length + 1) A.reverse → (∀ j, (j < f ∨ f + i < j) → g j = g0 j) → (∀ (g1 : Nat → Int64) (Z1 : Zt), Z1 = tJ Z p g1 → At g1 f (insR v x P).reverse → (∀ j, (j < f ∨ f + i < j) → g1 j = g0 j) → ∀ hl : Option Value, Jd l G YX8_sortByNearness (2, 0, 0) M Z1 0 0 (Qm G (2, 0, 0) M (ΦV (fun Z1 => ∃ g, Z1 = tJ Z p g ∧ At g f (srtR v L).reverse ∧ (∀ j, (j < f ∨ f + L.length ≤ j) → g j = zJ Z p j)))) 64 [some (.ref a), some (.ref p), some (.int (nI f)), some (.int (nI (f + L.length))), some (.int (nI (f + i))), some (.long x), none, hl] []) → Jd l G YX8_sortByNearness (2, 0, 0) M Zc 0 0 (Qm G (2, 0, 0) M (ΦV (fun Z1 => ∃ g, Z1 = tJ Z p g ∧ At g f (srtR v L).reverse ∧ (∀ j, (j < f ∨ f + L.length ≤ j) → g j = zJ Z p j)))) 21 [some (.ref a), some (.ref p), some (.int (nI f)), some (.int (nI (f + L.length))), some (.int (nI (f + i))), some (.long x), none, some (.int (nI (f + B.length)))] [] := by
    intro i x P g0 hi hP hx k
    induction k with
    | zero =>
      intro A B g Zc hZ hBk hAB hA hB hA2 ho kk
      subst hZ
      have hB0 : B = [] := List.length_eq_zero_iff.mp hBk
      subst hB0
      refine q_iload dX8_sortByNearness_21 rfl ?_
      refine q_iload_n dX8_sortByNearness_23 rfl ?_
      refine q_icmp_le 58 dX8_sortByNearness_24 (by decide) (fun c24 => ?_) (fun c24 => absurd c24 (not_not_intro (nI_le (by simp) (by omega))))
      first | refine q_aload_n dX8_sortByNearness_58 rfl ?_ | refine q_aload_nN dX8_sortByNearness_58 rfl ?_
      refine q_iload dX8_sortByNearness_59 rfl ?_
      refine q_lload dX8_sortByNearness_61 rfl ?_
      refine q_last dX8_sortByNearness_63 (by rw [zK_tJ]; exact hKp) (by rw [zL_tJ, hLp]; exact vp_in_nI (by simp; omega) (by decide)) ?_
      have hA3 : A = P := by simpa using hAB
      subst hA3
      refine kk (vp_updL g (f + ([] : List Int64).length) x) _ (by simp only [sJ_t, tJ_tJ, zJ_tJ, if_true, nI_clamp (show f + ([] : List Int64).length < 2 ^ 31 by omega)]) ?_ (fun j hj => by rw [pk_uLn (by omega)]; exact ho j hj) _
      rw [show A = A ++ [] by simp, insR_app A hA, List.reverse_append]
      refine At_app (L := (insR v x []).reverse) (fun j y hy => ?_) (At_same hA2 (fun j h1 h2 => by rw [pk_uLn (by have e : (insR v x []).reverse.length = 1 := rfl; rw [e] at h1; show j ≠ f + 0; omega)]))
      have hj : j < 1 := (List.getElem?_eq_some_iff.mp hy).1
      have hj0 : j = 0 := by omega
      subst hj0
      have : x = y := by simpa [insR] using hy
      rw [← this]; exact pk_uLs
    | succ k ih =>
      intro A B g Zc hZ hBk hAB hA hB hA2 ho kk
      subst hZ
      obtain ⟨y, B, rfl⟩ := List.exists_cons_of_length_eq_add_one hBk
      have hBl : B.length = k := by simpa using hBk
      have hlen : A.length + (B.length + 1) = i := by rw [← hP, ← hAB]; simp
      have hy : g (f + B.length) = y := by
        rw [List.reverse_cons] at hB
        have := At_r hB 0 y (by simp)
        simpa using this
      have e1 : nI (f + (y :: B).length) - 1 = nI (f + B.length) := by rw [List.length_cons, ← Nat.add_assoc]; exact nI_pred _
      refine q_iload dX8_sortByNearness_21 rfl ?_
      refine q_iload_n dX8_sortByNearness_23 rfl ?_
      refine q_icmp_le 58 dX8_sortByNearness_24 (by decide) (fun c24 => absurd c24 (nI_ge (by simp) (by simp; omega))) (fun c24 => ?_)
      first | refine q_aload_n dX8_sortByNearness_27 rfl ?_ | refine q_aload_nN dX8_sortByNearness_27 rfl ?_
      refine q_lload dX8_sortByNearness_28 rfl ?_
      first | refine q_aload_n dX8_sortByNearness_30 rfl ?_ | refine q_aload_nN dX8_sortByNearness_30 rfl ?_
      refine q_iload dX8_sortByNearness_31 rfl ?_
      refine q_iconst (v := 1) dX8_sortByNearness_33 (by decide) ?_
      refine q_isub dX8_sortByNearness_34 ?_
      refine q_lald dX8_sortByNearness_35 (by rw [zK_tJ]; exact hKp) (by rw [zL_tJ, hLp, e1]; exact vp_in_nI (by omega) (by decide)) ?_
      refine q_callV 7 dX8_sortByNearness_36 mk_X8_130 rfl (by rw [zK_tJ]; exact hK) (c_X8_isNearer l G (tJ Z p g) a v hK hv x _) rfl np_X8_isNearer (by decide) (by decide) (by decide) (Nat.le_of_ble_eq_true rfl) (kI (fun r Z1 h => ?_))
      obtain ⟨rfl, h⟩ := h
      simp only [zJ_tJ, if_true, e1, nI_clamp (show f + B.length < 2 ^ 31 by omega), hy] at h
      refine q_if_eq 58 dX8_sortByNearness_39 (by decide) (fun c39 => ?_) (fun c39 => ?_)
      · have h := rb_f h c39
        first | refine q_aload_n dX8_sortByNearness_58 rfl ?_ | refine q_aload_nN dX8_sortByNearness_58 rfl ?_
        refine q_iload dX8_sortByNearness_59 rfl ?_
        refine q_lload dX8_sortByNearness_61 rfl ?_
        refine q_last dX8_sortByNearness_63 (by rw [zK_tJ]; exact hKp) (by rw [zL_tJ, hLp]; exact vp_in_nI (by simp; omega) (by decide)) ?_
        refine kk (vp_updL g (f + (y :: B).length) x) _ (by simp only [sJ_t, tJ_tJ, zJ_tJ, if_true, nI_clamp (show f + (y :: B).length < 2 ^ 31 by omega)]) ?_ (fun j hj => by rw [pk_uLn (by omega)]; exact ho j hj) _
        rw [← hAB, insR_app A hA, insR_f h, List.reverse_append, List.reverse_cons]
        refine At_app (L := (y :: B).reverse ++ [x]) (At_snoc (At_same hB (fun j h1 h2 => by rw [pk_uLn (by simp at h2 ⊢; omega)])) (by rw [List.length_reverse]; exact pk_uLs)) (fun j z hz => ?_)
        have := hA2 j z hz
        rw [show f + ((y :: B).reverse ++ [x]).length + j = f + (y :: B).length + 1 + j by simp; omega, pk_uLn (by omega)]
        exact this
      · have h := rb_t h c39
        first | refine q_aload_n dX8_sortByNearness_42 rfl ?_ | refine q_aload_nN dX8_sortByNearness_42 rfl ?_
        refine q_iload dX8_sortByNearness_43 rfl ?_
        first | refine q_aload_n dX8_sortByNearness_45 rfl ?_ | refine q_aload_nN dX8_sortByNearness_45 rfl ?_
        refine q_iload dX8_sortByNearness_46 rfl ?_
        refine q_iconst (v := 1) dX8_sortByNearness_48 (by decide) ?_
        refine q_isub dX8_sortByNearness_49 ?_
        refine q_lald dX8_sortByNearness_50 (by rw [zK_tJ]; exact hKp) (by rw [zL_tJ, hLp, e1]; exact vp_in_nI (by omega) (by decide)) ?_
        refine q_last dX8_sortByNearness_51 (by rw [zK_tJ]; exact hKp) (by rw [zL_tJ, hLp]; exact vp_in_nI (by simp; omega) (by decide)) ?_
        refine q_iinc (-1) (ls' := [_, _, _, _, _, _, _, _]) dX8_sortByNearness_52 rfl (by decide) rfl rfl (Nat.le_of_ble_eq_true rfl) (by decide) ?_
        refine q_goto 21 dX8_sortByNearness_55 (by decide) ?_
        have e2 : nI (f + (y :: B).length) + -1 = nI (f + B.length) := by rw [List.length_cons, ← Nat.add_assoc]; exact pk_m1 _
        rw [e2]
        refine ih (A ++ [y]) B (vp_updL g (f + B.length + 1) y) _ (by simp only [sJ_t, tJ_tJ, zJ_tJ, if_true, e1, nI_clamp (show f + B.length < 2 ^ 31 by omega), hy, nI_clamp (show f + (y :: B).length < 2 ^ 31 by simp; omega)]; rfl) hBl (by rw [← hAB]; simp) (fun z hz => ?_) ?_ ?_ (fun j hj => by rw [pk_uLn (by omega)]; exact ho j hj) kk
        · rcases List.mem_append.mp hz with hz | hz
          · exact hA z hz
          · have : z = y := by simpa using hz
            rw [this]; exact h
        · rw [List.reverse_cons] at hB
          exact At_same (At_l hB) (fun j h1 h2 => by rw [pk_uLn (by simp at h2; omega)])
        · rw [List.reverse_append]
          refine At_app (L := [y].reverse) (fun j z hz => ?_) ?_
          · have hj : j < 1 := (List.getElem?_eq_some_iff.mp hz).1
            have hj0 : j = 0 := by omega
            subst hj0
            have : y = z := by simpa using hz
            rw [← this]; exact pk_uLs
          · intro j z hz
            have := hA2 j z hz
            rw [show f + B.length + 1 + [y].reverse.length + j = f + (y :: B).length + 1 + j by simp; omega, pk_uLn (by simp; omega)]
            exact this
  have loop : ∀ (k i : Nat) (g : Nat → Int64) (x5 x7 : Option Value) (Zc : Zt), Zc = tJ Z p g → L.length - i ≤ k → 1 ≤ i → At g f (srtR v (L.take i)).reverse → (∀ j, (j < f ∨ f + i ≤ j) → g j = zJ Z p j) → (i ≤ L.length) → Jd l G YX8_sortByNearness (2, 0, 0) M Zc 0 0 (Qm G (2, 0, 0) M (ΦV (fun Z1 => ∃ g, Z1 = tJ Z p g ∧ At g f (srtR v L).reverse ∧ (∀ j, (j < f ∨ f + L.length ≤ j) → g j = zJ Z p j)))) 5 [some (.ref a), some (.ref p), some (.int (nI f)), some (.int (nI (f + L.length))), some (.int (nI (f + i))), x5, none, x7] [] := by
    intro k
    induction k with
    | zero =>
      intro i g x5 x7 Zc hZ hk h1 hA ho hi
      subst hZ
      have hcl : L.length ≤ i := by omega
      have hfin : ∀ j, (j < f ∨ f + L.length ≤ j) → g j = zJ Z p j := fun j hj => ho j (by omega)
      refine q_iload dX8_sortByNearness_5 rfl ?_
      refine q_iload_n dX8_sortByNearness_7 rfl ?_
      refine q_icmp_ge 70 dX8_sortByNearness_8 (by decide) (fun c8 => ?_) (fun c8 => absurd c8 (not_not_intro (nI_le (by omega) (by omega))))
      exact q_return dX8_sortByNearness_70 rfl (by decide) (by decide) ⟨g, rfl, (by rw [List.take_of_length_le hcl] at hA; exact hA), fun j hj => hfin j hj⟩
    | succ k ih =>
      intro i g x5 x7 Zc hZ hk h1 hA ho hi
      subst hZ
      by_cases hcl : L.length ≤ i
      · have hfin : ∀ j, (j < f ∨ f + L.length ≤ j) → g j = zJ Z p j := fun j hj => ho j (by omega)
        refine q_iload dX8_sortByNearness_5 rfl ?_
        refine q_iload_n dX8_sortByNearness_7 rfl ?_
        refine q_icmp_ge 70 dX8_sortByNearness_8 (by decide) (fun c8 => ?_) (fun c8 => absurd c8 (not_not_intro (nI_le (by omega) (by omega))))
        exact q_return dX8_sortByNearness_70 rfl (by decide) (by decide) ⟨g, rfl, (by rw [List.take_of_length_le hcl] at hA; exact hA), fun j hj => hfin j hj⟩
      · have htk : (L.take i).length = i := by simp; omega
        refine q_iload dX8_sortByNearness_5 rfl ?_
        refine q_iload_n dX8_sortByNearness_7 rfl ?_
        refine q_icmp_ge 70 dX8_sortByNearness_8 (by decide) (fun c8 => absurd c8 (nI_ge (by omega) (by omega))) (fun c8 => ?_)
        first | refine q_aload_n dX8_sortByNearness_11 rfl ?_ | refine q_aload_nN dX8_sortByNearness_11 rfl ?_
        refine q_iload dX8_sortByNearness_12 rfl ?_
        refine q_lald dX8_sortByNearness_14 (by rw [zK_tJ]; exact hKp) (by rw [zL_tJ, hLp]; exact vp_in_nI (by omega) (by decide)) ?_
        refine q_lstore (ls' := [_, _, _, _, _, _, _, _]) dX8_sortByNearness_15 rfl rfl (Nat.le_of_ble_eq_true rfl) (by decide) ?_
        refine q_iload dX8_sortByNearness_17 rfl ?_
        refine q_istore (ls' := [_, _, _, _, _, _, _, _]) dX8_sortByNearness_19 rfl rfl (Nat.le_of_ble_eq_true rfl) (by decide) ?_
        have hx : zJ (tJ Z p g) p (nI (f + i)).toNatClampNeg = zJ Z p (f + i) := by rw [zJ_tJ, if_pos rfl, nI_clamp (by omega)]; exact ho _ (by omega)
        rw [hx]
        have hsl : (srtR v (L.take i)).length = i := by rw [srtR_len]; exact htk
        have hxl : zJ Z p (f + i) = L[i] := At_get hL (by omega)
        have hgo := outs i (zJ Z p (f + i)) (srtR v (L.take i)) g (by omega) hsl rfl i [] (srtR v (L.take i)) g _ rfl hsl rfl (fun y hy => absurd hy List.not_mem_nil) hA At_nil (fun j _ => rfl) (fun g1 Z1 hZ1 hA1 ho1 hl => ?_)
        · rw [hsl] at hgo; exact hgo
        · refine q_iinc 1 (ls' := [_, _, _, _, _, _, _, _]) dX8_sortByNearness_64 rfl (by decide) rfl rfl (Nat.le_of_ble_eq_true rfl) (by decide) ?_
          refine q_goto 5 dX8_sortByNearness_67 (by decide) ?_
          rw [nI_1, show f + i + 1 = f + (i + 1) by omega]
          refine ih (i + 1) g1 _ _ _ hZ1 (by omega) (by omega) ?_ (fun j hj => by rw [ho1 j (by omega)]; exact ho j (by omega)) (by omega)
          rw [List.take_succ_eq_append_getElem (by omega), srtR_snoc, ← hxl]; exact hA1
  refine q_iload_n dX8_sortByNearness_0 rfl ?_
  refine q_iconst (v := 1) dX8_sortByNearness_1 (by decide) ?_
  refine q_iadd dX8_sortByNearness_2 ?_
  refine q_istore (ls' := [_, _, _, _, _, _, _, _]) dX8_sortByNearness_3 rfl rfl (Nat.le_of_ble_eq_true rfl) (by decide) ?_
  rcases Nat.eq_zero_or_pos L.length with h0 | h0
  · have hn : L = [] := List.length_eq_zero_iff.mp h0
    subst hn
    refine q_iload dX8_sortByNearness_5 rfl ?_
    refine q_iload_n dX8_sortByNearness_7 rfl ?_
    refine q_icmp_ge 70 dX8_sortByNearness_8 (by decide) (fun c8 => ?_) (fun c8 => absurd c8 (not_not_intro (by rw [nI_1]; exact nI_le (by simp) (by omega))))
    exact q_return dX8_sortByNearness_70 rfl (by decide) (by decide) ⟨zJ Z p, (tJ_id Z p).symm, At_nil, fun j _ => rfl⟩
  · rw [nI_1]
    have e0 : srtR v (L.take 1) = L.take 1 := by
      obtain ⟨x, L1, rfl⟩ := List.exists_cons_of_length_pos h0
      rfl
    refine loop L.length 1 (zJ Z p) none none Z (tJ_id Z p).symm (by omega) (by omega) ?_ (fun j _ => rfl) (by omega)
    rw [e0]
    obtain ⟨x, L1, rfl⟩ := List.exists_cons_of_length_pos h0
    intro j y hy
    have hj : j < 1 := by have := (List.getElem?_eq_some_iff.mp hy).1; simp at this; omega
    have hj0 : j = 0 := by omega
    subst hj0
    exact hL 0 y (by simpa using hy)
end
