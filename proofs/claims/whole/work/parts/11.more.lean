theorem np_X11_init : nPar YX11_init = some 0 := by decide +kernel
theorem np_X10_init : nPar YX10_init = some 0 := by decide +kernel
theorem np_X5_init : nPar YX5_init = some 0 := by decide +kernel
theorem np_X6_init : nPar YX6_init = some 0 := by decide +kernel
theorem np_X0_init : nPar YX0_init = some 1 := by decide +kernel
theorem np_X11_shelf : nPar YX11_shelf = some 3 := by decide +kernel
theorem np_X11_shelfAt : nPar YX11_shelfAt = some 1 := by decide +kernel
theorem np_X6_hold : nPar YX6_hold = some 2 := by decide +kernel
theorem np_J7_fill_d0a16 : nPar YJ7_fill_d0a16 = some 2 := by decide +kernel
theorem np_X11_item : nPar YX11_item = some 3 := by decide +kernel
theorem np_X6_rowFailure : nPar YX6_rowFailure = some 0 := by decide +kernel
theorem np_X6_hasItem : nPar YX6_hasItem = some 1 := by decide +kernel
theorem np_X6_setItem : nPar YX6_setItem = some 2 := by decide +kernel
theorem np_X11_box : nPar YX11_box = some 2 := by decide +kernel
theorem np_X11_boxAt : nPar YX11_boxAt = some 1 := by decide +kernel
theorem np_X11_filter : nPar YX11_filter = some 4 := by decide +kernel
theorem np_X11_filterOfFilters : nPar YX11_filterOfFilters = some 3 := by decide +kernel
theorem np_X11_filterAt : nPar YX11_filterAt = some 1 := by decide +kernel
theorem np_X3_init : nPar YX3_init = some 4 := by decide +kernel
theorem np_J9_max_7cf53 : nPar YJ9_max_7cf53 = some 2 := by decide +kernel
theorem np_X2_init : nPar YX2_init = some 2 := by decide +kernel
theorem np_X11_keepFilter : nPar YX11_keepFilter = some 1 := by decide +kernel
theorem np_X11_filterOfShelf : nPar YX11_filterOfShelf = some 3 := by decide +kernel
theorem np_X7_init : nPar YX7_init = some 4 := by decide +kernel
theorem np_X11_filterOfBox : nPar YX11_filterOfBox = some 2 := by decide +kernel
theorem np_J9_abs_067f4 : nPar YJ9_abs_067f4 = some 1 := by decide +kernel
theorem np_X1_init : nPar YX1_init = some 3 := by decide +kernel
theorem np_X4_init : nPar YX4_init = some 4 := by decide +kernel
theorem np_X11_ask : nPar YX11_ask = some 2 := by decide +kernel
theorem np_X10_beginAsk : nPar YX10_beginAsk = some 0 := by decide +kernel
theorem np_X1_judge : nPar YX1_judge = some 2 := by decide +kernel
theorem np_X1_thingFor : nPar YX1_thingFor = some 1 := by decide +kernel
theorem np_X0_put : nPar YX0_put = some 2 := by decide +kernel
theorem np_X0_takes : nPar YX0_takes = some 1 := by decide +kernel
theorem np_X10_fail : nPar YX10_fail = some 2 := by decide +kernel
theorem np_X3_judge : nPar YX3_judge = some 2 := by decide +kernel
theorem np_X4_judge : nPar YX4_judge = some 2 := by decide +kernel
theorem np_X2_verdict : nPar YX2_verdict = some 1 := by decide +kernel
theorem np_X4_judgeRoom : nPar YX4_judgeRoom = some 2 := by decide +kernel
theorem np_X7_judge : nPar YX7_judge = some 2 := by decide +kernel
theorem np_X3_leavesItToSecond : nPar YX3_leavesItToSecond = some 1 := by decide +kernel
theorem np_X10_canBeMet : nPar YX10_canBeMet = some 1 := by decide +kernel
theorem np_X11_asked : nPar YX11_asked = some 1 := by decide +kernel
theorem np_X3_timesAsked : nPar YX3_timesAsked = some 0 := by decide +kernel
theorem np_X2_timesAsked : nPar YX2_timesAsked = some 0 := by decide +kernel
theorem np_X11_span : nPar YX11_span = some 3 := by decide +kernel
theorem np_X9_init : nPar YX9_init = some 4 := by decide +kernel
theorem np_X8_init : nPar YX8_init = some 1 := by decide +kernel
theorem np_X11_keepSource : nPar YX11_keepSource = some 1 := by decide +kernel
theorem np_X11_unsignedQuotient : nPar YX11_unsignedQuotient = some 2 := by decide +kernel
theorem np_X11_unsignedBelow : nPar YX11_unsignedBelow = some 2 := by decide +kernel
theorem np_X11_list : nPar YX11_list = some 0 := by decide +kernel
theorem np_X8_init_ : nPar YX8_init_ = some 7 := by decide +kernel
theorem np_X8_depthOver : nPar YX8_depthOver = some 2 := by decide +kernel
theorem np_X8_plainOver : nPar YX8_plainOver = some 3 := by decide +kernel
theorem np_X9_turned : nPar YX9_turned = some 0 := by decide +kernel
theorem np_X9_numberAt : nPar YX9_numberAt = some 1 := by decide +kernel
theorem np_X9_every : nPar YX9_every = some 1 := by decide +kernel
theorem np_X11_add : nPar YX11_add = some 2 := by decide +kernel
theorem np_X11_sourceAt : nPar YX11_sourceAt = some 1 := by decide +kernel
theorem np_X6_append : nPar YX6_append = some 1 := by decide +kernel
theorem np_X11_source : nPar YX11_source = some 6 := by decide +kernel
theorem np_X11_countFits : nPar YX11_countFits = some 2 := by decide +kernel
theorem np_X11_sourceOfShelf : nPar YX11_sourceOfShelf = some 1 := by decide +kernel
theorem np_X11_range : nPar YX11_range = some 1 := by decide +kernel
theorem np_X10_beginRange : nPar YX10_beginRange = some 0 := by decide +kernel
theorem np_X5_becomePlain : nPar YX5_becomePlain = some 1 := by decide +kernel
theorem np_X8_gather : nPar YX8_gather = some 3 := by decide +kernel
theorem np_X8_gatherPlain : nPar YX8_gatherPlain = some 2 := by decide +kernel
theorem np_X8_gatherRow : nPar YX8_gatherRow = some 3 := by decide +kernel
theorem np_X8_keepOfOne : nPar YX8_keepOfOne = some 4 := by decide +kernel
theorem np_X8_turn : nPar YX8_turn = some 3 := by decide +kernel
theorem np_X8_sortByNearness : nPar YX8_sortByNearness = some 3 := by decide +kernel
theorem np_X8_isNearer : nPar YX8_isNearer = some 2 := by decide +kernel
theorem np_X11_gap : nPar YX11_gap = some 2 := by decide +kernel
theorem np_J9_min_7cf53 : nPar YJ9_min_7cf53 = some 2 := by decide +kernel
theorem np_X8_keepEvery : nPar YX8_keepEvery = some 3 := by decide +kernel
theorem np_X8_keepPassing : nPar YX8_keepPassing = some 4 := by decide +kernel
theorem np_X10_barByLatest : nPar YX10_barByLatest = some 2 := by decide +kernel
theorem np_X8_keepOfTwo : nPar YX8_keepOfTwo = some 4 := by decide +kernel
theorem np_X11_find : nPar YX11_find = some 4 := by decide +kernel
theorem np_X5_becomeGathered : nPar YX5_becomeGathered = some 2 := by decide +kernel
theorem np_X11_size : nPar YX11_size = some 0 := by decide +kernel
theorem np_X5_many : nPar YX5_many = some 0 := by decide +kernel
theorem np_X11_place : nPar YX11_place = some 1 := by decide +kernel
theorem np_X5_indexOf : nPar YX5_indexOf = some 1 := by decide +kernel
theorem np_X9_indexOf : nPar YX9_indexOf = some 1 := by decide +kernel
theorem np_X11_unsignedRest : nPar YX11_unsignedRest = some 2 := by decide +kernel
theorem np_X11_barred : nPar YX11_barred = some 0 := by decide +kernel
theorem np_X11_bar : nPar YX11_bar = some 2 := by decide +kernel
theorem np_X10_hasBarred : nPar YX10_hasBarred = some 1 := by decide +kernel
theorem np_X11_distance : nPar YX11_distance = some 2 := by decide +kernel
theorem np_X11_told : nPar YX11_told = some 1 := by decide +kernel
theorem np_X11_at : nPar YX11_at = some 1 := by decide +kernel
theorem np_X5_numberAt : nPar YX5_numberAt = some 1 := by decide +kernel
theorem np_X11_draw : nPar YX11_draw = some 1 := by decide +kernel
theorem np_X11_barredAt : nPar YX11_barredAt = some 1 := by decide +kernel
theorem np_X12_init : nPar YX12_init = some 0 := by decide +kernel
theorem np_X12_thrown : nPar YX12_thrown = some 0 := by decide +kernel
theorem np_X12_shelf : nPar YX12_shelf = some 3 := by decide +kernel
theorem np_X12_item : nPar YX12_item = some 3 := by decide +kernel
theorem np_X12_box : nPar YX12_box = some 2 := by decide +kernel
theorem np_X12_filter : nPar YX12_filter = some 4 := by decide +kernel
theorem np_X12_isFilter : nPar YX12_isFilter = some 1 := by decide +kernel
theorem np_X12_ask : nPar YX12_ask = some 2 := by decide +kernel
theorem np_X12_passes : nPar YX12_passes = some 2 := by decide +kernel
theorem np_X12_fails : nPar YX12_fails = some 2 := by decide +kernel
theorem np_X12_puts : nPar YX12_puts = some 4 := by decide +kernel
theorem np_X12_asked : nPar YX12_asked = some 1 := by decide +kernel
theorem np_X12_span : nPar YX12_span = some 3 := by decide +kernel
theorem np_X12_divided : nPar YX12_divided = some 2 := by decide +kernel
theorem np_X12_comes : nPar YX12_comes = some 3 := by decide +kernel
theorem np_X12_list : nPar YX12_list = some 0 := by decide +kernel
theorem np_X12_add : nPar YX12_add = some 2 := by decide +kernel
theorem np_X12_isSource : nPar YX12_isSource = some 1 := by decide +kernel
theorem np_X12_source : nPar YX12_source = some 6 := by decide +kernel
theorem np_X12_range : nPar YX12_range = some 1 := by decide +kernel
theorem np_X12_goes : nPar YX12_goes = some 2 := by decide +kernel
theorem np_X12_put : nPar YX12_put = some 2 := by decide +kernel
theorem np_X12_twoOf : nPar YX12_twoOf = some 2 := by decide +kernel
theorem np_X12_isIn : nPar YX12_isIn = some 2 := by decide +kernel
theorem np_X12_shelfOf : nPar YX12_shelfOf = some 2 := by decide +kernel
theorem np_X12_one : nPar YX12_one = some 3 := by decide +kernel
theorem np_X12_near : nPar YX12_near = some 4 := by decide +kernel
theorem np_X12_isNearer : nPar YX12_isNearer = some 3 := by decide +kernel
theorem np_X12_far : nPar YX12_far = some 2 := by decide +kernel
theorem np_X12_place : nPar YX12_place = some 1 := by decide +kernel
theorem np_X12_size : nPar YX12_size = some 0 := by decide +kernel
theorem np_X12_at : nPar YX12_at = some 1 := by decide +kernel
theorem np_X12_draw : nPar YX12_draw = some 1 := by decide +kernel
theorem np_X12_barred : nPar YX12_barred = some 0 := by decide +kernel
theorem np_X12_bar : nPar YX12_bar = some 2 := by decide +kernel
theorem np_X12_barredAt : nPar YX12_barredAt = some 1 := by decide +kernel
theorem np_X12_distance : nPar YX12_distance = some 2 := by decide +kernel
theorem np_X12_told : nPar YX12_told = some 1 := by decide +kernel
theorem ac_0 : Cond.arrayClass (aTy 0) ∈ WS := (ws_t 67 (by decide +kernel) rfl)
theorem ac_1 : Cond.arrayClass (aTy 1) ∈ WS := (ws_t 66 (by decide +kernel) rfl)
theorem ac_2 : Cond.arrayClass (aTy 2) ∈ WS := (ws_t 858 (by decide +kernel) rfl)
theorem oi_m : Cond.instanceMethod objectInit ∈ WS := (ws_t 26 (by decide +kernel) rfl)
theorem oi_c : Cond.code objectInit ⟨#[0xb1]⟩ 1 none ∈ WS := (ws_t 27 (by decide +kernel) rfl)
section QK
variable {l : Launch} {G : Gt} {Y : Yt} {B : Bt} {M : Mt} {cells slots : Nat} {Q : State → Prop} {pc : Nat} {ls : List (Option Value)} {rest : List Value}
theorem kI {Ψ : Int32 → Zt → Prop} (kk : ∀ (r : Int32) (Z' : Zt), Ψ r Z' → Jd l G Y B M Z' cells slots Q pc ls (.int r :: rest)) : ∀ (v : Option Value) (Z' : Zt), ΦI Ψ v Z' → Jd l G Y B M Z' cells slots Q pc ls (v.toList ++ rest) := by
  rintro v Z' ⟨r, rfl, h⟩
  exact kk r Z' h
theorem kL {Ψ : Int64 → Zt → Prop} (kk : ∀ (r : Int64) (Z' : Zt), Ψ r Z' → Jd l G Y B M Z' cells slots Q pc ls (.long r :: rest)) : ∀ (v : Option Value) (Z' : Zt), ΦL Ψ v Z' → Jd l G Y B M Z' cells slots Q pc ls (v.toList ++ rest) := by
  rintro v Z' ⟨r, rfl, h⟩
  exact kk r Z' h
theorem kV {Ψ : Zt → Prop} (kk : ∀ (Z' : Zt), Ψ Z' → Jd l G Y B M Z' cells slots Q pc ls rest) : ∀ (v : Option Value) (Z' : Zt), ΦV Ψ v Z' → Jd l G Y B M Z' cells slots Q pc ls (v.toList ++ rest) := by
  rintro v Z' ⟨rfl, h⟩
  exact kk Z' h
theorem kA {Ψ : Option Nat → Zt → Prop} (kk : ∀ (r : Option Nat) (Z' : Zt), Ψ r Z' → Jd l G Y B M Z' cells slots Q pc ls (va_rf r :: rest)) : ∀ (v : Option Value) (Z' : Zt), ΦA Ψ v Z' → Jd l G Y B M Z' cells slots Q pc ls (v.toList ++ rest) := by
  rintro v Z' ⟨r, rfl, h⟩
  exact kk r Z' h
end QK
