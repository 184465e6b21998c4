set_option maxRecDepth 100000 in
theorem usW_0 : ∀ w ∈ u_ws RX0 TX0 2, w ∈ WS := ws_us RX0 TX0 2 [117, 119] (by decide +kernel) (by decide +kernel)
set_option maxRecDepth 100000 in
theorem usW_1 : ∀ w ∈ u_ws RX1 TX1 4, w ∈ WS := ws_us RX1 TX1 4 [288, 289, 284, 286] (by decide +kernel) (by decide +kernel)
set_option maxRecDepth 100000 in
theorem usW_2 : ∀ w ∈ u_ws RX3 TX3 6, w ∈ WS := ws_us RX3 TX3 6 [237, 239, 229, 231, 233, 235] (by decide +kernel) (by decide +kernel)
set_option maxRecDepth 100000 in
theorem usW_3 : ∀ w ∈ u_ws RX4 TX4 5, w ∈ WS := ws_us RX4 TX4 5 [306, 307, 300, 302, 304] (by decide +kernel) (by decide +kernel)
set_option maxRecDepth 100000 in
theorem usW_4 : ∀ w ∈ u_ws RX5 TX5 3, w ∈ WS := ws_us RX5 TX5 3 [78, 80, 82] (by decide +kernel) (by decide +kernel)
set_option maxRecDepth 100000 in
theorem usW_5 : ∀ w ∈ u_ws RX6 TX6 4, w ∈ WS := ws_us RX6 TX6 4 [100, 102, 104, 106] (by decide +kernel) (by decide +kernel)
set_option maxRecDepth 100000 in
theorem usW_6 : ∀ w ∈ u_ws RX7 TX7 5, w ∈ WS := ws_us RX7 TX7 5 [265, 266, 259, 261, 263] (by decide +kernel) (by decide +kernel)
set_option maxRecDepth 100000 in
theorem usW_7 : ∀ w ∈ u_ws RX8 TX8 9, w ∈ WS := ws_us RX8 TX8 9 [427, 429, 431, 433, 435, 437, 439, 441, 443] (by decide +kernel) (by decide +kernel)
set_option maxRecDepth 100000 in
theorem usW_8 : ∀ w ∈ u_ws RX9 TX9 4, w ∈ WS := ws_us RX9 TX9 4 [401, 403, 405, 407] (by decide +kernel) (by decide +kernel)
set_option maxRecDepth 100000 in
theorem usW_9 : ∀ w ∈ u_ws RX10 TX10 6, w ∈ WS := ws_us RX10 TX10 6 [53, 55, 57, 59, 61, 63] (by decide +kernel) (by decide +kernel)
set_option maxRecDepth 100000 in
theorem usW_10 : ∀ w ∈ u_ws RX11 TX11 9, w ∈ WS := ws_us RX11 TX11 9 [131, 133, 135, 137, 139, 141, 143, 145, 147] (by decide +kernel) (by decide +kernel)
set_option maxRecDepth 100000 in
theorem usW_11 : ∀ w ∈ u_ws RX12 TX12 41, w ∈ WS := ws_us RX12 TX12 41 [775, 777, 779, 781, 783, 785, 787, 789, 791, 793, 795, 797, 799, 801, 803, 805, 807, 809, 811, 813, 815, 817, 819, 821, 823, 825, 827, 829, 831, 833, 835, 837, 839, 841, 843, 845, 847, 849, 851, 853, 855] (by decide +kernel) (by decide +kernel)
theorem clW {c : Nat} {q : vw_C} (hq : vwCl[c]? = some q) : ∀ w ∈ u_ws q.1 q.2.1 q.2.2, w ∈ WS := by
  match c, hq with
  | 0, hq => cases hq; exact usW_0
  | 1, hq => cases hq; exact usW_1
  | 2, hq => cases hq; exact usW_2
  | 3, hq => cases hq; exact usW_3
  | 4, hq => cases hq; exact usW_4
  | 5, hq => cases hq; exact usW_5
  | 6, hq => cases hq; exact usW_6
  | 7, hq => cases hq; exact usW_7
  | 8, hq => cases hq; exact usW_8
  | 9, hq => cases hq; exact usW_9
  | 10, hq => cases hq; exact usW_10
  | 11, hq => cases hq; exact usW_11
  | c + 12, hq => exact absurd (vwCl_lt hq) (by omega)
theorem clTy {c : Nat} {q : vw_C} (hq : vwCl[c]? = some q) : ∀ k, k < q.2.2 → parseFieldDescriptor (q.2.1 k).2.2.1 = some (tyTab c k) := by
  match c, hq with
  | 0, hq => cases hq; exact tyX0_ok
  | 1, hq => cases hq; exact tyX1_ok
  | 2, hq => cases hq; exact tyX3_ok
  | 3, hq => cases hq; exact tyX4_ok
  | 4, hq => cases hq; exact tyX5_ok
  | 5, hq => cases hq; exact tyX6_ok
  | 6, hq => cases hq; exact tyX7_ok
  | 7, hq => cases hq; exact tyX8_ok
  | 8, hq => cases hq; exact tyX9_ok
  | 9, hq => cases hq; exact tyX10_ok
  | 10, hq => cases hq; exact tyX11_ok
  | 11, hq => cases hq; exact tyX12_ok
  | c + 12, hq => exact absurd (vwCl_lt hq) (by omega)
theorem clNm {c : Nat} {q : vw_C} (hq : vwCl[c]? = some q) : ∀ a, a < q.2.2 → ∀ b, b < q.2.2 → a ≠ b → (q.2.1 a).2.1 ≠ (q.2.1 b).2.1 := by
  match c, hq with
  | 0, hq => cases hq; exact nmX0
  | 1, hq => cases hq; exact nmX1
  | 2, hq => cases hq; exact nmX3
  | 3, hq => cases hq; exact nmX4
  | 4, hq => cases hq; exact nmX5
  | 5, hq => cases hq; exact nmX6
  | 6, hq => cases hq; exact nmX7
  | 7, hq => cases hq; exact nmX8
  | 8, hq => cases hq; exact nmX9
  | 9, hq => cases hq; exact nmX10
  | 10, hq => cases hq; exact nmX11
  | 11, hq => cases hq; exact nmX12
  | c + 12, hq => exact absurd (vwCl_lt hq) (by omega)
