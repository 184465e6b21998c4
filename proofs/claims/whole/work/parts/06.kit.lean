/-! The heap by kinds, fields and arrays (one function each), and a judgement over it: rows an instruction, calls, ends -/
abbrev Gt : Type := (Nat → ClassId) × (Nat → Nat → Nat) × (Nat → ClassId) × Nat
abbrev Zt : Type := (Nat → Nat) × (Nat → Nat) × (Nat → Nat → Value) × (Nat → Nat → Int32) × (Nat → Nat → Int64) × (Nat → Nat → Option Nat) × Nat
def zK (Z : Zt) : Nat → Nat := Z.1
def zL (Z : Zt) : Nat → Nat := Z.2.1
def zF (Z : Zt) : Nat → Nat → Value := Z.2.2.1
def zI (Z : Zt) : Nat → Nat → Int32 := Z.2.2.2.1
def zJ (Z : Zt) : Nat → Nat → Int64 := Z.2.2.2.2.1
def zR (Z : Zt) : Nat → Nat → Option Nat := Z.2.2.2.2.2.1
def zN (Z : Zt) : Nat := Z.2.2.2.2.2.2
def sF (Z : Zt) (k a : Nat) (v : Value) : Zt := (zK Z, zL Z, fun k' a' => if k' = k ∧ a' = a then v else zF Z k' a', zI Z, zJ Z, zR Z, zN Z)
def sI (Z : Zt) (a i : Nat) (v : Int32) : Zt := (zK Z, zL Z, zF Z, fun a' => if a' = a then upd (zI Z a) i v else zI Z a', zJ Z, zR Z, zN Z)
def sJ (Z : Zt) (a i : Nat) (v : Int64) : Zt := (zK Z, zL Z, zF Z, zI Z, fun a' => if a' = a then vp_updL (zJ Z a) i v else zJ Z a', zR Z, zN Z)
def sR (Z : Zt) (a i : Nat) (v : Option Nat) : Zt := (zK Z, zL Z, zF Z, zI Z, zJ Z, fun a' => if a' = a then va_up (zR Z a) i v else zR Z a', zN Z)
def nO (Z : Zt) (kd : Nat) (dv : Nat → Value) : Zt := (va_up (zK Z) (zN Z) kd, zL Z, fun k a => if a = zN Z then dv k else zF Z k a, zI Z, zJ Z, zR Z, zN Z + 1)
def nA (Z : Zt) (kd n : Nat) : Zt := (va_up (zK Z) (zN Z) kd, va_up (zL Z) (zN Z) n, zF Z, va_up (zI Z) (zN Z) (fun _ => 0), va_up (zJ Z) (zN Z) (fun _ => 0), va_up (zR Z) (zN Z) (fun _ => none), zN Z + 1)
/-- a cell that nobody looks at -/
def nW (Z : Zt) (k : Nat) : Zt := (zK Z, zL Z, zF Z, zI Z, zJ Z, zR Z, zN Z + k)
theorem zK_sF (Z : Zt) (k a : Nat) (v : Value) : zK (sF Z k a v) = zK Z := rfl
theorem zL_sF (Z : Zt) (k a : Nat) (v : Value) : zL (sF Z k a v) = zL Z := rfl
theorem zI_sF (Z : Zt) (k a : Nat) (v : Value) : zI (sF Z k a v) = zI Z := rfl
theorem zJ_sF (Z : Zt) (k a : Nat) (v : Value) : zJ (sF Z k a v) = zJ Z := rfl
theorem zR_sF (Z : Zt) (k a : Nat) (v : Value) : zR (sF Z k a v) = zR Z := rfl
theorem zN_sF (Z : Zt) (k a : Nat) (v : Value) : zN (sF Z k a v) = zN Z := rfl
theorem zF_sF (Z : Zt) (k a : Nat) (v : Value) (k' a' : Nat) : zF (sF Z k a v) k' a' = if k' = k ∧ a' = a then v else zF Z k' a' := rfl
theorem zK_sI (Z : Zt) (a i : Nat) (v : Int32) : zK (sI Z a i v) = zK Z := rfl
theorem zL_sI (Z : Zt) (a i : Nat) (v : Int32) : zL (sI Z a i v) = zL Z := rfl
theorem zF_sI (Z : Zt) (a i : Nat) (v : Int32) : zF (sI Z a i v) = zF Z := rfl
theorem zJ_sI (Z : Zt) (a i : Nat) (v : Int32) : zJ (sI Z a i v) = zJ Z := rfl
theorem zR_sI (Z : Zt) (a i : Nat) (v : Int32) : zR (sI Z a i v) = zR Z := rfl
theorem zN_sI (Z : Zt) (a i : Nat) (v : Int32) : zN (sI Z a i v) = zN Z := rfl
theorem zI_sI (Z : Zt) (a i : Nat) (v : Int32) (a' : Nat) : zI (sI Z a i v) a' = if a' = a then upd (zI Z a) i v else zI Z a' := rfl
theorem zK_sJ (Z : Zt) (a i : Nat) (v : Int64) : zK (sJ Z a i v) = zK Z := rfl
theorem zL_sJ (Z : Zt) (a i : Nat) (v : Int64) : zL (sJ Z a i v) = zL Z := rfl
theorem zF_sJ (Z : Zt) (a i : Nat) (v : Int64) : zF (sJ Z a i v) = zF Z := rfl
theorem zI_sJ (Z : Zt) (a i : Nat) (v : Int64) : zI (sJ Z a i v) = zI Z := rfl
theorem zR_sJ (Z : Zt) (a i : Nat) (v : Int64) : zR (sJ Z a i v) = zR Z := rfl
theorem zN_sJ (Z : Zt) (a i : Nat) (v : Int64) : zN (sJ Z a i v) = zN Z := rfl
theorem zJ_sJ (Z : Zt) (a i : Nat) (v : Int64) (a' : Nat) : zJ (sJ Z a i v) a' = if a' = a then vp_updL (zJ Z a) i v else zJ Z a' := rfl
theorem zK_sR (Z : Zt) (a i : Nat) (v : Option Nat) : zK (sR Z a i v) = zK Z := rfl
theorem zL_sR (Z : Zt) (a i : Nat) (v : Option Nat) : zL (sR Z a i v) = zL Z := rfl
theorem zF_sR (Z : Zt) (a i : Nat) (v : Option Nat) : zF (sR Z a i v) = zF Z := rfl
theorem zI_sR (Z : Zt) (a i : Nat) (v : Option Nat) : zI (sR Z a i v) = zI Z := rfl
theorem zJ_sR (Z : Zt) (a i : Nat) (v : Option Nat) : zJ (sR Z a i v) = zJ Z := rfl
theorem zN_sR (Z : Zt) (a i : Nat) (v : Option Nat) : zN (sR Z a i v) = zN Z := rfl
theorem zR_sR (Z : Zt) (a i : Nat) (v : Option Nat) (a' : Nat) : zR (sR Z a i v) a' = if a' = a then va_up (zR Z a) i v else zR Z a' := rfl
def tyTab : Nat → Nat → FieldType := fun c => match c with
  | 0 => tyX0
  | 1 => tyX1
  | 2 => tyX3
  | 3 => tyX4
  | 4 => tyX5
  | 5 => tyX6
  | 6 => tyX7
  | 7 => tyX8
  | 8 => tyX9
  | 9 => tyX10
  | 10 => tyX11
  | _ => tyX12
def aTy : Nat → FieldType := fun k => match k with
  | 0 => .int
  | 1 => .long
  | 2 => .boolean
  | 3 => .object RX0
  | 4 => .object RX2
  | 5 => .object RX6
  | _ => .object RX8
def TYs (G : Gt) : List (ClassId × FieldType) := (List.range 7).map (fun k => (G.2.2.1 k, aTy k))
/-- the heap H holds Z: every cell of a known kind as Z says -/
def Rep (G : Gt) (Z : Zt) (H : Heap) : Prop :=
  H.size = zN Z ∧ (∀ a, zK Z a ≠ 0 → G.2.2.2 ≤ a ∧ a < zN Z) ∧
  (∀ (a c : Nat) (q : vw_C), zK Z a = c + 1 → vwCl[c]? = some q → t_OB a (G.1 c) q.2.2 (G.2.1 c) H (fun k => zF Z k a)) ∧
  (∀ a, zK Z a = 20 → H[a]? = some (vp_cell (G.2.2.1 0) (zL Z a, .inl (zI Z a)))) ∧
  (∀ a, zK Z a = 21 → H[a]? = some (vp_cell (G.2.2.1 1) (zL Z a, .inr (.inl (zJ Z a))))) ∧
  (∀ a, zK Z a = 22 → H[a]? = some (vp_cell (G.2.2.1 2) (zL Z a, .inl (zI Z a)))) ∧
  (∀ a r, zK Z a = 23 + r → r < 4 → H[a]? = some (vp_cell (G.2.2.1 (3 + r)) (zL Z a, .inr (.inr (.inr (.inr (zR Z a)))))))
theorem vwCl_lt {c : Nat} {q : vw_C} (h : vwCl[c]? = some q) : c < 12 := (List.getElem?_eq_some_iff.mp h).1
theorem Rep_sF {G : Gt} {Z : Zt} {H H1 : Heap} (h : Rep G Z H) {a c k : Nat} {q : vw_C} {v : Value} (hk : zK Z a = c + 1) (hq : vwCl[c]? = some q) (hz : H1.size = H.size) (oq : ∀ x : Nat, x ≠ a → H1[x]? = H[x]?)
    (hob : t_OB a (G.1 c) q.2.2 (G.2.1 c) H1 (updV (fun j => zF Z j a) k v)) : Rep G (sF Z k a v) H1 := by
  obtain ⟨h1, h2, h3, h4, h5, h6, h7⟩ := h
  have hc := vwCl_lt hq
  refine ⟨by rw [hz]; exact h1, h2, fun b d r hb hr => ?_, fun b hb => ?_, fun b hb => ?_, fun b hb => ?_, fun b r hb hr => ?_⟩
  · by_cases e : b = a
    · subst e
      have hdc : d = c := by have := hk.symm.trans hb; omega
      subst hdc
      cases hq.symm.trans hr
      refine hob.to (fun j _ => ?_)
      simp only [updV, zF_sF, and_true]
    · refine ((h3 b d r hb hr).kept (oq b e)).to (fun j _ => ?_)
      simp only [zF_sF, e, and_false, if_false]
  · rw [oq b (fun e => by subst e; have := hk.symm.trans hb; omega)]; exact h4 b hb
  · rw [oq b (fun e => by subst e; have := hk.symm.trans hb; omega)]; exact h5 b hb
  · rw [oq b (fun e => by subst e; have := hk.symm.trans hb; omega)]; exact h6 b hb
  · rw [oq b (fun e => by subst e; have := hk.symm.trans hb; omega)]; exact h7 b r hb hr
theorem Rep_sI {G : Gt} {Z : Zt} {H H1 : Heap} (h : Rep G Z H) {a i w : Nat} {v : Int32} (hk : zK Z a = 20 + w) (hw : w = 0 ∨ w = 2) (hz : H1.size = H.size) (oq : ∀ x : Nat, x ≠ a → H1[x]? = H[x]?)
    (hob : H1[a]? = some (vp_cell (G.2.2.1 w) (zL Z a, .inl (upd (zI Z a) i v)))) : Rep G (sI Z a i v) H1 := by
  obtain ⟨h1, h2, h3, h4, h5, h6, h7⟩ := h
  refine ⟨by rw [hz]; exact h1, h2, fun b d r hb hr => ?_, fun b hb => ?_, fun b hb => ?_, fun b hb => ?_, fun b r hb hr => ?_⟩
  · have hc := vwCl_lt hr
    exact (h3 b d r hb hr).kept (oq b (fun e => by subst e; have := hk.symm.trans hb; omega))
  · by_cases e : b = a
    · subst e
      have : w = 0 := by have := hk.symm.trans hb; omega
      subst this
      simp only [zI_sI, if_true, zL_sI]; exact hob
    · rw [oq b e]; simp only [zI_sI, e, if_false, zL_sI]; exact h4 b hb
  · rw [oq b (fun e => by subst e; have := hk.symm.trans hb; omega)]; exact h5 b hb
  · by_cases e : b = a
    · subst e
      have : w = 2 := by have := hk.symm.trans hb; omega
      subst this
      simp only [zI_sI, if_true, zL_sI]; exact hob
    · rw [oq b e]; simp only [zI_sI, e, if_false, zL_sI]; exact h6 b hb
  · rw [oq b (fun e => by subst e; have := hk.symm.trans hb; omega)]; exact h7 b r hb hr
theorem Rep_sJ {G : Gt} {Z : Zt} {H H1 : Heap} (h : Rep G Z H) {a i : Nat} {v : Int64} (hk : zK Z a = 21) (hz : H1.size = H.size) (oq : ∀ x : Nat, x ≠ a → H1[x]? = H[x]?)
    (hob : H1[a]? = some (vp_cell (G.2.2.1 1) (zL Z a, .inr (.inl (vp_updL (zJ Z a) i v))))) : Rep G (sJ Z a i v) H1 := by
  obtain ⟨h1, h2, h3, h4, h5, h6, h7⟩ := h
  refine ⟨by rw [hz]; exact h1, h2, fun b d r hb hr => ?_, fun b hb => ?_, fun b hb => ?_, fun b hb => ?_, fun b r hb hr => ?_⟩
  · have hc := vwCl_lt hr
    exact (h3 b d r hb hr).kept (oq b (fun e => by subst e; have := hk.symm.trans hb; omega))
  · rw [oq b (fun e => by subst e; have := hk.symm.trans hb; omega)]; exact h4 b hb
  · by_cases e : b = a
    · subst e
      simp only [zJ_sJ, if_true, zL_sJ]; exact hob
    · rw [oq b e]; simp only [zJ_sJ, e, if_false, zL_sJ]; exact h5 b hb
  · rw [oq b (fun e => by subst e; have := hk.symm.trans hb; omega)]; exact h6 b hb
  · rw [oq b (fun e => by subst e; have := hk.symm.trans hb; omega)]; exact h7 b r hb hr
theorem Rep_sR {G : Gt} {Z : Zt} {H H1 : Heap} (h : Rep G Z H) {a i w : Nat} {v : Option Nat} (hk : zK Z a = 23 + w) (hw : w < 4) (hz : H1.size = H.size) (oq : ∀ x : Nat, x ≠ a → H1[x]? = H[x]?)
    (hob : H1[a]? = some (vp_cell (G.2.2.1 (3 + w)) (zL Z a, .inr (.inr (.inr (.inr (va_up (zR Z a) i v))))))) : Rep G (sR Z a i v) H1 := by
  obtain ⟨h1, h2, h3, h4, h5, h6, h7⟩ := h
  refine ⟨by rw [hz]; exact h1, h2, fun b d r hb hr => ?_, fun b hb => ?_, fun b hb => ?_, fun b hb => ?_, fun b r hb hr => ?_⟩
  · have hc := vwCl_lt hr
    exact (h3 b d r hb hr).kept (oq b (fun e => by subst e; have := hk.symm.trans hb; omega))
  · rw [oq b (fun e => by subst e; have := hk.symm.trans hb; omega)]; exact h4 b hb
  · rw [oq b (fun e => by subst e; have := hk.symm.trans hb; omega)]; exact h5 b hb
  · rw [oq b (fun e => by subst e; have := hk.symm.trans hb; omega)]; exact h6 b hb
  · by_cases e : b = a
    · subst e
      have : r = w := by have := hk.symm.trans hb; omega
      subst this
      simp only [zR_sR, if_true, zL_sR]; exact hob
    · rw [oq b e]; simp only [zR_sR, e, if_false, zL_sR]; exact h7 b r hb hr
theorem Rep_free {G : Gt} {Z : Zt} {H : Heap} (h : Rep G Z H) {a : Nat} (ha : zN Z ≤ a) : zK Z a = 0 := Decidable.byContradiction fun e => absurd (h.2.1 a e).2 (by omega)
theorem Rep_nO {G : Gt} {Z : Zt} {H H1 : Heap} (h : Rep G Z H) {c : Nat} {q : vw_C} {dv : Nat → Value} (hB : G.2.2.2 ≤ zN Z) (hq : vwCl[c]? = some q) (hz : H1.size = zN Z + 1) (oq : ∀ x : Nat, x < zN Z → H1[x]? = H[x]?)
    (hob : t_OB (zN Z) (G.1 c) q.2.2 (G.2.1 c) H1 dv) : Rep G (nO Z (c + 1) dv) H1 := by
  obtain ⟨h1, h2, h3, h4, h5, h6, h7⟩ := id h
  have hc := vwCl_lt hq
  have kk : ∀ b, zK (nO Z (c + 1) dv) b = if b = zN Z then c + 1 else zK Z b := fun b => rfl
  have lt : ∀ b, b ≠ zN Z → zK (nO Z (c + 1) dv) b ≠ 0 → b < zN Z := fun b e hb => by rw [kk, if_neg e] at hb; exact (h2 b hb).2
  refine ⟨hz, fun b hb => ?_, fun b d r hb hr => ?_, fun b hb => ?_, fun b hb => ?_, fun b hb => ?_, fun b r hb hr => ?_⟩
  · by_cases e : b = zN Z
    · subst e; exact ⟨hB, Nat.lt_succ_self _⟩
    · rw [kk, if_neg e] at hb; exact ⟨(h2 b hb).1, Nat.lt_succ_of_lt (h2 b hb).2⟩
  · by_cases e : b = zN Z
    · subst e
      rw [kk, if_pos rfl] at hb
      have : d = c := by omega
      subst this
      cases hq.symm.trans hr
      exact hob.to (fun j _ => by show dv j = if zN Z = zN Z then dv j else _; rw [if_pos rfl])
    · have hl := lt b e (by rw [hb]; omega)
      rw [kk, if_neg e] at hb
      exact ((h3 b d r hb hr).kept (oq b hl)).to (fun j _ => by show _ = if b = zN Z then dv j else zF Z j b; rw [if_neg e])
  all_goals
    have e : b ≠ zN Z := fun e => by subst e; rw [kk, if_pos rfl] at hb; omega
    have hl := lt b e (by rw [hb]; omega)
    rw [kk, if_neg e] at hb
    rw [oq b hl]
  · exact h4 b hb
  · exact h5 b hb
  · exact h6 b hb
  · exact h7 b r hb hr
theorem Rep_nA {G : Gt} {Z : Zt} {H H1 : Heap} (h : Rep G Z H) {w n : Nat} (hB : G.2.2.2 ≤ zN Z) (hw : w < 7) (hz : H1.size = zN Z + 1) (oq : ∀ x : Nat, x < zN Z → H1[x]? = H[x]?)
    (hob : H1[zN Z]? = some (arrV (G.2.2.1 w) n (fun _ => defaultValue (aTy w)))) : Rep G (nA Z (20 + w) n) H1 := by
  obtain ⟨h1, h2, h3, h4, h5, h6, h7⟩ := id h
  have kk : ∀ b, zK (nA Z (20 + w) n) b = if b = zN Z then 20 + w else zK Z b := fun b => rfl
  have lt : ∀ b, b ≠ zN Z → zK (nA Z (20 + w) n) b ≠ 0 → b < zN Z := fun b e hb => by rw [kk, if_neg e] at hb; exact (h2 b hb).2
  have fz : ∀ b, zF (nA Z (20 + w) n) b = zF Z b := fun _ => rfl
  have lz : ∀ b, zL (nA Z (20 + w) n) b = if b = zN Z then n else zL Z b := fun _ => rfl
  have iz : ∀ b, zI (nA Z (20 + w) n) b = if b = zN Z then (fun _ => 0) else zI Z b := fun _ => rfl
  have jz : ∀ b, zJ (nA Z (20 + w) n) b = if b = zN Z then (fun _ => 0) else zJ Z b := fun _ => rfl
  have rz : ∀ b, zR (nA Z (20 + w) n) b = if b = zN Z then (fun _ => none) else zR Z b := fun _ => rfl
  refine ⟨hz, fun b hb => ?_, fun b d r hb hr => ?_, fun b hb => ?_, fun b hb => ?_, fun b hb => ?_, fun b r hb hr => ?_⟩
  · by_cases e : b = zN Z
    · subst e; exact ⟨hB, Nat.lt_succ_self _⟩
    · rw [kk, if_neg e] at hb; exact ⟨(h2 b hb).1, Nat.lt_succ_of_lt (h2 b hb).2⟩
  · have hc := vwCl_lt hr
    have e : b ≠ zN Z := fun e => by subst e; rw [kk, if_pos rfl] at hb; omega
    have hl := lt b e (by rw [hb]; omega)
    rw [kk, if_neg e] at hb
    exact (h3 b d r hb hr).kept (oq b hl)
  · by_cases e : b = zN Z
    · subst e
      rw [kk, if_pos rfl] at hb
      have : w = 0 := by omega
      subst this
      rw [hob, lz, iz, if_pos rfl, if_pos rfl]; rfl
    · have hl := lt b e (by rw [hb]; omega)
      rw [kk, if_neg e] at hb
      rw [oq b hl, lz, iz, if_neg e, if_neg e]; exact h4 b hb
  · by_cases e : b = zN Z
    · subst e
      rw [kk, if_pos rfl] at hb
      have : w = 1 := by omega
      subst this
      rw [hob, lz, jz, if_pos rfl, if_pos rfl]; rfl
    · have hl := lt b e (by rw [hb]; omega)
      rw [kk, if_neg e] at hb
      rw [oq b hl, lz, jz, if_neg e, if_neg e]; exact h5 b hb
  · by_cases e : b = zN Z
    · subst e
      rw [kk, if_pos rfl] at hb
      have : w = 2 := by omega
      subst this
      rw [hob, lz, iz, if_pos rfl, if_pos rfl]; rfl
    · have hl := lt b e (by rw [hb]; omega)
      rw [kk, if_neg e] at hb
      rw [oq b hl, lz, iz, if_neg e, if_neg e]; exact h6 b hb
  · by_cases e : b = zN Z
    · subst e
      rw [kk, if_pos rfl] at hb
      have : w = 3 + r := by omega
      subst this
      rw [hob, lz, rz, if_pos rfl, if_pos rfl, vp_cell_q]
      rcases (show r = 0 ∨ r = 1 ∨ r = 2 ∨ r = 3 by omega) with rfl | rfl | rfl | rfl <;> rfl
    · have hl := lt b e (by rw [hb]; omega)
      rw [kk, if_neg e] at hb
      rw [oq b hl, lz, rz, if_neg e, if_neg e]; exact h7 b r hb hr
/-! what every method knows of the tables: the classes, the array classes, the words that premises carry -/
def nwl : List Cond := [.methodLinkNest RX11 35 yX10_init RX11, .methodLinkNest RX11 42 yX5_init RX11, .methodLinkNest RX11 51 yX6_init RX11, .methodLinkNest RX8 134 yX11_gap RX11, .methodLinkNest RX8 138 yX11_unsignedBelow RX11, .methodLinkNest RX8 155 yX11_find RX11, .methodLinkNest RX5 23 yX11_find RX11, .methodLinkNest RX9 25 yX11_gap RX11, .methodLinkNest RX9 31 yX11_unsignedRest RX11, .methodLinkNest RX9 34 yX11_unsignedQuotient RX11]
def Kn (G : Gt) (U : State) : Prop := va_K (G.1, G.2.1) vwCl (TYs G) U ∧ (∀ w ∈ nwl, va_Nw w U) ∧ va_Nw (.declares ⟨RX2, "judge", "(JLCandidateRanges$Tally;)I"⟩) U ∧ (∀ C ∈ [RX1, RX3, RX4, RX7], va_Nw (.castable C RX2) U) ∧ (∀ C ∈ [RX0, RX2, RX6, RX8], va_AO C U)
theorem nwl_warm {s U : State} (hW : s.WarmedH U.vm) : ∀ w ∈ nwl, va_Nw w s → va_Nw w U := by
  intro w hw h
  simp only [nwl, List.mem_cons, List.not_mem_nil, or_false] at hw
  rcases hw with rfl | rfl | rfl | rfl | rfl | rfl | rfl | rfl | rfl | rfl <;> exact va_Nw.warmM hW h
theorem Kn.moved {G : Gt} {s U : State} (hW : s.WarmedH U.vm) (h : Kn G s) : Kn G U :=
  ⟨va_K.moved hW.alike h.1, fun w hw => nwl_warm hW w hw (h.2.1 w hw), va_Nw.warmD hW h.2.2.1, fun C hC => va_Nw.warmC hW (h.2.2.2.1 C hC), fun C hC => va_AO.moved hW.alike (h.2.2.2.2 C hC)⟩
theorem Kn.same {G : Gt} {s U : State} (hv : s.vm = U.vm) (h : Kn G s) : Kn G U := by
  have hal : s.vm.Alike U.vm := by rw [hv]; exact Vm.Alike.refl _
  refine ⟨va_K.moved hal h.1, fun w hw => va_Nw.same ?_ hv (h.2.1 w hw), va_Nw.same rfl hv h.2.2.1, fun C hC => va_Nw.same rfl hv (h.2.2.2.1 C hC), fun C hC => va_AO.moved hal (h.2.2.2.2 C hC)⟩
  simp only [nwl, List.mem_cons, List.not_mem_nil, or_false] at hw
  rcases hw with rfl | rfl | rfl | rfl | rfl | rfl | rfl | rfl | rfl | rfl <;> rfl
abbrev Yt : Type := MethodName × ByteArray × Nat × Option FieldType
abbrev Mt : Type := Program × Env × Room × State × MethodId × Array Value × List Frame × Method × Code
abbrev Bt : Type := Nat × Nat × Nat
def rmB (B : Bt) : Room := { frames := B.1, cells := B.2.1, slots := B.2.2, locals := 64 * B.1 }
def wsY (Y : Yt) : List Cond := Cond.code Y.1 Y.2.1 Y.2.2.1 Y.2.2.2 :: WS
/-- the locals that are known, by their places -/
def aL : Nat → List (Option Value) → List (Nat × Value)
  | _, [] => []
  | i, none :: l => aL (i + 1) l
  | i, some v :: l => (i, v) :: aL (i + 1) l
theorem aL_mem {l : List (Option Value)} : ∀ (i : Nat) (q : Nat × Value), q ∈ aL i l ↔ i ≤ q.1 ∧ l[q.1 - i]? = some (some q.2) := by
  induction l with
  | nil => intro i q; simp [aL]
  | cons x l ih =>
    intro i q
    have step : (i + 1 ≤ q.1 ∧ l[q.1 - (i + 1)]? = some (some q.2)) ↔ (i < q.1 ∧ (x :: l)[q.1 - i]? = some (some q.2)) := by
      constructor
      · rintro ⟨h1, h2⟩
        refine ⟨h1, ?_⟩
        rw [show q.1 - i = (q.1 - (i + 1)) + 1 by omega, List.getElem?_cons_succ]; exact h2
      · rintro ⟨h1, h2⟩
        refine ⟨h1, ?_⟩
        rw [show q.1 - i = (q.1 - (i + 1)) + 1 by omega, List.getElem?_cons_succ] at h2; exact h2
    cases x with
    | none =>
      rw [aL, ih (i + 1) q, step]
      constructor
      · rintro ⟨h1, h2⟩; exact ⟨Nat.le_of_lt h1, h2⟩
      · rintro ⟨h1, h2⟩
        refine ⟨?_, h2⟩
        rcases Nat.lt_or_ge i q.1 with h | h
        · exact h
        · have : q.1 - i = 0 := by omega
          rw [this] at h2; simp at h2
    | some v =>
      rw [aL, List.mem_cons, ih (i + 1) q, step]
      constructor
      · rintro (h | ⟨h1, h2⟩)
        · subst h; simp
        · exact ⟨Nat.le_of_lt h1, h2⟩
      · rintro ⟨h1, h2⟩
        rcases Nat.lt_or_ge i q.1 with h | h
        · exact Or.inr ⟨h, h2⟩
        · have e : q.1 = i := by omega
          have : q.1 - i = 0 := by omega
          rw [this] at h2
          simp at h2
          exact Or.inl (by obtain ⟨a, b⟩ := q; simp only at e h2; rw [e, h2])
theorem aL_get {A : Array Slot} {nL : Nat} {ls : List (Option Value)} (h : lv_has A nL (aL 0 ls)) {k : Nat} {v : Value} (hk : ls[k]? = some (some v)) : A[k]? = some (.val v) :=
  h.2.2 (k, v) ((aL_mem 0 (k, v)).mpr ⟨Nat.zero_le _, hk⟩)
theorem lv_le {A : Array Slot} {nL : Nat} {l l' : List (Nat × Value)} (h : lv_has A nL l) (hl : ∀ q ∈ l', q ∈ l) : lv_has A nL l' := ⟨h.1, h.2.1, fun q hq => h.2.2 q (hl q hq)⟩
/-- the place before i holds no long -/
def okP (ls : List (Option Value)) (i : Nat) : Bool := match i with
  | 0 => true
  | j + 1 => match ls[j]? with
    | some (some (.long _)) => false
    | some (some (.double _)) => false
    | _ => true
theorem okP_ne {ls : List (Option Value)} {i j : Nat} {v : Value} (h : okP ls i = true) (hj : j + 1 = i) (hv : ls[j]? = some (some v)) : v.category ≠ 2 := by
  subst hj
  cases v <;> simp_all [okP, Value.category]
theorem aL_set1 {ls : List (Option Value)} {i : Nat} {v : Value} (hi : i < ls.length) (hp : okP ls i = true) : ∀ q ∈ aL 0 (ls.set i (some v)), q ∈ (i, v) :: (aL 0 ls).filter (fun q => !(q.1 == i) && !(q.1 + 1 == i && q.2.category == 2)) := by
  intro q hq
  obtain ⟨-, hq⟩ := (aL_mem 0 q).mp hq
  rw [Nat.sub_zero] at hq
  by_cases e : q.1 = i
  · rw [e, List.getElem?_set_self hi] at hq
    have : v = q.2 := by simpa using hq
    exact List.mem_cons.mpr (Or.inl (by obtain ⟨a, b⟩ := q; simp only at e this; rw [e, this]))
  · rw [List.getElem?_set_ne (Ne.symm e)] at hq
    refine List.mem_cons.mpr (Or.inr (List.mem_filter.mpr ⟨(aL_mem 0 q).mpr ⟨Nat.zero_le _, by rw [Nat.sub_zero]; exact hq⟩, ?_⟩))
    simp only [Bool.and_eq_true, Bool.not_eq_true', beq_eq_false_iff_ne, ne_eq, e, not_false_eq_true, true_and, Bool.and_eq_false_iff]
    by_cases e2 : q.1 + 1 = i
    · exact Or.inr (okP_ne hp e2 hq)
    · exact Or.inl e2
theorem aL_set2 {ls : List (Option Value)} {i : Nat} {v : Value} (hi : i < ls.length) (hp : okP ls i = true) : ∀ q ∈ aL 0 ((ls.set i (some v)).set (i + 1) none), q ∈ (i, v) :: (aL 0 ls).filter (fun q => !(q.1 == i) && (!(q.1 == i + 1) && !(q.1 + 1 == i && q.2.category == 2))) := by
  intro q hq
  obtain ⟨-, hq⟩ := (aL_mem 0 q).mp hq
  rw [Nat.sub_zero] at hq
  by_cases e1 : q.1 = i + 1
  · rw [e1] at hq
    by_cases hl : i + 1 < (ls.set i (some v)).length
    · rw [List.getElem?_set_self hl] at hq; simp at hq
    · rw [List.getElem?_eq_none (by simp at hl ⊢; omega)] at hq; cases hq
  · rw [List.getElem?_set_ne (Ne.symm e1)] at hq
    by_cases e : q.1 = i
    · rw [e, List.getElem?_set_self hi] at hq
      have : v = q.2 := by simpa using hq
      exact List.mem_cons.mpr (Or.inl (by obtain ⟨a, b⟩ := q; simp only at e this; rw [e, this]))
    · rw [List.getElem?_set_ne (Ne.symm e)] at hq
      refine List.mem_cons.mpr (Or.inr (List.mem_filter.mpr ⟨(aL_mem 0 q).mpr ⟨Nat.zero_le _, by rw [Nat.sub_zero]; exact hq⟩, ?_⟩))
      simp only [Bool.and_eq_true, Bool.not_eq_true', beq_eq_false_iff_ne, ne_eq, e, e1, not_false_eq_true, true_and, Bool.and_eq_false_iff]
      by_cases e2 : q.1 + 1 = i
      · exact Or.inr (okP_ne hp e2 hq)
      · exact Or.inl e2
/-- what a body knows -/
def Cx (G : Gt) (Y : Yt) (B : Bt) (M : Mt) : Prop :=
  M.1.tables.exec = Jvm.exec ∧ M.2.2.2.2.2.2.2.2.code = Y.2.1 ∧ M.2.2.2.2.2.2.2.2.maxLocals = Y.2.2.1 ∧ M.2.2.2.2.2.2.2.1.sig.returnType = Y.2.2.2 ∧ M.2.2.2.1.vm.findClass Y.1.cls = some M.2.2.2.2.1.cls ∧
  (∀ w ∈ WS, w.before M.2.2.2.2.2.1 M.2.2.2.1 = true) ∧ M.2.2.2.2.2.2.2.1.locks = false ∧ Kn G M.2.2.2.1 ∧ G.2.2.2 ≤ M.2.2.2.1.heap.size ∧ M.2.2.1 = rmB B ∧ M.2.2.2.2.2.2.2.1.name = Y.1.name
/-- the judgement: the body of Y, over the heap Z, at pc with these locals and this stack, comes to Q -/
def Jd (l : Launch) (G : Gt) (Y : Yt) (B : Bt) (M : Mt) (Z : Zt) (cells slots : Nat) (Q : State → Prop) (pc : Nat) (ls : List (Option Value)) (st : List Value) : Prop :=
  Cx G Y B M → ∀ (H : Heap) (locs : List Loc) (A : Array Slot), Rep G Z H → va_S (fun q => G.2.2.2 ≤ q) M.2.2.2.1.heap H locs → lv_has A Y.2.2.1 (aL 0 ls) →
    W M.1 l M.2.1 M.2.2.1 M.2.2.2.1 M.2.2.2.2.1 M.2.2.2.2.2.1 M.2.2.2.2.2.2.1 M.2.2.2.2.2.2.2.1 M.2.2.2.2.2.2.2.2 H locs cells slots Q (F0 M.2.2.2.2.1 pc A st)
def Qc (G : Gt) (Φ : Option Value → Zt → Prop) : Array Value → State → Outcome → State → Prop := fun _ st o t => ∃ (v : Option Value) (Z : Zt), o = .returned v ∧ Φ v Z ∧ Rep G Z t.heap ∧ va_F (fun q => G.2.2.2 ≤ q) st t
def Qm (G : Gt) (B : Bt) (M : Mt) (Φ : Option Value → Zt → Prop) : State → Prop := MQ M.2.2.2.2.2.2.1 (Qc G Φ) M.2.2.2.2.2.1 M.2.2.2.1 B.2.1 B.2.2 (fun q => G.2.2.2 ≤ q)
/-- a method's contract at one heap and these arguments -/
def Ct (l : Launch) (G : Gt) (Y : Yt) (B : Bt) (Z : Zt) (args : List Value) (Φ : Option Value → Zt → Prop) : Prop :=
  Met l Y.1 (wsY Y) (rmB B) (va_Pc args (fun U => Rep G Z U.heap ∧ Kn G U ∧ G.2.2.2 ≤ U.heap.size)) (Qc G Φ) B.2.1 B.2.2 (fun q => G.2.2.2 ≤ q)
theorem ct_of {l : Launch} {G : Gt} {Y : Yt} {B : Bt} {Z : Zt} {args : List Value} {Φ : Option Value → Zt → Prop} (ls : List (Option Value)) (hy : plainName Y.1.cls = true) (hl : (lg_sl args).length ≤ Y.2.2.1) (he : aL 0 ls = lv_args 0 args)
    (body : ∀ M : Mt, Jd l G Y B M Z 0 0 (Qm G B M Φ) 0 ls []) : Ct l G Y B Z args Φ := by
  refine Met.ofW (cc := Y.2.1) (maxL := Y.2.2.1) (ret := Y.2.2.2) hy rfl ?_
  intro p e s m args' below meth c s₁ Bd hml hv
  obtain ⟨rfl, hR, hK, hB⟩ := hv
  have hts := atoms_spec (ws := wsY Y) Bd.pre
  have hnm : meth.name = Y.1.name := (name_of_methodNamed Bd.named Bd.method).1
  have hl0 := lv_entry args (n := Y.2.2.1) hl
  rw [lg_entry_eq]
  exact body (p, e, rmB B, s, m, args.toArray, below, meth, c) ⟨Bd.exec, Bd.bytes, hml, Bd.returns, findClass_of_methodNamed Bd.named, fun w hw => hts w (List.mem_cons_of_mem _ hw), Bd.notSynchronized, hK, hB, rfl, hnm⟩ s.heap [] _ hR va_S.rf (by rw [he]; exact hl0)
