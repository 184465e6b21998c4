/-! switches: a goal a key, and one for the rest -/
theorem sw_off (x : Int32) (pc : Int) (d : Int) : ∀ kt : List (Int32 × Nat), (∃ q ∈ kt, x = q.1 ∧ Op.lookupswitch.offset (kt.map (fun q => (q.1.toInt, (q.2 : Int) - pc))) d x.toInt = (q.2 : Int) - pc) ∨ ((∀ q ∈ kt, ¬ x = q.1) ∧ Op.lookupswitch.offset (kt.map (fun q => (q.1.toInt, (q.2 : Int) - pc))) d x.toInt = d)
  | [] => Or.inr ⟨fun q h => absurd h List.not_mem_nil, rfl⟩
  | (k, t) :: r => by
    by_cases h : x = k
    · subst h
      refine Or.inl ⟨(x, t), List.mem_cons_self, rfl, ?_⟩
      simp [Op.lookupswitch.offset]
    · have e : Op.lookupswitch.offset (((k, t) :: r).map (fun q => (q.1.toInt, (q.2 : Int) - pc))) d x.toInt = Op.lookupswitch.offset (r.map (fun q => (q.1.toInt, (q.2 : Int) - pc))) d x.toInt := lv_osw h rfl
      rcases sw_off x pc d r with ⟨q, hq, hx, ho⟩ | ⟨hn, ho⟩
      · exact Or.inl ⟨q, List.mem_cons_of_mem _ hq, hx, by rw [e]; exact ho⟩
      · refine Or.inr ⟨fun q hq => ?_, by rw [e]; exact ho⟩
        rcases List.mem_cons.mp hq with rfl | hq
        · exact h
        · exact hn q hq
section QS
variable {l : Launch} {G : Gt} {Y : Yt} {B : Bt} {M : Mt} {Z : Zt} {cells slots : Nat} {Q : State → Prop} {pc : Nat} {ls : List (Option Value)} {st : List Value}
theorem q_lsw {dflt : Int} {ps : Array (Int × Int)} {len : Nat} {x : Int32} (kt : List (Int32 × Nat)) (dt : Nat) (hd : decode Y.2.1 pc = .ok (.lookupswitch dflt ps, len)) (hp : (ps.toList.zip (ps.toList.drop 1)).all (fun (a, next) => a.1 < next.1) = true) (hk : ps.toList = kt.map (fun q => (q.1.toInt, (q.2 : Int) - (pc : Int)))) (hdt : (pc : Int) + dflt = (dt : Int))
    (k1 : ∀ q ∈ kt, x = q.1 → Jd l G Y B M Z cells slots Q q.2 ls st) (k2 : (∀ q ∈ kt, ¬ x = q.1) → Jd l G Y B M Z cells slots Q dt ls st) : Jd l G Y B M Z cells slots Q pc ls (.int x :: st) := by
  rcases sw_off x pc dflt kt with ⟨q, hq, hx, ho⟩ | ⟨hn, ho⟩
  · exact q_lookup (off := (q.2 : Int) - (pc : Int)) q.2 hd hp (by rw [hk]; exact ho) (by omega) (k1 q hq hx)
  · exact q_lookup (off := dflt) dt hd hp (by rw [hk]; exact ho) hdt (k2 hn)
theorem q_tsw {dflt lo hi : Int} {offs : Array Int} {len : Nat} {x : Int32} (kt : List (Int32 × Nat)) (dt : Nat) (hd : decode Y.2.1 pc = .ok (.tableswitch dflt lo hi offs, len)) (hk : offs.toList = kt.map (fun q => (q.2 : Int) - (pc : Int))) (hlo : kt.map (fun q => q.1.toInt) = (List.range kt.length).map (fun (i : Nat) => lo + (i : Int))) (hhi : hi = lo + (kt.length : Int) - 1) (hdt : (pc : Int) + dflt = (dt : Int))
    (k1 : ∀ q ∈ kt, x = q.1 → Jd l G Y B M Z cells slots Q q.2 ls st) (k2 : (∀ q ∈ kt, ¬ x = q.1) → Jd l G Y B M Z cells slots Q dt ls st) : Jd l G Y B M Z cells slots Q pc ls (.int x :: st) := by
  have at1 : ∀ (i : Nat) (q : Int32 × Nat), kt[i]? = some q → q.1.toInt = lo + (i : Int) ∧ i < kt.length := by
    intro i q h
    have hl := (List.getElem?_eq_some_iff.mp h).1
    have h1 : (kt.map (fun q => q.1.toInt))[i]? = some q.1.toInt := by rw [List.getElem?_map, h]; rfl
    rw [hlo, List.getElem?_map, List.getElem?_range hl] at h1
    exact ⟨(Option.some.inj h1).symm, hl⟩
  by_cases h1 : x.toInt < lo ∨ hi < x.toInt
  · refine q_tableOut dt hd h1 hdt (k2 (fun q hq hx => ?_))
    obtain ⟨i, hi0⟩ := List.getElem?_of_mem hq
    obtain ⟨e1, e2⟩ := at1 i q hi0
    rw [hx] at h1
    omega
  · have h2 : ¬ x.toInt < lo := fun h => h1 (Or.inl h)
    have h3 : ¬ hi < x.toInt := fun h => h1 (Or.inr h)
    obtain ⟨j, hj⟩ : ∃ j : Nat, x.toInt - lo = (j : Int) := ⟨(x.toInt - lo).toNat, by omega⟩
    have hjl : j < kt.length := by omega
    have hq : kt[j]? = some kt[j] := List.getElem?_eq_getElem hjl
    obtain ⟨e1, -⟩ := at1 j _ hq
    have hx : x = (kt[j]).1 := Int32.toInt_inj.mp (by omega)
    refine q_tableIn (kt[j]).2 hd h2 h3 (off := ((kt[j]).2 : Int) - (pc : Int)) ?_ (by omega) (k1 _ (List.mem_of_getElem? hq) hx)
    rw [hj, Int.toNat_natCast, ← Array.getElem?_toList, hk, List.getElem?_map, hq]
    rfl
end QS
/-! answers that are true or false; arrays set as a whole -/
def rb (r : Int32) (P : Prop) : Prop := (P → r = 1) ∧ (¬ P → r = 0)
theorem rb_t {r : Int32} {P : Prop} (h : rb r P) (c : ¬ r = 0) : P := Classical.byContradiction fun n => c (h.2 n)
theorem rb_f {r : Int32} {P : Prop} (h : rb r P) (c : r = 0) : ¬ P := fun p => absurd ((h.1 p).symm.trans c) (by decide)
theorem rb_1 {P : Prop} (p : P) : rb 1 P := ⟨fun _ => rfl, fun n => absurd p n⟩
theorem rb_0 {P : Prop} (n : ¬ P) : rb 0 P := ⟨fun p => absurd p n, fun _ => rfl⟩
theorem rb_z {r : Int32} {P : Prop} (h : rb r P) : r = 0 ∨ r = 1 := (Classical.em P).elim (fun p => Or.inr (h.1 p)) (fun n => Or.inl (h.2 n))
def tI (Z : Zt) (a : Nat) (f : Nat → Int32) : Zt := (zK Z, zL Z, zF Z, fun a' => if a' = a then f else zI Z a', zJ Z, zR Z, zN Z)
def tJ (Z : Zt) (a : Nat) (f : Nat → Int64) : Zt := (zK Z, zL Z, zF Z, zI Z, fun a' => if a' = a then f else zJ Z a', zR Z, zN Z)
theorem sI_t (Z : Zt) (a i : Nat) (v : Int32) : sI Z a i v = tI Z a (upd (zI Z a) i v) := rfl
theorem sJ_t (Z : Zt) (a i : Nat) (v : Int64) : sJ Z a i v = tJ Z a (vp_updL (zJ Z a) i v) := rfl
theorem zK_tI (Z : Zt) (a : Nat) (f : Nat → Int32) : zK (tI Z a f) = zK Z := rfl
theorem zL_tI (Z : Zt) (a : Nat) (f : Nat → Int32) : zL (tI Z a f) = zL Z := rfl
theorem zF_tI (Z : Zt) (a : Nat) (f : Nat → Int32) : zF (tI Z a f) = zF Z := rfl
theorem zJ_tI (Z : Zt) (a : Nat) (f : Nat → Int32) : zJ (tI Z a f) = zJ Z := rfl
theorem zR_tI (Z : Zt) (a : Nat) (f : Nat → Int32) : zR (tI Z a f) = zR Z := rfl
theorem zN_tI (Z : Zt) (a : Nat) (f : Nat → Int32) : zN (tI Z a f) = zN Z := rfl
theorem zI_tI (Z : Zt) (a : Nat) (f : Nat → Int32) (b : Nat) : zI (tI Z a f) b = if b = a then f else zI Z b := rfl
theorem zK_tJ (Z : Zt) (a : Nat) (f : Nat → Int64) : zK (tJ Z a f) = zK Z := rfl
theorem zL_tJ (Z : Zt) (a : Nat) (f : Nat → Int64) : zL (tJ Z a f) = zL Z := rfl
theorem zF_tJ (Z : Zt) (a : Nat) (f : Nat → Int64) : zF (tJ Z a f) = zF Z := rfl
theorem zI_tJ (Z : Zt) (a : Nat) (f : Nat → Int64) : zI (tJ Z a f) = zI Z := rfl
theorem zR_tJ (Z : Zt) (a : Nat) (f : Nat → Int64) : zR (tJ Z a f) = zR Z := rfl
theorem zN_tJ (Z : Zt) (a : Nat) (f : Nat → Int64) : zN (tJ Z a f) = zN Z := rfl
theorem zJ_tJ (Z : Zt) (a : Nat) (f : Nat → Int64) (b : Nat) : zJ (tJ Z a f) b = if b = a then f else zJ Z b := rfl
theorem tJ_tJ (Z : Zt) (a : Nat) (f g : Nat → Int64) : tJ (tJ Z a f) a g = tJ Z a g := by
  have e : (fun a' => if a' = a then g else zJ (tJ Z a f) a') = (fun a' => if a' = a then g else zJ Z a') := by
    funext b
    by_cases h : b = a
    · simp [h]
    · simp [h, zJ_tJ]
  show (zK Z, zL Z, zF Z, zI Z, (fun a' => if a' = a then g else zJ (tJ Z a f) a'), zR Z, zN Z) = _
  rw [e]
  rfl
theorem tJ_id (Z : Zt) (a : Nat) : tJ Z a (zJ Z a) = Z := by
  unfold tJ
  have : (fun a' => if a' = a then zJ Z a else zJ Z a') = zJ Z := by
    funext b
    by_cases h : b = a
    · subst h; simp
    · simp [h]
  rw [this]
  rfl
theorem tI_tI (Z : Zt) (a : Nat) (f g : Nat → Int32) : tI (tI Z a f) a g = tI Z a g := by
  have e : (fun a' => if a' = a then g else zI (tI Z a f) a') = (fun a' => if a' = a then g else zI Z a') := by
    funext b
    by_cases h : b = a
    · simp [h]
    · simp [h, zI_tI]
  show (zK Z, zL Z, zF Z, (fun a' => if a' = a then g else zI (tI Z a f) a'), zJ Z, zR Z, zN Z) = _
  rw [e]
  rfl
theorem tI_id (Z : Zt) (a : Nat) : tI Z a (zI Z a) = Z := by
  unfold tI
  have : (fun a' => if a' = a then zI Z a else zI Z a') = zI Z := by
    funext b
    by_cases h : b = a
    · subst h; simp
    · simp [h]
  rw [this]
  rfl
