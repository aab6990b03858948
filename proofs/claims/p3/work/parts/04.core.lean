/-! THE ABSTRACT MACHINE, part 1: all cells that the law has made, as ONE heap of numbered cells: next number, shapes (kind, length), ints, references, longs, cells made, slots made.
Kinds: below 100 an object of that class of vwCl; 100 int[], 101 boolean[], 102 long[], 103 + k an array of class k's objects. Numbers from 1000000 on are arrays that were there before (the script, tables). -/
abbrev am_H : Type := Nat × (Nat → Nat × Nat) × (Nat → Nat → Int32) × (Nat → Nat → Option Nat) × (Nat → Nat → Int64) × Nat × Nat
def am_nx (H : am_H) : Nat := H.1
def am_sh (H : am_H) : Nat → Nat × Nat := H.2.1
def am_gi (H : am_H) : Nat → Nat → Int32 := H.2.2.1
def am_gr (H : am_H) : Nat → Nat → Option Nat := H.2.2.2.1
def am_gl (H : am_H) : Nat → Nat → Int64 := H.2.2.2.2.1
def am_nc (H : am_H) : Nat := H.2.2.2.2.2.1
def am_nz (H : am_H) : Nat := H.2.2.2.2.2.2
def am_u2 {α : Type} (f : Nat → Nat → α) (a k : Nat) (v : α) : Nat → Nat → α := fun x y => if x = a ∧ y = k then v else f x y
def am_si (H : am_H) (a k : Nat) (v : Int32) : am_H := (am_nx H, am_sh H, am_u2 (am_gi H) a k v, am_gr H, am_gl H, am_nc H, am_nz H)
def am_sr (H : am_H) (a k : Nat) (v : Option Nat) : am_H := (am_nx H, am_sh H, am_gi H, am_u2 (am_gr H) a k v, am_gl H, am_nc H, am_nz H)
def am_sl (H : am_H) (a k : Nat) (v : Int64) : am_H := (am_nx H, am_sh H, am_gi H, am_gr H, am_u2 (am_gl H) a k v, am_nc H, am_nz H)
/-- a row of ints anew -/
def am_sf (H : am_H) (a : Nat) (f : Nat → Int32) : am_H := (am_nx H, am_sh H, (fun x y => if x = a then f y else am_gi H x y), am_gr H, am_gl H, am_nc H, am_nz H)
/-- a new cell of kind k with n slots -/
def am_nw (H : am_H) (k n : Nat) : am_H := (am_nx H + 1, va_up (am_sh H) (am_nx H) (k, n), (fun x y => if x = am_nx H then 0 else am_gi H x y), (fun x y => if x = am_nx H then none else am_gr H x y), (fun x y => if x = am_nx H then 0 else am_gl H x y), am_nc H + 1, am_nz H + n)
/-- cells that are made and forgotten (an exception) -/
def am_ga (H : am_H) (k n : Nat) : am_H := (am_nx H, am_sh H, am_gi H, am_gr H, am_gl H, am_nc H + k, am_nz H + n)
theorem am_u2_self {α : Type} (f : Nat → Nat → α) (a k : Nat) (v : α) : am_u2 f a k v a k = v := by simp [am_u2]
theorem am_u2_ne {α : Type} (f : Nat → Nat → α) {a k x y : Nat} (v : α) (h : ¬ (x = a ∧ y = k)) : am_u2 f a k v x y = f x y := by simp only [am_u2, if_neg h]
-- values
def am_cv (ρ : Nat → Nat) (v : Value) : Value := match v with
  | .ref b => .ref (ρ b)
  | .int x => .int x
  | .long x => .long x
  | .float x => .float x
  | .double x => .double x
  | .null => .null
  | .retAddr x => .retAddr x
theorem am_cv_cat (ρ : Nat → Nat) (v : Value) : (am_cv ρ v).category = v.category := by cases v <;> rfl
theorem am_cv_rf (ρ : Nat → Nat) (r : Option Nat) : am_cv ρ (va_rf r) = va_rf (r.map ρ) := by cases r <;> rfl
def am_ok (n : Nat) (v : Value) : Prop := match v with
  | .ref b => b < n ∨ 1000000 ≤ b
  | _ => True
def am_cl (ρ : Nat → Nat) (lv : List (Nat × Value)) : List (Nat × Value) := lv.map (fun q => (q.1, am_cv ρ q.2))
def am_ext (n : Nat) (ρ ρ' : Nat → Nat) : Prop := ∀ b, (b < n ∨ 1000000 ≤ b) → ρ' b = ρ b
theorem am_ext.rf {n : Nat} {ρ : Nat → Nat} : am_ext n ρ ρ := fun _ _ => rfl
theorem am_ext.trans {n k : Nat} {ρ ρ1 ρ2 : Nat → Nat} (h1 : am_ext n ρ ρ1) (h2 : am_ext k ρ1 ρ2) (hn : n ≤ k) : am_ext n ρ ρ2 := fun b hb => (h2 b (by omega)).trans (h1 b hb)
theorem am_cv_ext {n : Nat} {ρ ρ' : Nat → Nat} (h : am_ext n ρ ρ') {v : Value} (hv : am_ok n v) : am_cv ρ' v = am_cv ρ v := by
  cases v with
  | ref b => show Value.ref (ρ' b) = Value.ref (ρ b); rw [h b hv]
  | _ => rfl
theorem am_cvs_ext {n : Nat} {ρ ρ' : Nat → Nat} (h : am_ext n ρ ρ') {st : List Value} (hv : ∀ v ∈ st, am_ok n v) : st.map (am_cv ρ') = st.map (am_cv ρ) := List.map_congr_left fun v m => am_cv_ext h (hv v m)
theorem am_cl_ext {n : Nat} {ρ ρ' : Nat → Nat} (h : am_ext n ρ ρ') {lv : List (Nat × Value)} (hv : ∀ q ∈ lv, am_ok n q.2) : am_cl ρ' lv = am_cl ρ lv := List.map_congr_left fun q m => by rw [am_cv_ext h (hv q m)]
-- cells
def am_fs (ρ : Nat → Nat) (H : am_H) (a k n : Nat) : List Value := (List.range n).map (fun i => if am_isr k i = true then va_rf ((am_gr H a i).map ρ) else .int (am_gi H a i))
def am_cell (τ : Nat → ClassId) (ρ : Nat → Nat) (H : am_H) (a : Nat) : va_E :=
  if (am_sh H a).1 < 100 then .inr ((am_sh H a).1, am_fs ρ H a (am_sh H a).1 (am_sh H a).2)
  else if (am_sh H a).1 < 102 then .inl (τ (am_sh H a).1, (am_sh H a).2, .inl (am_gi H a))
  else if (am_sh H a).1 < 103 then .inl (τ (am_sh H a).1, (am_sh H a).2, .inr (.inl (am_gl H a)))
  else .inl (τ (am_sh H a).1, (am_sh H a).2, .inr (.inr (.inr (.inr (fun i => (am_gr H a i).map ρ)))))
theorem am_cell_o {τ : Nat → ClassId} {ρ : Nat → Nat} {H : am_H} {a k n : Nat} (h : am_sh H a = (k, n)) (hk : k < 100) : am_cell τ ρ H a = .inr (k, am_fs ρ H a k n) := by
  simp only [am_cell, h, if_pos hk]
theorem am_cell_i {τ : Nat → ClassId} {ρ : Nat → Nat} {H : am_H} {a n : Nat} (h : am_sh H a = (100, n)) : am_cell τ ρ H a = .inl (τ 100, n, .inl (am_gi H a)) := by
  simp [am_cell, h]
theorem am_cell_z {τ : Nat → ClassId} {ρ : Nat → Nat} {H : am_H} {a n : Nat} (h : am_sh H a = (101, n)) : am_cell τ ρ H a = .inl (τ 101, n, .inl (am_gi H a)) := by
  simp [am_cell, h]
theorem am_cell_l {τ : Nat → ClassId} {ρ : Nat → Nat} {H : am_H} {a n : Nat} (h : am_sh H a = (102, n)) : am_cell τ ρ H a = .inl (τ 102, n, .inr (.inl (am_gl H a))) := by
  simp [am_cell, h]
theorem am_cell_q {τ : Nat → ClassId} {ρ : Nat → Nat} {H : am_H} {a k n : Nat} (h : am_sh H a = (103 + k, n)) : am_cell τ ρ H a = .inl (τ (103 + k), n, .inr (.inr (.inr (.inr (fun i => (am_gr H a i).map ρ))))) := by
  simp only [am_cell, h]
  rw [if_neg (by omega), if_neg (by omega), if_neg (by omega)]
theorem am_fs_at {ρ : Nat → Nat} {H : am_H} {a k n i : Nat} (hi : i < n) : (am_fs ρ H a k n)[i]? = some (if am_isr k i = true then va_rf ((am_gr H a i).map ρ) else .int (am_gi H a i)) := by
  simp [am_fs, hi]
theorem am_fs_len {ρ : Nat → Nat} {H : am_H} {a k n : Nat} : (am_fs ρ H a k n).length = n := by simp [am_fs]
def am_ws (τ : Nat → ClassId) (ρ : Nat → Nat) (H : am_H) : va_W := (List.range (am_nx H)).map (fun a => (ρ a, am_cell τ ρ H a))
theorem am_ws_at {τ : Nat → ClassId} {ρ : Nat → Nat} {H : am_H} {a : Nat} (h : a < am_nx H) : (am_ws τ ρ H)[a]? = some (ρ a, am_cell τ ρ H a) := by
  simp [am_ws, h]
theorem am_ws_set {τ : Nat → ClassId} {ρ : Nat → Nat} {H H2 : am_H} {a : Nat} {e : va_E} (hn : am_nx H2 = am_nx H) (he : am_cell τ ρ H2 a = e) (ho : ∀ b, b ≠ a → am_cell τ ρ H2 b = am_cell τ ρ H b) : (am_ws τ ρ H).set a (ρ a, e) = am_ws τ ρ H2 := by
  subst he
  apply List.ext_getElem?
  intro j
  unfold am_ws
  rw [hn, List.getElem?_set]
  by_cases hj : a = j
  · subst hj
    by_cases hl : a < am_nx H
    · simp [hl]
    · simp [hl]
  · simp only [if_neg hj, List.getElem?_map]
    by_cases hl : j < am_nx H
    · simp [hl, ho j (fun h => hj h.symm)]
    · simp [hl]
theorem am_cell_si {τ : Nat → ClassId} {ρ : Nat → Nat} {H : am_H} {a i b : Nat} {v : Int32} (h : b ≠ a) : am_cell τ ρ (am_si H a i v) b = am_cell τ ρ H b := by
  have e1 : am_gi (am_si H a i v) b = am_gi H b := by funext y; exact am_u2_ne _ _ (fun q => h q.1)
  have e2 : ∀ k n, am_fs ρ (am_si H a i v) b k n = am_fs ρ H b k n := fun k n => by unfold am_fs; rw [e1]; rfl
  unfold am_cell
  rw [e1, e2]; rfl
theorem am_cell_sf {τ : Nat → ClassId} {ρ : Nat → Nat} {H : am_H} {a b : Nat} {f : Nat → Int32} (h : b ≠ a) : am_cell τ ρ (am_sf H a f) b = am_cell τ ρ H b := by
  have e1 : am_gi (am_sf H a f) b = am_gi H b := by funext y; exact if_neg h
  have e2 : ∀ k n, am_fs ρ (am_sf H a f) b k n = am_fs ρ H b k n := fun k n => by unfold am_fs; rw [e1]; rfl
  unfold am_cell
  rw [e1, e2]; rfl
theorem am_cell_sl {τ : Nat → ClassId} {ρ : Nat → Nat} {H : am_H} {a i b : Nat} {v : Int64} (h : b ≠ a) : am_cell τ ρ (am_sl H a i v) b = am_cell τ ρ H b := by
  have e1 : am_gl (am_sl H a i v) b = am_gl H b := by funext y; exact am_u2_ne _ _ (fun q => h q.1)
  unfold am_cell
  rw [e1]; rfl
theorem am_cell_sr {τ : Nat → ClassId} {ρ : Nat → Nat} {H : am_H} {a i b : Nat} {v : Option Nat} (h : b ≠ a) : am_cell τ ρ (am_sr H a i v) b = am_cell τ ρ H b := by
  have e1 : am_gr (am_sr H a i v) b = am_gr H b := by funext y; exact am_u2_ne _ _ (fun q => h q.1)
  have e2 : ∀ k n, am_fs ρ (am_sr H a i v) b k n = am_fs ρ H b k n := fun k n => by unfold am_fs; rw [e1]; rfl
  unfold am_cell
  rw [e1, e2]; rfl
theorem am_fs_si {ρ : Nat → Nat} {H : am_H} {a k n i : Nat} {v : Int32} (hr : am_isr k i = false) : (am_fs ρ H a k n).set i (.int v) = am_fs ρ (am_si H a i v) a k n := by
  apply List.ext_getElem?
  intro j
  unfold am_fs
  rw [List.getElem?_set]
  by_cases hj : i = j
  · subst hj
    by_cases hl : i < n
    · simp [hl, hr, am_gi, am_si, am_u2]
    · simp [hl]
  · have e1 : am_gi (am_si H a i v) a j = am_gi H a j := am_u2_ne _ _ (fun q => hj q.2.symm)
    by_cases hl : j < n
    · simp [hj, hl, e1]; rfl
    · simp [hj, hl]
theorem am_fs_sr {ρ : Nat → Nat} {H : am_H} {a k n i : Nat} {v : Option Nat} (hr : am_isr k i = true) : (am_fs ρ H a k n).set i (va_rf (v.map ρ)) = am_fs ρ (am_sr H a i v) a k n := by
  apply List.ext_getElem?
  intro j
  unfold am_fs
  rw [List.getElem?_set]
  by_cases hj : i = j
  · subst hj
    by_cases hl : i < n
    · simp [hl, hr, am_gr, am_sr, am_u2]
    · simp [hl]
  · have e1 : am_gr (am_sr H a i v) a j = am_gr H a j := am_u2_ne _ _ (fun q => hj q.2.symm)
    by_cases hl : j < n
    · simp [hj, hl, e1]; rfl
    · simp [hj, hl]
theorem am_ws_nw {τ : Nat → ClassId} {ρ : Nat → Nat} {H : am_H} {k n q : Nat} {e : va_E} (hg : ∀ a i b, am_gr H a i = some b → b < am_nx H) (he : am_cell τ (va_up ρ (am_nx H) q) (am_nw H k n) (am_nx H) = e) : am_ws τ ρ H ++ [(q, e)] = am_ws τ (va_up ρ (am_nx H) q) (am_nw H k n) := by
  subst he
  have hc : ∀ a, a < am_nx H → am_cell τ (va_up ρ (am_nx H) q) (am_nw H k n) a = am_cell τ ρ H a := by
    intro a ha
    have hne : a ≠ am_nx H := by omega
    have e0 : am_sh (am_nw H k n) a = am_sh H a := va_up_ne _ _ hne
    have e1 : am_gi (am_nw H k n) a = am_gi H a := by funext y; exact if_neg hne
    have e2 : am_gl (am_nw H k n) a = am_gl H a := by funext y; exact if_neg hne
    have e3 : am_gr (am_nw H k n) a = am_gr H a := by funext y; exact if_neg hne
    have e4 : ∀ i, (am_gr H a i).map (va_up ρ (am_nx H) q) = (am_gr H a i).map ρ := by
      intro i
      cases hr : am_gr H a i with
      | none => rfl
      | some b => show some _ = some _; rw [va_up_ne _ _ (show b ≠ am_nx H by have := hg a i b hr; omega)]
    unfold am_cell am_fs
    rw [e0, e1, e2, e3]
    simp only [e4]
  unfold am_ws
  rw [show am_nx (am_nw H k n) = am_nx H + 1 from rfl, List.range_succ, List.map_append]
  congr 1
  · apply List.map_congr_left
    intro a ha
    have ha' : a < am_nx H := List.mem_range.mp ha
    rw [hc a ha', va_up_ne _ _ (show a ≠ am_nx H by omega)]
  · simp [va_up_self]
/-! THE ABSTRACT MACHINE, part 0: what was there before the law began and stays: arrays (the script, the class's tables), static fields, texts, array classes, links between nest mates. -/
/-- a static field that was there before, of a class that lays it, holds a reference or null -/
def am_Sq (z : String × String × String) (B0 : Nat) (U : State) (hp : Heap) : Prop := ∃ (c : ClassId) (k : Class) (i : Nat) (f : Field) (a : Nat) (cell : Cell) (v : Value), (U.vm.findClass z.1 = some c ∧ U.fieldFound? z.1 z.2.1 z.2.2 = some (c, k, i, f) ∧ k.statics = some a ∧ k.staticTypes[f.slot]? = some f.type) ∧ (f.isStatic = true ∧ hp[a]? = some cell ∧ cell.vm.isStatics = true ∧ cell.cls = c ∧ cell.slots[f.slot]? = some v ∧ v.isRef = true ∧ a < B0)
theorem am_Sq.moved {z : String × String × String} {B0 : Nat} {u U : State} {hp : Heap} (hvm : u.vm.Alike U.vm) (h : am_Sq z B0 u hp) : am_Sq z B0 U hp := by
  obtain ⟨c, k, i, f, a, cell, v, ⟨h1, h2, h3, h4⟩, h5⟩ := h
  obtain ⟨k', hi', he⟩ := State.fieldFound?_setVm hvm h2
  exact ⟨c, k', i, f, a, cell, v, ⟨by rw [hvm.findClass]; exact h1, hi', by rw [he]; exact h3, by rw [he]; exact h4⟩, h5⟩
theorem am_Sq.kept {z : String × String × String} {B0 : Nat} {U : State} {hp hp1 : Heap} (h : am_Sq z B0 U hp) (hq : ∀ a, a < B0 → hp1[a]? = hp[a]?) : am_Sq z B0 U hp1 := by
  obtain ⟨c, k, i, f, a, cell, v, h1, h2, h3, h4⟩ := h
  exact ⟨c, k, i, f, a, cell, v, h1, h2, (hq a h4.2.2.2.2).trans h3, h4⟩
theorem am_Sq.lays {z : String × String × String} {B0 : Nat} {s : State} {args : Array Value} (h : am_Sq z B0 s s.heap) : (Cond.laysStatic z.1 z.2.1 z.2.2).before args s = true := by
  obtain ⟨c, k, i, f, a, cell, v, ⟨h1, h2, h3, h4⟩, h5, h6, h7, h8, h9, -⟩ := h
  exact Cond.laysStatic_of h1 h2 h5 h3 h6 h7 h8 (Array.getElem?_eq_some_iff.mp h9).1 h4
theorem am_Sq.isRef {z : String × String × String} {B0 : Nat} {s : State} {args : Array Value} (h : am_Sq z B0 s s.heap) : (Cond.isRef (.static z.1 z.2.1 z.2.2)).before args s = true := by
  obtain ⟨c, k, i, f, a, cell, v, ⟨h1, h2, h3, h4⟩, h5, h6, h7, h8, h9, hv, -⟩ := h
  have he : (Term.static z.1 z.2.1 z.2.2).eval args s none [] s = some v := by
    simp [Term.eval, State.fieldNamed?, h2, h5, h3, h6, h7, h9]
  simp only [Cond.before, Cond.holds, Cond.value, he]
  cases v <;> simp_all [Value.isRef]
theorem am_Sq.of {z : String × String × String} {s : State} {args : Array Value} (hl : (Cond.laysStatic z.1 z.2.1 z.2.2).before args s = true) (hini : (Cond.initialized z.1).before args s = true) (h : (Cond.isRef (.static z.1 z.2.1 z.2.2)).before args s = true) : am_Sq z s.heap.size s s.heap := by
  obtain ⟨c, k, i, f, a, cell, h1, h2, h3, h4, h5, h6, h7, h8, h9⟩ := Cond.laysStatic_spec hl
  have hb := (Array.getElem?_eq_some_iff.mp h5).1
  refine ⟨c, k, i, f, a, cell, cell.slots[f.slot], ⟨h1, h2, h4, h9⟩, h3, h5, h6, h7, Array.getElem?_eq_getElem h8, ?_, hb⟩
  have he : (Term.static z.1 z.2.1 z.2.2).eval args s none [] s = some cell.slots[f.slot] := by
    simp [Term.eval, State.fieldNamed?, h2, h3, h4, h5, h6, Array.getElem?_eq_getElem h8]
  simp only [Cond.before, Cond.holds, Cond.value, he] at h
  generalize cell.slots[f.slot] = v at h
  cases v <;> simp_all [Value.isRef]
def am_O (ox : List (Nat × (Nat → Int32))) (B0 : Nat) (ρ : Nat → Nat) (s : State) : Prop :=
  (∀ (i : Nat) (r : Nat × (Nat → Int32)), ox[i]? = some r → va_X (ρ (1000000 + i)) r.1 r.2 s s.heap ∧ ρ (1000000 + i) < B0) ∧
  (∀ z ∈ am_sts, va_Z z.1 z.2.1 z.2.2.1 (.ref (ρ (1000000 + z.2.2.2))) (fun q => B0 ≤ q) s s.heap) ∧
  (∀ z ∈ am_txs, ∃ sa, vk_R z.1 z.2.1 z.2.2 sa s) ∧ (∀ C ∈ am_aos, va_AO C s) ∧ (∀ w ∈ am_nst, va_Nw w s) ∧ (∀ z ∈ am_tsq, am_Sq z B0 s s.heap) ∧ ∀ z ∈ am_ncs, va_Nc z.1 z.2 s
theorem am_O.ext {ox : List (Nat × (Nat → Int32))} {B0 n : Nat} {ρ ρ' : Nat → Nat} {s : State} (h : am_O ox B0 ρ s) (hx : am_ext n ρ ρ') : am_O ox B0 ρ' s := by
  have e : ∀ i, ρ' (1000000 + i) = ρ (1000000 + i) := fun i => hx _ (Or.inr (Nat.le_add_right _ _))
  refine ⟨fun i r hi => ?_, fun z hz => ?_, h.2.2⟩
  · rw [e]; exact h.1 i r hi
  · rw [e]; exact h.2.1 z hz
theorem am_nst_warm {w : Cond} (hw : w ∈ am_nst) {s U : State} (hW : s.WarmedH U.vm) (h : va_Nw w s) : va_Nw w U := by
  simp only [am_nst, List.mem_cons, List.not_mem_nil, or_false] at hw
  rcases hw with rfl | rfl | rfl | rfl | rfl | rfl | rfl | rfl | rfl | rfl | rfl | rfl | rfl | rfl <;> first | exact va_Nw.warmM hW h | exact va_Nw.warmF hW h | exact va_Nw.warmC hW h | exact va_Nw.warmD hW h
theorem am_nst_tab : ∀ w ∈ am_nst, w.onTables = true := by decide +kernel
theorem am_O.to {ox : List (Nat × (Nat → Int32))} {B0 : Nat} {ρ : Nat → Nat} {s U : State} (h : am_O ox B0 ρ s) (hW : s.WarmedH U.vm) (hk : ∀ x, x < B0 → U.heap[x]? = s.heap[x]?) : am_O ox B0 ρ U := by
  have hk' : ∀ a : Nat, a < s.heap.size → ¬ B0 ≤ a → U.heap[a]? = s.heap[a]? := fun a _ ha => hk a (Nat.not_le.mp ha)
  refine ⟨fun i r hi => ⟨va_X.moved hW.alike ((h.1 i r hi).1.kept (hk _ (h.1 i r hi).2)), (h.1 i r hi).2⟩, fun z hz => va_Z.moved hW.alike ((h.2.1 z hz).kept hk'), fun z hz => ?_, fun C hC => va_AO.moved hW.alike (h.2.2.2.1 C hC), fun w hw => am_nst_warm hw hW (h.2.2.2.2.1 w hw), fun z hz => ((h.2.2.2.2.2.1 z hz).kept hk).moved hW.alike, fun z hz => (h.2.2.2.2.2.2 z hz).moved hW.alike⟩
  obtain ⟨sa, hs⟩ := h.2.2.1 z hz
  exact ⟨sa, hs.warm hW⟩
theorem am_O.calling {ox : List (Nat × (Nat → Int32))} {B0 : Nat} {ρ : Nat → Nat} {U : State} {g : JFrame} {mk : MethodId} {a : Array Value} (h : am_O ox B0 ρ U) : am_O ox B0 ρ (U.calling g mk a) := by
  refine ⟨fun i r hi => ⟨va_X.moved (u := U) (U := U.calling g mk a) (Vm.Alike.refl U.vm) (h.1 i r hi).1, (h.1 i r hi).2⟩, fun z hz => va_Z.moved (u := U) (U := U.calling g mk a) (Vm.Alike.refl U.vm) (h.2.1 z hz), fun z hz => ?_, fun C hC => va_AO.moved (u := U) (U := U.calling g mk a) (Vm.Alike.refl U.vm) (h.2.2.2.1 C hC), fun w hw => va_Nw.same (am_nst_tab w hw) (u := U) (U := U.calling g mk a) rfl (h.2.2.2.2.1 w hw), fun z hz => am_Sq.moved (u := U) (U := U.calling g mk a) (Vm.Alike.refl U.vm) (h.2.2.2.2.2.1 z hz), fun z hz => va_Nc.moved (u := U) (U := U.calling g mk a) (Vm.Alike.refl U.vm) (h.2.2.2.2.2.2 z hz)⟩
  obtain ⟨sa, hs⟩ := h.2.2.1 z hz
  exact ⟨sa, vk_R.same (u := U) (U := U.calling g mk a) rfl hs⟩
/-! THE ABSTRACT MACHINE, part 2: what is fixed while a method runs, the judgement am_V, the contract am_C. -/
def am_A (B0 : Nat) : Nat → Prop := fun q => B0 ≤ q
def am_tys (τ : Nat → ClassId) : List (ClassId × FieldType) := am_kinds.map (fun q => (τ q.1, q.2))
theorem am_tys_at {τ : Nat → ClassId} {t k : Nat} {ty : FieldType} (h : am_kinds[t]? = some (k, ty)) : (am_tys τ)[t]? = some (τ k, ty) := by
  simp [am_tys, h]
/-- the cells in a heap -/
def am_P (dC : Nat → ClassId) (dI : Nat → Nat → Nat) (τ : Nat → ClassId) (B0 : Nat) (ρ : Nat → Nat) (H : am_H) (hp : Heap) : Prop :=
  va_P (dC, dI) vwCl (am_ws τ ρ H) hp ∧ va_D (am_A B0) (am_ws τ ρ H) ∧ (∀ a i b, am_gr H a i = some b → b < am_nx H) ∧ am_nx H ≤ 1000000 ∧ B0 ≤ hp.size
/-- since the method's start the numbering has only grown -/
def am_J (nx0 : Nat) (ρ0 ρ : Nat → Nat) (H : am_H) : Prop := nx0 ≤ am_nx H ∧ (am_nx H = nx0 → ρ = ρ0) ∧ am_ext nx0 ρ0 ρ
/-- a method's end -/
def am_Q (dC : Nat → ClassId) (dI : Nat → Nat → Nat) (τ : Nat → ClassId) (B0 : Nat) (ρ0 : Nat → Nat) (nx0 : Nat) (o : Option Value ⊕ String) (H' : am_H) : Array Value → State → Outcome → State → Prop := fun _ st oc t =>
  (∃ (v : Option Value) (ρ' : Nat → Nat), o = .inl v ∧ oc = .returned (v.map (am_cv ρ')) ∧ am_J nx0 ρ0 ρ' H' ∧ am_P dC dI τ B0 ρ' H' t.heap) ∧ va_F (am_A B0) st t
def am_X (dC : Nat → ClassId) (dI : Nat → Nat → Nat) (τ : Nat → ClassId) (B0 : Nat) (ρ0 : Nat → Nat) (nx0 : Nat) (o : Option Value ⊕ String) (H' : am_H) : String → State → State → Prop := fun E st t =>
  (∃ ρ' : Nat → Nat, o = .inr E ∧ am_J nx0 ρ0 ρ' H' ∧ am_P dC dI τ B0 ρ' H' t.heap) ∧ va_F (am_A B0) st t
/-- where a method has thrown q: the class by its name, its cell, what was written -/
def am_T (XC : String → State → State → Prop) (st : State) (q : Addr) (t : State) (mc ms : Nat) (free : Addr → Prop) : Prop :=
  ∃ (E : String) (ce : Cell), (XC E st t ∧ t.heap[q]? = some ce ∧ ce.vm = .none ∧ st.vm.findClass E = some ce.cls) ∧ ∃ L : List Loc, st.WarmedH t.vm ∧ st.sameButNew ({ t with vm := st.vm } : State) L mc ms ∧ ∀ z ∈ L, free z.base
def am_QQ (Qc : Array Value → State → Outcome → State → Prop) (XC : String → State → State → Prop) (mc ms : Nat) (free : Addr → Prop) : Array Value → State → Outcome → State → Prop := fun a st o t =>
  (Qc a st o t ∧ ∃ L, FrameEnd st o t L mc ms ∧ ∀ q ∈ L, free q.base) ∨ ∃ q, o = .threw q ∧ am_T XC st q t mc ms free
/-- a method that returns, or throws -/
def am_Met (l : Launch) (y : MethodName) (ws : List Cond) (rm : Room) (Pc : Array Value → State → Prop) (Qc : Array Value → State → Outcome → State → Prop) (XC : String → State → State → Prop) (mc ms : Nat) (free : Addr → Prop) : Prop :=
  MetFree l y (headSpec ws rm) Pc (fun _ _ _ _ _ => True) (am_QQ Qc XC mc ms free)
def am_MQ (below : List Frame) (Qc : Array Value → State → Outcome → State → Prop) (XC : String → State → State → Prop) (a : Array Value) (s : State) (mc ms : Nat) (free : Addr → Prop) : State → Prop := fun t =>
  ∃ o, t.status = .running ∧ Ended t below o ∧ am_QQ Qc XC mc ms free a s o t
theorem am_ret {p : Program} {l : Launch} {e : Env} {R : Room} {s : State} {m : MethodId} {args : Array Value} {below : List Frame} {meth : Method} {c : Code} {H : Heap} {locs : List Loc} {cells slots mc ms : Nat} {free : Addr → Prop} {g : JFrame} {Qc : Array Value → State → Outcome → State → Prop} {XC : String → State → State → Prop} (k : W p l e R s m args below meth c H locs cells slots (MQ below Qc args s mc ms free) g) : W p l e R s m args below meth c H locs cells slots (am_MQ below Qc XC args s mc ms free) g := by
  intro T hT X
  obtain ⟨t, a1, o, b1, b2, b3⟩ := k T hT X
  exact ⟨t, a1, o, b1, b2, Or.inl b3⟩
theorem am_ofW {l : Launch} {y : MethodName} {ws ws' : List Cond} {rm : Room} {Pc : Array Value → State → Prop} {Qc : Array Value → State → Outcome → State → Prop} {XC : String → State → State → Prop} {mc ms : Nat} {free : Addr → Prop} {cc : ByteArray} {maxL : Nat} {ret : Option FieldType}
    (hy : plainName y.cls = true) (hw : ws = Cond.code y cc maxL ret :: ws')
    (body : ∀ p e s m args below meth c s₁, BodyLoose p l y (headSpec ws rm) cc maxL ret e s m args below meth c s₁ → c.maxLocals = maxL → c.exceptionTable.toList = [] → Pc args s →
      W p l e (headSpec ws rm).room s m args below meth c s.heap [] 0 0 (am_MQ below Qc XC args s mc ms free) (entryFrame m args maxL)) : am_Met l y ws rm Pc Qc XC mc ms free := by
  have hmem : Cond.code y cc maxL ret ∈ ws := by rw [hw]; exact List.mem_cons_self
  refine MetFree.of_bodyS (code := cc) (maxLocals := maxL) (ret := ret) hy (fun args s m h hn => ?_) (fun p e s m args below meth c s₁ B hml hP _ => ?_)
  · obtain ⟨meth, c, h1, h2, h3, h4, h5, h6, -, -⟩ := Cond.code_spec hn (atoms_spec (ws := ws) h _ hmem)
    exact ⟨meth, c, h1, h2, h3, h4, h5, h6⟩
  · have hh0 : s₁.heap = s.heap := by rw [B.state]; rfl
    obtain ⟨meth9, c9, h1, h2, -, -, -, -, h7, -⟩ := Cond.code_spec B.named (atoms_spec (ws := ws) B.pre _ hmem)
    cases Option.some.inj (h1.symm.trans B.method)
    cases Option.some.inj (h2.symm.trans (Stand.of_body B).code)
    obtain ⟨t, a1, o, b1, b2, b3⟩ := body p e s m args below meth _ s₁ B hml (by rw [Array.isEmpty_iff.mp h7]) hP s₁ hh0 (Stand.of_body B)
    exact ⟨t, o, a1, b1, b2, b3⟩
/-- a method: its class, code, locals, answer's type, name, handlers -/
abbrev am_M : Type := String × ByteArray × Nat × Option FieldType × String × List ExceptionTableEntry
def am_Cx (ox : List (Nat × (Nat → Int32))) (d : Nat) (M : am_M) (l : Launch) (p : Program) (R : Room) (s : State) (m : MethodId) (args : Array Value) (meth : Method) (c : Code) (dC : Nat → ClassId) (dI : Nat → Nat → Nat) (τ : Nat → ClassId) (B0 : Nat) (ρ0 : Nat → Nat) (n0 z0 : Nat) (H' : am_H) : Prop :=
  p.tables.exec = Jvm.exec ∧ c.code = M.2.1 ∧ c.maxLocals = M.2.2.1 ∧ meth.sig.returnType = M.2.2.2.1 ∧ s.vm.findClass M.1 = some m.cls ∧ (∀ w ∈ am_words, w.before args s = true) ∧ meth.locks = false ∧ va_K (dC, dI) vwCl (am_tys τ) s ∧
  l.stackTraces = false ∧ B0 ≤ s.heap.size ∧ d ≤ R.frames ∧ 116 + 26 * d ≤ R.locals ∧ am_nc H' ≤ n0 + R.cells ∧ am_nz H' ≤ z0 + R.slots ∧ (M.2.2.2.2.1 ≠ "" → meth.name = M.2.2.2.2.1) ∧ (M.2.2.2.2.1 ≠ "" → c.exceptionTable.toList = M.2.2.2.2.2) ∧ am_O ox B0 ρ0 s
def am_St (nL : Nat) (lv : List (Nat × Value)) (H : am_H) (s : State) (dC : Nat → ClassId) (dI : Nat → Nat → Nat) (τ : Nat → ClassId) (B0 : Nat) (ρ0 : Nat → Nat) (nx0 n0 z0 : Nat) (ρ : Nat → Nat) (hp : Heap) (locs : List Loc) (cells slots : Nat) (ls : Array Slot) : Prop :=
  am_J nx0 ρ0 ρ H ∧ am_P dC dI τ B0 ρ H hp ∧ va_S (am_A B0) s.heap hp locs ∧ cells + n0 = am_nc H ∧ slots + z0 = am_nz H ∧ lv_has ls nL (am_cl ρ lv)
/-- from this frame the method comes to its end o with the heap H' -/
def am_V (ox : List (Nat × (Nat → Int32))) (d : Nat) (M : am_M) (pc : Nat) (lv : List (Nat × Value)) (st : List Value) (H : am_H) (o : Option Value ⊕ String) (H' : am_H) : Prop :=
  ∀ (l : Launch) (p : Program) (e : Env) (R : Room) (s : State) (m : MethodId) (args : Array Value) (below : List Frame) (meth : Method) (c : Code) (dC : Nat → ClassId) (dI : Nat → Nat → Nat) (τ : Nat → ClassId) (B0 : Nat) (ρ0 : Nat → Nat) (nx0 n0 z0 : Nat),
    am_Cx ox d M l p R s m args meth c dC dI τ B0 ρ0 n0 z0 H' → ∀ (ρ : Nat → Nat) (hp : Heap) (locs : List Loc) (cells slots : Nat) (ls : Array Slot),
      am_St M.2.2.1 lv H s dC dI τ B0 ρ0 nx0 n0 z0 ρ hp locs cells slots ls →
      W p l e R s m args below meth c hp locs cells slots (am_MQ below (am_Q dC dI τ B0 ρ0 nx0 o H') (am_X dC dI τ B0 ρ0 nx0 o H') args s (am_nc H' - n0) (am_nz H' - z0) (am_A B0)) (F0 m pc ls (st.map (am_cv ρ)))
def am_rm (d mc ms : Nat) : Room := { frames := d, cells := mc, slots := ms, locals := 116 + 26 * d }
/-- a method's start -/

def am_B (ox : List (Nat × (Nat → Int32))) (dC : Nat → ClassId) (dI : Nat → Nat → Nat) (τ : Nat → ClassId) (B0 : Nat) (ρ : Nat → Nat) (H : am_H) (U : State) : Prop :=
  am_P dC dI τ B0 ρ H U.heap ∧ va_K (dC, dI) vwCl (am_tys τ) U ∧ am_O ox B0 ρ U
-- locals
def am_lk (i : Nat) : List (Nat × Value) → Option Value
  | [] => none
  | q :: r => if q.1 = i then some q.2 else am_lk i r
theorem am_lk_mem {i : Nat} {v : Value} : ∀ {lv : List (Nat × Value)}, am_lk i lv = some v → (i, v) ∈ lv
  | [], h => by cases h
  | q :: r, h => by
    unfold am_lk at h
    by_cases hq : q.1 = i
    · rw [if_pos hq] at h
      have e : q = (i, v) := by cases q; cases h; cases hq; rfl
      rw [e]; exact List.mem_cons_self
    · rw [if_neg hq] at h
      exact List.mem_cons_of_mem _ (am_lk_mem h)
theorem am_lk_at {ls : Array Slot} {nL i : Nat} {ρ : Nat → Nat} {lv : List (Nat × Value)} {v : Value} (h : lv_has ls nL (am_cl ρ lv)) (hk : am_lk i lv = some v) : ls[i]? = some (.val (am_cv ρ v)) :=
  h.2.2 (i, am_cv ρ v) (List.mem_map.mpr ⟨(i, v), am_lk_mem hk, rfl⟩)
def am_sv (i : Nat) (v : Value) (lv : List (Nat × Value)) : List (Nat × Value) := (i, v) :: lv.filter (fun q => !(q.1 == i) && !(q.1 + 1 == i && q.2.category == 2))
theorem am_sv_cl {i : Nat} {v : Value} {lv : List (Nat × Value)} {ρ : Nat → Nat} : (i, am_cv ρ v) :: (am_cl ρ lv).filter (fun q => !(q.1 == i) && !(q.1 + 1 == i && q.2.category == 2)) = am_cl ρ (am_sv i v lv) := by
  unfold am_cl am_sv
  rw [List.map_cons, List.filter_map]
  congr 2
  apply List.filter_congr
  intro q _
  simp [am_cv_cat]
