theorem tI_add {x y : Int32} (h1 : -2147483648 ≤ x.toInt + y.toInt) (h2 : x.toInt + y.toInt ≤ 2147483647) : (x + y).toInt = x.toInt + y.toInt := by
  rw [Int32.toInt_add]; exact Int.bmod_eq_of_le (by omega) (by omega)
theorem tI_sub {x y : Int32} (h1 : -2147483648 ≤ x.toInt - y.toInt) (h2 : x.toInt - y.toInt ≤ 2147483647) : (x - y).toInt = x.toInt - y.toInt := by
  rw [Int32.toInt_sub]; exact Int.bmod_eq_of_le (by omega) (by omega)
theorem tI_mul {x y : Int32} (h1 : -2147483648 ≤ x.toInt * y.toInt) (h2 : x.toInt * y.toInt ≤ 2147483647) : (x * y).toInt = x.toInt * y.toInt := by
  rw [Int32.toInt_mul]; exact Int.bmod_eq_of_le (by omega) (by omega)
theorem tI_div {x y : Int32} (h1 : 0 ≤ x.toInt) (h2 : 1 ≤ y.toInt) : (x / y).toInt = x.toInt / y.toInt := by
  rw [Int32.toInt_div]
  have hx : x.toInt ≤ 2147483647 := Int32.toInt_le x
  rw [Int.tdiv_eq_ediv_of_nonneg h1]
  have a1 : 0 ≤ x.toInt / y.toInt := Int.ediv_nonneg h1 (by omega)
  have a2 : x.toInt / y.toInt ≤ x.toInt := Int.ediv_le_self _ h1
  exact Int.bmod_eq_of_le (by omega) (by omega)
theorem tI_rem {x y : Int32} (h1 : 0 ≤ x.toInt) (h2 : 1 ≤ y.toInt) : (x - x / y * y).toInt = x.toInt % y.toInt := by
  have hx : x.toInt ≤ 2147483647 := Int32.toInt_le x
  have a0 := tI_div h1 h2
  have a1 : 0 ≤ x.toInt / y.toInt := Int.ediv_nonneg h1 (by omega)
  have e := Int.mul_ediv_add_emod x.toInt y.toInt
  have m0 := Int.emod_nonneg x.toInt (show y.toInt ≠ 0 by omega)
  have m1 := Int.emod_lt_of_pos x.toInt (show 0 < y.toInt by omega)
  have m2 : 0 ≤ y.toInt * (x.toInt / y.toInt) := Int.mul_nonneg (by omega) a1
  have e1 : x.toInt / y.toInt * y.toInt = x.toInt - x.toInt % y.toInt := by rw [Int.mul_comm]; omega
  have a2 : (x / y * y).toInt = x.toInt - x.toInt % y.toInt := by
    rw [tI_mul (by rw [a0, e1]; omega) (by rw [a0, e1]; omega), a0, e1]
  rw [tI_sub (by omega) (by omega), a2]; omega
theorem vin {x : Int32} {n : Nat} (h1 : 0 ≤ x.toInt) (h2 : x.toInt < n) : vp_in x n := by
  intro h
  rcases h with h | h
  · have := Int32.lt_iff_toInt_lt.mp h
    simp at this; omega
  · have e : x.toNatClampNeg = x.toInt.toNat := rfl
    omega
theorem i_lt {x y : Int32} {a b : Int} (hx : x.toInt = a) (hy : y.toInt = b) (h : x < y) : a < b := by rw [← hx, ← hy]; exact Int32.lt_iff_toInt_lt.mp h
theorem i_le {x y : Int32} {a b : Int} (hx : x.toInt = a) (hy : y.toInt = b) (h : x ≤ y) : a ≤ b := by rw [← hx, ← hy]; exact Int32.le_iff_toInt_le.mp h
theorem i_nlt {x y : Int32} {a b : Int} (hx : x.toInt = a) (hy : y.toInt = b) (h : ¬ x < y) : b ≤ a := by
  have h1 : ¬ x.toInt < y.toInt := fun q => h (Int32.lt_iff_toInt_lt.mpr q)
  rw [hx, hy] at h1; omega
theorem i_nle {x y : Int32} {a b : Int} (hx : x.toInt = a) (hy : y.toInt = b) (h : ¬ x ≤ y) : b < a := by
  have h1 : ¬ x.toInt ≤ y.toInt := fun q => h (Int32.le_iff_toInt_le.mpr q)
  rw [hx, hy] at h1; omega
theorem i_eq {x y : Int32} {a b : Int} (hx : x.toInt = a) (hy : y.toInt = b) (h : x = y) : a = b := by rw [← hx, ← hy, h]
theorem i_ne {x y : Int32} {a b : Int} (hx : x.toInt = a) (hy : y.toInt = b) (h : ¬ x = y) : a ≠ b := fun q => h (Int32.toInt_inj.mp (by rw [hx, hy, q]))
/-! The typed heap: cells 0 to 319 by their types; bounds of ints by type and slot. -/
def ty (a : Nat) : Nat := if a = 0 then 0 else if a = 1 then 1 else if a < 26 then 2 + (a - 2) % 3 else if a = 26 then 5 else if a = 27 then 6 else if a = 28 then 7 else if a < 269 then (if (a - 29) % 5 = 0 then 8 else if (a - 29) % 5 = 1 then 9 else 6) else if a = 269 then 10 else if a < 278 then (if (a - 270) % 4 = 0 then 11 else 12) else if a = 278 then 13 else if a < 285 then 14 + (a - 279) % 2 else if a < 320 then a - 269 else 99
def tsh (T : Nat) : Nat × Nat := [(6, 2), (103, 8), (0, 3), (100, 16), (100, 16), (2, 15), (3, 6), (107, 48), (4, 10), (106, 3), (104, 2), (1, 4), (100, 48), (108, 3), (5, 3), (100, 48), (100, 4), (101, 4), (100, 40), (7, 40),
  (100, 8), (100, 128), (100, 128), (100, 48), (100, 48), (100, 48), (100, 48), (100, 48), (100, 48), (100, 48), (100, 48), (100, 4), (101, 48), (101, 48), (101, 48), (101, 4), (100, 96), (100, 96), (100, 96), (100, 2), (100, 145), (100, 145), (100, 145), (100, 145), (100, 145), (100, 145), (100, 3), (100, 3), (100, 144), (100, 40), (102, 1)].getD T (0, 0)
def tr (T k : Nat) : Nat := if T = 1 then (if k < 8 then 2 else 99) else if T = 7 then (if k < 48 then 8 else 99) else if T = 9 then (if k < 3 then 6 else 99) else if T = 10 then (if k < 2 then 11 else 99) else if T = 13 then (if k < 3 then 14 else 99) else if T = 19 then (if k < 30 then 20 + k else 99) else ([[1, 5], [], [3, 4], [], [], [1, 7, 99, 6, 10, 13, 99, 99, 16, 17, 18], [], [], [99, 9, 99, 6], [], [], [99, 12, 12, 12], [], [], [15]].getD T []).getD k 99
def ir (N T k : Nat) : Int × Int :=
  if T = 2 then (if k = 2 then (0, 16) else (-2147483648, 2147483647))
  else if T = 3 then (0, 16)
  else if T = 5 then (if k = 2 then (0, 48) else if k = 6 then (0, 3) else if k = 7 then (0, 1) else if k = 11 then (0, N) else (-2147483648, 2147483647))
  else if T = 6 then (if k = 1 then (0, 15) else (-2147483648, 2147483647))
  else if T = 8 then (if k = 0 then (0, 47) else if k = 2 then (0, 3) else if k = 4 then (0, 7) else if k = 6 then (0, 16 + N) else if k = 7 then (0, 3) else if k = 8 then (0, 4) else if k = 9 then (0, 3) else (-2147483648, 2147483647))
  else if T = 14 then (if k = 1 then (0, 48) else if k = 2 then (-1, 47) else (-2147483648, 2147483647))
  else if T = 15 then (0, 47)
  else if T = 17 then (0, 1)
  else if T = 19 then (if k = 30 then (0, 48) else if k = 31 then (0, 3) else if k = 36 then (0, N) else if k = 38 then (-1, 47) else if k = 39 then (0, 1) else (-2147483648, 2147483647))
  else if T = 20 then (0, 16)
  else if T = 21 then (0, 16)
  else if T = 23 then (0, 3)
  else if T = 25 then (0, 16 + N)
  else if T = 26 then (0, 7)
  else if T = 27 then (0, 144)
  else if T = 28 then (0, 3)
  else if T = 29 then (0, 4)
  else if T = 30 then (0, 3)
  else if T = 32 then (0, 1)
  else if T = 33 then (0, 1)
  else if T = 34 then (0, 1)
  else if T = 35 then (0, 1)
  else if T = 43 then (0, 15)
  else if T = 46 then (-1, 47)
  else if T = 47 then (0, 48)
  else if T = 48 then (0, 47)
  else (-2147483648, 2147483647)
def inr (p : Int × Int) (v : Int32) : Prop := p.1 ≤ v.toInt ∧ v.toInt ≤ p.2
def wt (N : Nat) (H : am_H) : Prop := 320 ≤ am_nx H ∧ ∀ a, a < 320 → am_sh H a = tsh (ty a) ∧ (∀ k, tr (ty a) k ≠ 99 → ∃ b, am_gr H a k = some b ∧ b < 320 ∧ ty b = tr (ty a) k) ∧ ∀ k, inr (ir N (ty a) k) (am_gi H a k)
theorem inr_any {v : Int32} : inr (-2147483648, 2147483647) v := ⟨Int32.le_toInt v, Int32.toInt_le v⟩
theorem ir_le {N N' T k : Nat} (h : N ≤ N') : (ir N' T k).1 = (ir N T k).1 ∧ (ir N T k).2 ≤ (ir N' T k).2 := by
  by_cases h5 : T = 5
  · subst h5
    by_cases hk : k = 11
    · subst hk; exact ⟨rfl, show (N : Int) ≤ N' by omega⟩
    · simp [ir, hk]
  by_cases h8 : T = 8
  · subst h8
    by_cases hk : k = 6
    · subst hk; exact ⟨rfl, show (16 : Int) + N ≤ 16 + N' by omega⟩
    · simp [ir, hk]
  by_cases h19 : T = 19
  · subst h19
    by_cases hk : k = 36
    · subst hk; exact ⟨rfl, show (N : Int) ≤ N' by omega⟩
    · simp [ir, hk]
  by_cases h25 : T = 25
  · subst h25; exact ⟨rfl, show (16 : Int) + N ≤ 16 + N' by omega⟩
  simp [ir, h5, h8, h19, h25]
theorem ir_mono {N N' T k : Nat} (h : N ≤ N') {v : Int32} (hv : inr (ir N T k) v) : inr (ir N' T k) v := ⟨by rw [(ir_le h).1]; exact hv.1, Int.le_trans hv.2 (ir_le h).2⟩
theorem wt.up {N N' : Nat} {H : am_H} (h : wt N H) (hN : N ≤ N') : wt N' H := ⟨h.1, fun a l => ⟨(h.2 a l).1, (h.2 a l).2.1, fun k => ir_mono hN ((h.2 a l).2.2 k)⟩⟩
section
variable {N : Nat} {H : am_H} {a k T : Nat}
theorem wt.l (h : wt N H) (l : a < 320) : a < am_nx H := Nat.lt_of_lt_of_le l h.1
theorem wt.s (h : wt N H) (l : a < 320) (t : ty a = T) : am_sh H a = tsh T := by rw [← t]; exact (h.2 a l).1
theorem wt.r (h : wt N H) (l : a < 320) (t : ty a = T) {T' : Nat} (e : tr T k = T') (hn : T' ≠ 99) : ∃ b, am_gr H a k = some b ∧ b < 320 ∧ ty b = T' := by
  subst t; subst e; exact (h.2 a l).2.1 k hn
theorem wt.i (h : wt N H) (l : a < 320) (t : ty a = T) {p : Int × Int} (e : ir N T k = p) : inr p (am_gi H a k) := by
  subst t; subst e; exact (h.2 a l).2.2 k
theorem wt.si {v : Int32} (h : wt N H) (t : ty a = T) (hr : inr (ir N T k) v) : wt N (am_si H a k v) := by
  refine ⟨h.1, fun x lx => ⟨(h.2 x lx).1, (h.2 x lx).2.1, fun y => ?_⟩⟩
  rw [am_gi_si]
  by_cases q : x = a ∧ y = k
  · rw [if_pos q, q.1, q.2, t]; exact hr
  · rw [if_neg q]; exact (h.2 x lx).2.2 y
theorem wt.sf {f : Nat → Int32} (h : wt N H) (t : ty a = T) (hr : ∀ y, inr (ir N T y) (f y)) : wt N (am_sf H a f) := by
  refine ⟨h.1, fun x lx => ⟨(h.2 x lx).1, (h.2 x lx).2.1, fun y => ?_⟩⟩
  show inr _ (if x = a then f y else am_gi H x y)
  by_cases q : x = a
  · rw [if_pos q, q, t]; exact hr y
  · rw [if_neg q]; exact (h.2 x lx).2.2 y
theorem wt.sr {b : Nat} (h : wt N H) (t : ty a = T) (lb : b < 320) (tb : ty b = tr T k) : wt N (am_sr H a k (some b)) := by
  refine ⟨h.1, fun x lx => ⟨(h.2 x lx).1, fun y hy => ?_, (h.2 x lx).2.2⟩⟩
  show ∃ c, (if x = a ∧ y = k then some b else am_gr H x y) = some c ∧ _
  by_cases q : x = a ∧ y = k
  · rw [if_pos q]; exact ⟨b, rfl, lb, by rw [q.1, q.2, t]; exact tb⟩
  · rw [if_neg q]; exact (h.2 x lx).2.1 y hy
theorem wt.sl {v : Int64} (h : wt N H) : wt N (am_sl H a k v) := h
end
/-! The class's side: a task that is to end a scope has one; what the class's run never writes. -/
def R2 (E : Nat) (H : am_H) : Prop := ∀ a, a < 320 → ty a = 8 → a ≠ E → 3 ≤ (am_gi H a 8).toInt → 1 ≤ (am_gi H a 2).toInt
def kc (B H : am_H) : Prop := am_nx H = am_nx B ∧ am_gl H = am_gl B ∧ (∀ a, a < 320 → ty a ≤ 2 → am_gr H a = am_gr B a) ∧ ∀ a, a < 320 → (2 ≤ ty a ∧ ty a ≤ 4 ∨ 19 ≤ ty a) → am_gi H a = am_gi B a
def jc (N : Nat) (B : am_H) (E : Nat) (H : am_H) : Prop := wt N H ∧ R2 E H ∧ kc B H
theorem gi_rowne {H : am_H} {a k x : Nat} {v : Int32} (h : x ≠ a) : am_gi (am_si H a k v) x = am_gi H x := funext fun _ => if_neg (fun q => h q.1)
theorem gi_rowsf {H : am_H} {a x : Nat} {f : Nat → Int32} (h : x ≠ a) : am_gi (am_sf H a f) x = am_gi H x := funext fun _ => if_neg h
theorem kc.si {B H : am_H} {a k T : Nat} {v : Int32} (h : kc B H) (t : ty a = T) (hT : ¬ (2 ≤ T ∧ T ≤ 4 ∨ 19 ≤ T)) : kc B (am_si H a k v) := by
  refine ⟨h.1, h.2.1, h.2.2.1, fun x lx hx => ?_⟩
  rw [gi_rowne (fun q => by rw [q, t] at hx; exact hT hx)]
  exact h.2.2.2 x lx hx
theorem kc.sf {B H : am_H} {a T : Nat} {f : Nat → Int32} (h : kc B H) (t : ty a = T) (hT : ¬ (2 ≤ T ∧ T ≤ 4 ∨ 19 ≤ T)) : kc B (am_sf H a f) := by
  refine ⟨h.1, h.2.1, h.2.2.1, fun x lx hx => ?_⟩
  rw [gi_rowsf (fun q => by rw [q, t] at hx; exact hT hx)]
  exact h.2.2.2 x lx hx
section
variable {N E : Nat} {B H : am_H} {a k T : Nat}
theorem jc.up {N' : Nat} (h : jc N B E H) (hN : N ≤ N') : jc N' B E H := ⟨h.1.up hN, h.2⟩
theorem jc.l (h : jc N B E H) (l : a < 320) : a < am_nx H := h.1.l l
theorem jc.s (h : jc N B E H) (l : a < 320) (t : ty a = T) : am_sh H a = tsh T := h.1.s l t
theorem jc.r (h : jc N B E H) (l : a < 320) (t : ty a = T) {T' : Nat} (e : tr T k = T') (hn : T' ≠ 99) : ∃ b, am_gr H a k = some b ∧ b < 320 ∧ ty b = T' := h.1.r l t e hn
theorem jc.i (h : jc N B E H) (l : a < 320) (t : ty a = T) {p : Int × Int} (e : ir N T k = p) : inr p (am_gi H a k) := h.1.i l t e
theorem jc.row (h : jc N B E H) (l : a < 320) (t : ty a = T) (hT : 2 ≤ T ∧ T ≤ 4 ∨ 19 ≤ T) : am_gi H a = am_gi B a := h.2.2.2.2.2 a l (by rw [t]; exact hT)
theorem jc.rr (h : jc N B E H) (l : a < 320) (t : ty a ≤ 2) : am_gr H a = am_gr B a := h.2.2.2.2.1 a l t
theorem jc.nx (h : jc N B E H) : am_nx H = am_nx B := h.2.2.1
theorem jc.w {v : Int32} (h : jc N B E H) (t : ty a = T) (hT : ¬ (2 ≤ T ∧ T ≤ 4 ∨ 19 ≤ T)) (hk : ¬ (T = 8 ∧ (k = 2 ∨ k = 8))) (hr : inr (ir N T k) v) : jc N B E (am_si H a k v) := by
  refine ⟨h.1.si t hr, fun x lx tx hx => ?_, h.2.2.si t hT⟩
  have ne : ∀ j, (j = 2 ∨ j = 8) → am_gi (am_si H a k v) x j = am_gi H x j := fun j hj => if_neg (fun q => by
    have e : T = 8 := by rw [← t, ← q.1]; exact tx
    exact hk ⟨e, by rw [← q.2]; exact hj⟩)
  rw [ne 8 (Or.inr rfl), ne 2 (Or.inl rfl)]
  exact h.2.1 x lx tx hx
theorem jc.wf {f : Nat → Int32} (h : jc N B E H) (t : ty a = T) (hT : ¬ (2 ≤ T ∧ T ≤ 4 ∨ 19 ≤ T)) (h8 : T ≠ 8) (hr : ∀ y, inr (ir N T y) (f y)) : jc N B E (am_sf H a f) := by
  refine ⟨h.1.sf t hr, fun x lx tx hx => ?_, h.2.2.sf t hT⟩
  have ne : am_gi (am_sf H a f) x = am_gi H x := gi_rowsf (fun q => h8 (by rw [← t, ← q]; exact tx))
  rw [ne]
  exact h.2.1 x lx tx hx
theorem jc.wr {b : Nat} (h : jc N B E H) (t : ty a = T) (h2 : ¬ T ≤ 2) (lb : b < 320) (tb : ty b = tr T k) : jc N B E (am_sr H a k (some b)) :=
  ⟨h.1.sr t lb tb, h.2.1, h.2.2.1, h.2.2.2.1, fun x lx hx => (funext fun _ => if_neg (fun q => h2 (by rw [← t, ← q.1]; exact hx)) : am_gr (am_sr H a k (some b)) x = am_gr H x).trans (h.2.2.2.2.1 x lx hx), h.2.2.2.2.2⟩
theorem jc.wdue {v : Int32} (h : jc N B E H) (t : ty a = 8) (hr : inr (0, 4) v) (hq : 3 ≤ v.toInt → 1 ≤ (am_gi H a 2).toInt) : jc N B E (am_si H a 8 v) := by
  refine ⟨h.1.si t hr, fun x lx tx hx h3 => ?_, h.2.2.si t (by decide)⟩
  rw [am_gi_si] at h3 ⊢
  rw [if_neg (fun q => by simp at q)]
  by_cases q : x = a
  · rw [if_pos ⟨q, rfl⟩] at h3
    rw [q]; exact hq h3
  · rw [if_neg (fun w => q w.1)] at h3
    exact h.2.1 x lx tx hx h3
theorem jc.wdue0 {v : Int32} (h : jc N B a H) (t : ty a = 8) (hr : inr (0, 2) v) : jc N B 320 (am_si H a 8 v) := by
  refine ⟨h.1.si t (show inr (0, 4) v from ⟨hr.1, Int.le_trans hr.2 (by decide)⟩), fun x lx tx hx h3 => ?_, h.2.2.si t (by decide)⟩
  rw [am_gi_si] at h3 ⊢
  rw [if_neg (fun q => by simp at q)]
  by_cases q : x = a
  · rw [if_pos ⟨q, rfl⟩] at h3
    have := hr.2; simp only at this; omega
  · rw [if_neg (fun w => q w.1)] at h3
    exact h.2.1 x lx tx q h3
theorem jc.wown {v : Int32} (h : jc N B E H) (t : ty a = 8) (hr : inr (1, 3) v) : jc N B E (am_si H a 2 v) := by
  refine ⟨h.1.si t (show inr (0, 3) v from ⟨Int.le_trans (by decide) hr.1, hr.2⟩), fun x lx tx hx h3 => ?_, h.2.2.si t (by decide)⟩
  rw [am_gi_si] at h3 ⊢
  rw [if_neg (fun q => by simp at q)] at h3
  by_cases q : x = a
  · rw [if_pos ⟨q, rfl⟩]; exact hr.1
  · rw [if_neg (fun w => q w.1)]
    exact h.2.1 x lx tx hx h3
theorem jc.wown0 {v : Int32} (h : jc N B 320 H) (t : ty a = 8) (hr : inr (0, 3) v) : jc N B a (am_si H a 2 v) := by
  refine ⟨h.1.si t hr, fun x lx tx hx h3 => ?_, h.2.2.si t (by decide)⟩
  rw [am_gi_si] at h3 ⊢
  rw [if_neg (fun q => by simp at q)] at h3
  rw [if_neg (fun w => hx w.1)]
  exact h.2.1 x lx tx (by omega) h3
theorem jc.own1 (h : jc N B 320 H) (l : a < 320) (t : ty a = 8) (h3 : 3 ≤ (am_gi H a 8).toInt) : 1 ≤ (am_gi H a 2).toInt := h.2.1 a l t (by omega) h3
end
theorem mk_inr {lo hi : Int} {v : Int32} (h1 : lo ≤ v.toInt) (h2 : v.toInt ≤ hi) : inr (lo, hi) v := ⟨h1, h2⟩
theorem rdi {lo hi : Int} {v : Int32} (h : inr (lo, hi) v) : ∃ x, v = x ∧ lo ≤ x.toInt ∧ x.toInt ≤ hi := ⟨v, rfl, h.1, h.2⟩
theorem i_add {x y : Int32} {a b : Int} (hx : x.toInt = a) (hy : y.toInt = b) (h1 : -2147483648 ≤ a + b) (h2 : a + b ≤ 2147483647) : (x + y).toInt = a + b := by subst hx; subst hy; exact tI_add h1 h2
theorem i_sub {x y : Int32} {a b : Int} (hx : x.toInt = a) (hy : y.toInt = b) (h1 : -2147483648 ≤ a - b) (h2 : a - b ≤ 2147483647) : (x - y).toInt = a - b := by subst hx; subst hy; exact tI_sub h1 h2
theorem i_mul {x y : Int32} {a b : Int} (hx : x.toInt = a) (hy : y.toInt = b) (h1 : -2147483648 ≤ a * b) (h2 : a * b ≤ 2147483647) : (x * y).toInt = a * b := by subst hx; subst hy; exact tI_mul h1 h2
theorem i_div {x y : Int32} {a b : Int} (hx : x.toInt = a) (hy : y.toInt = b) (h1 : 0 ≤ a) (h2 : 1 ≤ b) : (x / y).toInt = a / b := by subst hx; subst hy; exact tI_div h1 h2
theorem i_rem {x y : Int32} {a b : Int} (hx : x.toInt = a) (hy : y.toInt = b) (h1 : 0 ≤ a) (h2 : 1 ≤ b) : (x - x / y * y).toInt = a % b ∧ 0 ≤ a % b ∧ a % b < b := by subst hx; subst hy; exact ⟨tI_rem h1 h2, Int.emod_nonneg _ (by omega), Int.emod_lt_of_pos _ (by omega)⟩
theorem b01 {v : Int32} (h1 : 0 ≤ v.toInt) (h2 : v.toInt ≤ 1) : v = 0 ∨ v = 1 := by
  rcases (by omega : v.toInt = 0 ∨ v.toInt = 1) with h | h
  · exact Or.inl (Int32.toInt_inj.mp (by rw [h]; decide))
  · exact Or.inr (Int32.toInt_inj.mp (by rw [h]; decide))
theorem ixn {x : Int32} {n : Nat} (h1 : 0 ≤ x.toInt) (h2 : x.toInt < n) : x.toNatClampNeg < n := by
  have e : x.toNatClampNeg = x.toInt.toNat := rfl
  omega
/-- the bounds of an instruction's number -/
def okins (o a : Int32) : Prop := ((o.toInt = 2 ∨ o.toInt = 3 ∨ o.toInt = 10) → 0 ≤ a.toInt ∧ a.toInt ≤ 7) ∧ (o.toInt = 4 → 0 ≤ a.toInt ∧ a.toInt ≤ 63) ∧ ((o.toInt = 7 ∨ o.toInt = 8) → 0 ≤ a.toInt ∧ a.toInt ≤ 3) ∧ (o.toInt = 9 → 0 ≤ a.toInt ∧ a.toInt ≤ 31) ∧ (o.toInt = 11 → 0 ≤ a.toInt ∧ a.toInt ≤ 1) ∧ ((o.toInt = 15 ∨ o.toInt = 16) → 0 ≤ a.toInt ∧ a.toInt ≤ 15)
def R1 (B : am_H) : Prop := ∀ a, a < 320 → ty a = 2 → ∃ o g, am_gr B a 0 = some o ∧ am_gr B a 1 = some g ∧ (o < 320 ∧ ty o = 3) ∧ (g < 320 ∧ ty g = 4) ∧ ∀ k, okins (am_gi B o k) (am_gi B g k)
theorem jc.ins {N E : Nat} {B H : am_H} (h : jc N B E H) (hR : R1 B) {a : Nat} (l : a < 320) (t : ty a = 2) : ∃ o g, am_gr H a 0 = some o ∧ am_gr H a 1 = some g ∧ (o < 320 ∧ ty o = 3) ∧ (g < 320 ∧ ty g = 4) ∧ ∀ k, okins (am_gi H o k) (am_gi H g k) := by
  obtain ⟨o, g, h1, h2, h3, h4, h5⟩ := hR a l t
  refine ⟨o, g, by rw [h.rr l (by omega)]; exact h1, by rw [h.rr l (by omega)]; exact h2, h3, h4, fun k => ?_⟩
  rw [h.row h3.1 h3.2 (by decide), h.row h4.1 h4.2 (by decide)]; exact h5 k
theorem pif {α : Type} {P : α → Prop} {c : Prop} [Decidable c] {x y : α} (hx : P x) (hy : P y) : P (if c then x else y) := by split <;> assumption
theorem i_out {l x g : Int32} {a b c : Int} (hl : l.toInt = a) (hx : x.toInt = b) (hg : g.toInt = c) (h : ¬ (l ≤ x ∧ x ≤ g)) : ¬ (a ≤ b ∧ b ≤ c) := by
  intro q
  apply h
  rw [Int32.le_iff_toInt_le, Int32.le_iff_toInt_le, hl, hx, hg]
  exact q
