/-! The reference as its constructor leaves it. -/
def mz (H : am_H) : Prop := 320 ≤ am_nx H ∧ am_sh H 288 = (7, am_Nf 7) ∧ (∀ i, i < 30 → am_gr H 288 i = some (289 + i) ∧ am_sh H (289 + i) = mk_tb7.getD i (0, 0) ∧ am_zr (289 + i) H) ∧ ∀ y, am_gi H 288 y = 0
theorem mz.lt {H : am_H} (h : mz H) {x : Nat} (hx : x < 320) : x < am_nx H := Nat.lt_of_lt_of_le hx h.1
theorem mz.s {H : am_H} (h : mz H) : am_sh H 288 = (7, am_Nf 7) := h.2.1
theorem mz.r {H : am_H} (h : mz H) {i : Nat} (hi : i < 30) : am_gr H 288 i = some (289 + i) := (h.2.2.1 i hi).1
theorem mz.a {H : am_H} (h : mz H) {i : Nat} (hi : i < 30) : am_sh H (289 + i) = mk_tb7.getD i (0, 0) := (h.2.2.1 i hi).2.1
theorem mz.z {H : am_H} (h : mz H) {i : Nat} (hi : i < 30) : am_zr (289 + i) H := (h.2.2.1 i hi).2.2
theorem mz.i {H : am_H} (h : mz H) (y : Nat) : am_gi H 288 y = 0 := h.2.2.2 y
theorem mz.kp {H : am_H} (h : mz H) {G : am_H} (k : am_Kp 288 320 H G) (hn : 320 ≤ am_nx G) : mz G := by
  obtain ⟨a1, a2, a3⟩ := k 288 (by omega) (by omega)
  refine ⟨hn, a1.trans h.s, fun i hi => ⟨by rw [a2]; exact h.r hi, (k (289 + i) (by omega) (by omega)).1.trans (h.a hi), (h.z hi).kp k (by omega) (by omega)⟩, fun y => by rw [a3]; exact h.i y⟩
def qz (H H1 : am_H) : Prop := am_nx H1 = am_nx H ∧ am_sh H1 = am_sh H ∧ am_gl H1 = am_gl H
/-- the reference answers what the document asks, and has kept the number of what it throws -/
def mr (k v : Int32) (H : am_H) (o : Option Value ⊕ String) (H1 : am_H) : Prop := (∃ w, o = .inl (some (.int w)) ∧ (k = 0 → w = v)) ∧ am_gi H1 288 37 = k ∧ qz H H1
