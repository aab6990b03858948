/-! The class's objects as its constructor leaves them. -/
def fz (H : am_H) : Prop := 288 ≤ am_nx H ∧ (am_sh H 0 = (6, am_Nf 6) ∧ am_gr H 0 0 = some 1 ∧ am_gr H 0 1 = some 26) ∧ (am_sh H 1 = (103 + 0, 8) ∧ (∀ i, i < 8 → am_gr H 1 i = some (2 + 3 * i)) ∧ ∀ i, i < 8 → ly_B i H) ∧ zD H H ∧ (am_gr H 26 8 = some 285 ∧ am_gr H 26 9 = some 286 ∧ am_gr H 26 10 = some 287) ∧ (am_sh H 285 = (100, 4) ∧ am_sh H 286 = (101, 4) ∧ am_sh H 287 = (100, 40)) ∧ am_zr 285 H ∧ am_zr 286 H ∧ am_zr 287 H
theorem fz.of {G H : am_H} (h : zY G) (k : am_Kp 0 288 G H) (hn : 288 ≤ am_nx H) : fz H := by
  obtain ⟨-, ⟨a1, a2, a3⟩, ⟨b1, b2, b3⟩, H0, -, hD, ⟨f1, f2, f3⟩, ⟨q1, q2, q3⟩, z1, z2, z3⟩ := h
  obtain ⟨k1, k2, -⟩ := k 0 (by omega) (by omega)
  obtain ⟨l1, l2, -⟩ := k 1 (by omega) (by omega)
  obtain ⟨-, m2, -⟩ := k 26 (by omega) (by omega)
  exact ⟨hn, ⟨k1.trans a1, by rw [k2]; exact a2, by rw [k2]; exact a3⟩, ⟨l1.trans b1, fun i hi => by rw [l2]; exact b2 i hi, fun i hi => (b3 i hi).kp (k.sub (by omega) (by omega))⟩, hD.re (k.sub (by omega) (by omega)), ⟨by rw [m2]; exact f1, by rw [m2]; exact f2, by rw [m2]; exact f3⟩, ⟨(k 285 (by omega) (by omega)).1.trans q1, (k 286 (by omega) (by omega)).1.trans q2, (k 287 (by omega) (by omega)).1.trans q3⟩, z1.kp k (by omega) (by omega), z2.kp k (by omega) (by omega), z3.kp k (by omega) (by omega)⟩
theorem fz.lt {H : am_H} (h : fz H) {x : Nat} (hx : x < 288) : x < am_nx H := Nat.lt_of_lt_of_le hx h.1
theorem fz.s0 {H : am_H} (h : fz H) : am_sh H 0 = (6, am_Nf 6) := h.2.1.1
theorem fz.r00 {H : am_H} (h : fz H) : am_gr H 0 0 = some 1 := h.2.1.2.1
theorem fz.r01 {H : am_H} (h : fz H) : am_gr H 0 1 = some 26 := h.2.1.2.2
theorem fz.s1 {H : am_H} (h : fz H) : am_sh H 1 = (103 + 0, 8) := h.2.2.1.1
theorem fz.r1 {H : am_H} (h : fz H) {i : Nat} (hi : i < 8) : am_gr H 1 i = some (2 + 3 * i) := h.2.2.1.2.1 i hi
theorem fz.lb {H : am_H} (h : fz H) {i : Nat} (hi : i < 8) : ly_B i H := h.2.2.1.2.2 i hi
theorem fz.zd {H : am_H} (h : fz H) : zD H H := h.2.2.2.1
theorem fz.s26 {H : am_H} (h : fz H) : am_sh H 26 = (2, am_Nf 2) := h.zd.1.1.1.1
theorem fz.r26_1 {H : am_H} (h : fz H) : am_gr H 26 1 = some 28 := h.zd.1.1.1.2.2.1
theorem fz.r26_3 {H : am_H} (h : fz H) : am_gr H 26 3 = some 27 := h.zd.1.1.1.2.2.2.1
theorem fz.i26 {H : am_H} (h : fz H) (y : Nat) : am_gi H 26 y = 0 := h.zd.1.1.1.2.2.2.2.1 y
theorem fz.s27 {H : am_H} (h : fz H) : am_sh H 27 = (3, am_Nf 3) := h.zd.1.1.1.2.2.2.2.2.1
theorem fz.z27 {H : am_H} (h : fz H) : am_zr 27 H := h.zd.1.1.1.2.2.2.2.2.2.1
theorem fz.s28 {H : am_H} (h : fz H) : am_sh H 28 = (103 + 4, 48) := h.zd.1.1.2.1
theorem fz.r28 {H : am_H} (h : fz H) {t : Nat} (ht : t < 48) : am_gr H 28 t = some (29 + 5 * t) := h.zd.1.1.2.2.1 t ht
theorem fz.lT {H : am_H} (h : fz H) {t : Nat} (ht : t < 48) : ly_T t H := h.zd.1.1.2.2.2 t ht
theorem fz.r26_4 {H : am_H} (h : fz H) : am_gr H 26 4 = some 269 := h.zd.1.2.1
theorem fz.s269 {H : am_H} (h : fz H) : am_sh H 269 = (103 + 1, 2) := h.zd.1.2.2.1
theorem fz.r269 {H : am_H} (h : fz H) {t : Nat} (ht : t < 2) : am_gr H 269 t = some (270 + 4 * t) := h.zd.1.2.2.2.1 t ht
theorem fz.lP {H : am_H} (h : fz H) {t : Nat} (ht : t < 2) : ly_P t H := h.zd.1.2.2.2.2 t ht
theorem fz.r26_5 {H : am_H} (h : fz H) : am_gr H 26 5 = some 278 := h.zd.2.1
theorem fz.s278 {H : am_H} (h : fz H) : am_sh H 278 = (103 + 5, 3) := h.zd.2.2.1
theorem fz.r278 {H : am_H} (h : fz H) {t : Nat} (ht : t < 3) : am_gr H 278 t = some (279 + 2 * t) := h.zd.2.2.2.1 t ht
theorem fz.lW {H : am_H} (h : fz H) {t : Nat} (ht : t < 3) : ly_W t H := h.zd.2.2.2.2 t ht
theorem fz.r26_8 {H : am_H} (h : fz H) : am_gr H 26 8 = some 285 := h.2.2.2.2.1.1
theorem fz.r26_9 {H : am_H} (h : fz H) : am_gr H 26 9 = some 286 := h.2.2.2.2.1.2.1
theorem fz.r26_10 {H : am_H} (h : fz H) : am_gr H 26 10 = some 287 := h.2.2.2.2.1.2.2
theorem fz.s285 {H : am_H} (h : fz H) : am_sh H 285 = (100, 4) := h.2.2.2.2.2.1.1
theorem fz.s286 {H : am_H} (h : fz H) : am_sh H 286 = (101, 4) := h.2.2.2.2.2.1.2.1
theorem fz.s287 {H : am_H} (h : fz H) : am_sh H 287 = (100, 40) := h.2.2.2.2.2.1.2.2
theorem fz.z285 {H : am_H} (h : fz H) : am_zr 285 H := h.2.2.2.2.2.2.1
theorem fz.z286 {H : am_H} (h : fz H) : am_zr 286 H := h.2.2.2.2.2.2.2.1
theorem fz.z287 {H : am_H} (h : fz H) : am_zr 287 H := h.2.2.2.2.2.2.2.2
/-- what a call of the class leaves as it was, for the reference and the law -/
def pz (H H1 : am_H) : Prop := am_nx H1 = am_nx H ∧ am_Kp 288 320 H H1 ∧ ∀ x, 288 ≤ x → am_gl H1 x = am_gl H x
theorem pz.rf {H : am_H} : pz H H := ⟨rfl, am_Kp.rf, fun _ _ => rfl⟩
theorem pz.ga {H : am_H} : pz H (am_ga H 1 6) := ⟨rfl, fun _ _ _ => ⟨rfl, rfl, rfl⟩, fun _ _ => rfl⟩
theorem pz.si {H H1 : am_H} {a k : Nat} {v : Int32} (h : pz H H1) (ha : a < 288) : pz H (am_si H1 a k v) := ⟨h.1, h.2.1.trans (am_Kp.si (by omega)), h.2.2⟩
theorem pz.sr {H H1 : am_H} {a k : Nat} {v : Option Nat} (h : pz H H1) (ha : a < 288) : pz H (am_sr H1 a k v) := ⟨h.1, h.2.1.trans (am_Kp.sr (by omega)), h.2.2⟩
theorem wn_of {x g : Int32} {N : Nat} (h : 0 ≤ x ∧ x ≤ g) (hg : g = nI N) (hN : N < 2 ^ 31) : ∃ b, b < N + 1 ∧ x = nI b := by
  subst hg
  refine ⟨x.toNatClampNeg, ?_, (Int32.ofNat_toNatClampNeg x h.1).symm⟩
  have h2 := Int32.le_iff_toInt_le.mp h.2
  have h3 : (nI N).toInt = (N : Int) := Int32.toInt_ofNat_of_lt hN
  rw [h3] at h2
  have h4 : x.toNatClampNeg = x.toInt.toNat := rfl
  rw [h4]
  omega
theorem no_one {x z : Int32} (hz : z = 0) (q : (0 : Int32) ≤ x ∧ x ≤ z - 1) : False := by
  subst hz
  have h1 := Int32.le_trans q.1 q.2
  exact absurd h1 (by decide)
theorem cd_mmin : Cond.code Lib.Math.min.name Lib.Math.min.code 2 (some .int) ∈ am_words := aw_523
