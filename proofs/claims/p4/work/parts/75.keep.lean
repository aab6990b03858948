/-! body and add keep what holds between two calls. -/
theorem R1.nums {H : am_H} (h : R1 H) (f : FB H) {b : Nat} (hb : b < 8) (k : Nat) : okins (am_gi H (3 + 3 * b) k) (am_gi H (4 + 3 * b) k) := by
  obtain ⟨o, g, h1, h2, -, -, h5⟩ := h (2 + 3 * b) (by omega) (ty_b hb).1
  rw [(f.2 b hb).2.1] at h1
  rw [(f.2 b hb).2.2] at h2
  cases h1
  cases h2
  exact h5 k
theorem ty_2 {a : Nat} (l : a < 320) (t : ty a = 2) : a = 2 + 3 * ((a - 2) / 3) ∧ (a - 2) / 3 < 8 := (by decide +kernel : ∀ a, a < 320 → ty a = 2 → a = 2 + 3 * ((a - 2) / 3) ∧ (a - 2) / 3 < 8) a l t
theorem R1.mk {H : am_H} (f : FB H) (h : ∀ b, b < 8 → ∀ k, okins (am_gi H (3 + 3 * b) k) (am_gi H (4 + 3 * b) k)) : R1 H := by
  intro a l t
  obtain ⟨e, hb⟩ := ty_2 l t
  rw [e]
  exact ⟨_, _, (f.2 _ hb).2.1, (f.2 _ hb).2.2, ⟨by omega, (ty_b hb).2.1⟩, ⟨by omega, (ty_b hb).2.2⟩, h _ hb⟩
theorem LJ.mk2 {N : Nat} {H H2 : am_H} (h : LJ N H) (hw : wt N H2) (hn : am_nx H2 = am_nx H) (hg : am_gr H2 = am_gr H) (hr : ∀ a, (26 ≤ a ∧ a < 288 ∨ 292 ≤ a) → am_gi H2 a = am_gi H a) (h30 : am_gi H2 288 30 = am_gi H 288 30) (h39 : am_gi H2 288 39 = am_gi H 288 39) (r1 : ∀ b, b < 8 → ∀ k, okins (am_gi H2 (3 + 3 * b) k) (am_gi H2 (4 + 3 * b) k)) (r3 : R3 H2) (sz : ∀ b, b < 8 → am_gi H2 (2 + 3 * b) 2 = am_gi H2 289 b) : LJ N H2 := by
  have f : FB H2 := h.2.2.2.1.of (fun a _ _ => by rw [hg])
  have hd : dl H2 = dl H := by
    unfold dl
    rw [hr 292 (by decide), hr 316 (by decide), hr 315 (by decide), h30]
  refine ⟨⟨hw, hn.trans h.1.2⟩, ⟨R1.mk f r1, fun a l t hE h3 => ?_⟩, ⟨r3, fun t lt hE h1 => ?_, ?_⟩, f, sz⟩
  · have e : ∀ a, a < 320 → ty a = 8 → 26 ≤ a ∧ a < 288 := by decide +kernel
    rw [hr a (Or.inl (e a l t))] at h3 ⊢
    exact h.2.1.2 a l t hE h3
  · rw [hr 301 (by decide)] at h1
    rw [hr 297 (by decide)]; exact h.2.2.1.2.1 t lt hE h1
  · rw [h39, hd]; exact h.2.2.1.2.2
theorem gi_n {H : am_H} {a k x y : Nat} {v : Int32} (h : ¬ (x = a ∧ y = k)) : am_gi (am_si H a k v) x y = am_gi H x y := if_neg h
theorem LJ.thr {N : Nat} {H : am_H} {v : Int32} (h : LJ N H) : LJ N (am_si H 288 37 v) := by
  refine h.mk2 (h.1.1.si (T := 19) (k := 37) rfl inr_any) rfl rfl (fun a ha => gi_rowne (by omega)) (gi_n (by decide)) (gi_n (by decide)) (fun b hb k => ?_) (fun k => ?_) (fun b hb => ?_)
  · rw [gi_rowne (by omega), gi_rowne (by omega)]; exact h.2.1.1.nums h.2.2.2.1 hb k
  · rw [gi_rowne (by decide), gi_rowne (by decide)]; exact h.2.2.1.1 k
  · rw [gi_rowne (by omega), gi_rowne (by decide)]; exact h.2.2.2.2 b hb
theorem LJ.body {N b : Nat} {H : am_H} (h : LJ N H) (hb : b < 8) : LJ N (am_si (am_si (am_si H (2 + 3 * b) 2 0) 288 37 0) 289 b 0) := by
  have z : inr (0, 16) (0 : Int32) := ⟨by decide, by decide⟩
  refine h.mk2 (((h.1.1.si (T := 2) (k := 2) (ty_b hb).1 z).si (T := 19) (k := 37) rfl inr_any).si (T := 20) rfl z) rfl rfl (fun a ha => ?_) ?_ ?_ (fun b' hb' k => ?_) (fun k => ?_) (fun b' hb' => ?_)
  · rw [gi_rowne (by omega), gi_rowne (by omega), gi_rowne (by omega)]
  · rw [gi_rowne (by decide), gi_n (by decide), gi_rowne (by omega)]
  · rw [gi_rowne (by decide), gi_n (by decide), gi_rowne (by omega)]
  · rw [gi_rowne (by omega), gi_rowne (by omega), gi_rowne (by omega), gi_rowne (by omega), gi_rowne (by omega), gi_rowne (by omega)]
    exact h.2.1.1.nums h.2.2.2.1 hb' k
  · rw [gi_rowne (by omega), gi_rowne (by omega), gi_rowne (by omega), gi_rowne (by omega), gi_rowne (by omega), gi_rowne (by omega)]
    exact h.2.2.1.1 k
  · by_cases q : b' = b
    · subst q
      rw [gi_set, gi_rowne (by omega), gi_rowne (by omega), gi_set]
    · rw [gi_n (by omega), gi_n (by omega), gi_n (by omega), gi_n (by omega), gi_n (by omega), gi_n (by omega)]
      exact h.2.2.2.2 b' hb'
theorem ok_tab : ∀ v, v < 17 → ((v = 2 ∨ v = 3 ∨ v = 10) → (am_t1.getD v 0).toInt = 0 ∧ (am_t2.getD v 0).toInt = 7) ∧ (v = 4 → (am_t1.getD v 0).toInt = 0 ∧ (am_t2.getD v 0).toInt = 63) ∧ ((v = 7 ∨ v = 8) → (am_t1.getD v 0).toInt = 0 ∧ (am_t2.getD v 0).toInt = 3) ∧ (v = 9 → (am_t1.getD v 0).toInt = 0 ∧ (am_t2.getD v 0).toInt = 31) ∧ (v = 11 → (am_t1.getD v 0).toInt = 0 ∧ (am_t2.getD v 0).toInt = 1) ∧ ((v = 15 ∨ v = 16) → (am_t1.getD v 0).toInt = 0 ∧ (am_t2.getD v 0).toInt = 15) := by decide +kernel
theorem ok_ins {x a : Int32} (h : ins x a) : okins x a ∧ 0 ≤ x.toInt ∧ x.toInt ≤ 16 := by
  obtain ⟨⟨h1, h2⟩, h3, h4⟩ := h
  have h1 := i_le (a := 0) (b := x.toInt) (by decide) rfl h1
  have h2 := i_le (a := x.toInt) (b := 16) rfl (by decide) h2
  have h3 := i_le rfl rfl h3
  have h4 := i_le rfl rfl h4
  have e : (x.toNatClampNeg : Int) = x.toInt := by
    have e1 : x.toNatClampNeg = x.toInt.toNat := rfl
    omega
  obtain ⟨t1, t2, t3, t4, t5, t6⟩ := ok_tab x.toNatClampNeg (by omega)
  refine ⟨⟨fun q => ?_, fun q => ?_, fun q => ?_, fun q => ?_, fun q => ?_, fun q => ?_⟩, h1, h2⟩
  · have := t1 (by omega); omega
  · have := t2 (by omega); omega
  · have := t3 (by omega); omega
  · have := t4 (by omega); omega
  · have := t5 (by omega); omega
  · have := t6 (by omega); omega
theorem LJ.add {N b : Nat} {H : am_H} {x1 x2 : Int32} (h : LJ N H) (hb : b < 8) (hi : ins x1 x2) (hs : (am_gi H (2 + 3 * b) 2).toInt < 16) : LJ N (am_si (am_si (am_si (am_si (am_si (am_si (am_si H (3 + 3 * b) (am_gi H (2 + 3 * b) 2).toNatClampNeg x1) (4 + 3 * b) (am_gi H (2 + 3 * b) 2).toNatClampNeg x2) (2 + 3 * b) 2 (am_gi H (2 + 3 * b) 2 + 1)) 288 37 0) 290 (16 * b + (am_gi H 289 b).toNatClampNeg) x1) 291 (16 * b + (am_gi H 289 b).toNatClampNeg) x2) 289 b (am_gi H 289 b + 1)) := by
  have e := h.2.2.2.2 b hb
  have s0 := sz_b h.1.1 hb
  obtain ⟨ok, o1, o2⟩ := ok_ins hi
  have ns : (am_gi H (2 + 3 * b) 2 + 1).toInt = (am_gi H (2 + 3 * b) 2).toInt + 1 := i_add rfl (by decide) (by omega) (by omega)
  have nz : inr (0, 16) (am_gi H (2 + 3 * b) 2 + 1) := mk_inr (by omega) (by omega)
  have no : inr (0, 16) x1 := ⟨o1, o2⟩
  have nm : inr (0, 16) (am_gi H 289 b + 1) := by rw [← e]; exact nz
  refine h.mk2 (((((((h.1.1.si (T := 3) (ty_b hb).2.1 no).si (T := 4) (ty_b hb).2.2 inr_any).si (T := 2) (k := 2) (ty_b hb).1 nz).si (T := 19) (k := 37) rfl inr_any).si (T := 21) rfl no).si (T := 22) rfl inr_any).si (T := 20) rfl nm) rfl rfl (fun a ha => ?_) ?_ ?_ (fun b' hb' k => ?_) (fun k => ?_) (fun b' hb' => ?_)
  · rw [gi_rowne (by omega), gi_rowne (by omega), gi_rowne (by omega), gi_rowne (by omega), gi_rowne (by omega), gi_rowne (by omega), gi_rowne (by omega)]
  · rw [gi_rowne (by decide), gi_rowne (by decide), gi_rowne (by decide), gi_n (by decide), gi_rowne (by omega), gi_rowne (by omega), gi_rowne (by omega)]
  · rw [gi_rowne (by decide), gi_rowne (by decide), gi_rowne (by decide), gi_n (by decide), gi_rowne (by omega), gi_rowne (by omega), gi_rowne (by omega)]
  · rw [gi_rowne (x := 3 + 3 * b') (a := 289) (by omega), gi_rowne (x := 3 + 3 * b') (a := 291) (by omega), gi_rowne (x := 3 + 3 * b') (a := 290) (by omega), gi_rowne (x := 3 + 3 * b') (a := 288) (by omega), gi_rowne (x := 3 + 3 * b') (a := 2 + 3 * b) (by omega), gi_rowne (x := 3 + 3 * b') (a := 4 + 3 * b) (by omega)]
    rw [gi_rowne (x := 4 + 3 * b') (a := 289) (by omega), gi_rowne (x := 4 + 3 * b') (a := 291) (by omega), gi_rowne (x := 4 + 3 * b') (a := 290) (by omega), gi_rowne (x := 4 + 3 * b') (a := 288) (by omega), gi_rowne (x := 4 + 3 * b') (a := 2 + 3 * b) (by omega)]
    by_cases q : b' = b ∧ k = (am_gi H (2 + 3 * b) 2).toNatClampNeg
    · obtain ⟨rfl, rfl⟩ := q
      rw [gi_set, gi_set]; exact ok
    · rw [gi_n (fun z => q ⟨by omega, z.2⟩), gi_n (fun z => q ⟨by omega, z.2⟩), gi_rowne (by omega)]
      exact h.2.1.1.nums h.2.2.2.1 hb' k
  · rw [gi_rowne (x := 290) (a := 289) (by decide), gi_rowne (x := 290) (a := 291) (by decide)]
    rw [gi_rowne (x := 291) (a := 289) (by decide)]
    by_cases q : k = 16 * b + (am_gi H 289 b).toNatClampNeg
    · subst q
      rw [gi_set, gi_set]; exact ok
    · rw [gi_n (fun z => q z.2), gi_n (fun z => q z.2), gi_rowne (x := 291) (a := 290) (by decide)]
      rw [gi_rowne (by decide), gi_rowne (by omega), gi_rowne (by omega), gi_rowne (by omega), gi_rowne (by decide), gi_rowne (by omega), gi_rowne (by omega), gi_rowne (by omega)]
      exact h.2.2.1.1 k
  · rw [gi_rowne (x := 2 + 3 * b') (a := 289) (by omega), gi_rowne (x := 2 + 3 * b') (a := 291) (by omega), gi_rowne (x := 2 + 3 * b') (a := 290) (by omega), gi_rowne (x := 2 + 3 * b') (a := 288) (by omega)]
    by_cases q : b' = b
    · subst q
      rw [gi_set, gi_set, e]
    · rw [gi_n (by omega), gi_n (a := 289) (by omega), gi_rowne (a := 4 + 3 * b) (x := 2 + 3 * b') (by omega), gi_rowne (a := 3 + 3 * b) (x := 2 + 3 * b') (by omega)]
      rw [gi_rowne (by decide), gi_rowne (by decide), gi_rowne (by decide), gi_rowne (by omega), gi_rowne (by omega), gi_rowne (by omega)]
      exact h.2.2.2.2 b' hb'
