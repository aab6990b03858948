/-! What holds between two calls of the law. -/
theorem ir_zero {N T k : Nat} : inr (ir N T k) 0 := by
  unfold ir
  have n1 : inr (0, (N : Int)) 0 := ⟨show (0 : Int) ≤ 0 by decide, show (0 : Int) ≤ (N : Int) by omega⟩
  have n2 : inr (0, 16 + (N : Int)) 0 := ⟨show (0 : Int) ≤ 0 by decide, show (0 : Int) ≤ 16 + (N : Int) by omega⟩
  repeat' (first | exact n1 | exact n2 | exact ⟨by decide, by decide⟩ | apply pif (P := fun p => inr p 0))
theorem ir_8 {N k : Nat} (h : k ≠ 0 ∧ k ≠ 2 ∧ k ≠ 4 ∧ k ≠ 6 ∧ k ≠ 7 ∧ k ≠ 8 ∧ k ≠ 9) : ir N 8 k = (-2147483648, 2147483647) := by
  simp [ir, h.1, h.2.1, h.2.2.1, h.2.2.2.1, h.2.2.2.2.1, h.2.2.2.2.2.1, h.2.2.2.2.2.2]
theorem ir_14 {N k : Nat} (h : k ≠ 1 ∧ k ≠ 2) : ir N 14 k = (-2147483648, 2147483647) := by simp [ir, h.1, h.2]
theorem ir_2 {N k : Nat} (h : k ≠ 2) : ir N 2 k = (-2147483648, 2147483647) := by simp [ir, h]
def cOK (N : Nat) (H : am_H) (a T : Nat) : Prop := am_sh H a = tsh T ∧ (∀ k, tr T k ≠ 99 → ∃ b, am_gr H a k = some b ∧ b < 320 ∧ ty b = tr T k) ∧ ∀ k, inr (ir N T k) (am_gi H a k)
theorem wt_of {N : Nat} {H : am_H} (hn : 320 ≤ am_nx H) (h : ∀ a, a < 320 → cOK N H a (ty a)) : wt N H := ⟨hn, fun a l => h a l⟩
theorem cOK.z {N : Nat} {H : am_H} {a T : Nat} (hs : am_sh H a = tsh T) (hr : ∀ k, tr T k = 99) (hz : ∀ k, am_gi H a k = 0) : cOK N H a T := ⟨hs, fun k hk => absurd (hr k) hk, fun k => by rw [hz k]; exact ir_zero⟩
theorem tr_nil {T : Nat} (h : T = 3 ∨ T = 4 ∨ T = 6 ∨ T = 12 ∨ T = 15 ∨ T = 16 ∨ T = 17 ∨ T = 18 ∨ 20 ≤ T) (k : Nat) : tr T k = 99 := by
  rcases h with rfl | rfl | rfl | rfl | rfl | rfl | rfl | rfl | h
  all_goals first | rfl | skip
  obtain ⟨j, rfl⟩ : ∃ j, T = j + 20 := ⟨T - 20, by omega⟩
  unfold tr
  rw [if_neg (by omega), if_neg (by omega), if_neg (by omega), if_neg (by omega), if_neg (by omega), if_neg (by omega)]
  rfl
theorem ir_any {N T k : Nat} (h : T = 0 ∨ T = 1 ∨ T = 7 ∨ T = 9 ∨ T = 10 ∨ T = 11 ∨ T = 13) : ir N T k = (-2147483648, 2147483647) := by
  rcases h with rfl | rfl | rfl | rfl | rfl | rfl | rfl <;> rfl
theorem cOK.r {N : Nat} {H : am_H} {a T : Nat} (hT : T = 0 ∨ T = 1 ∨ T = 7 ∨ T = 9 ∨ T = 10 ∨ T = 11 ∨ T = 13) (hs : am_sh H a = tsh T) (hr : ∀ k, tr T k ≠ 99 → ∃ b, am_gr H a k = some b ∧ b < 320 ∧ ty b = tr T k) : cOK N H a T := ⟨hs, hr, fun k => by rw [ir_any hT]; exact inr_any⟩
theorem ty_t {t : Nat} (ht : t < 48) : ty (29 + 5 * t) = 8 ∧ ty (30 + 5 * t) = 9 ∧ ty (31 + 5 * t) = 6 ∧ ty (32 + 5 * t) = 6 ∧ ty (33 + 5 * t) = 6 := (by decide +kernel : ∀ t, t < 48 → ty (29 + 5 * t) = 8 ∧ ty (30 + 5 * t) = 9 ∧ ty (31 + 5 * t) = 6 ∧ ty (32 + 5 * t) = 6 ∧ ty (33 + 5 * t) = 6) t ht
theorem ty_p {p : Nat} (hp : p < 2) : ty (270 + 4 * p) = 11 ∧ ty (271 + 4 * p) = 12 ∧ ty (272 + 4 * p) = 12 ∧ ty (273 + 4 * p) = 12 := (by decide +kernel : ∀ p, p < 2 → ty (270 + 4 * p) = 11 ∧ ty (271 + 4 * p) = 12 ∧ ty (272 + 4 * p) = 12 ∧ ty (273 + 4 * p) = 12) p hp
theorem ty_w {w : Nat} (hw : w < 3) : ty (279 + 2 * w) = 14 ∧ ty (280 + 2 * w) = 15 := (by decide +kernel : ∀ w, w < 3 → ty (279 + 2 * w) = 14 ∧ ty (280 + 2 * w) = 15) w hw
theorem ty_r {i : Nat} (hi : i < 30) : ty (289 + i) = 20 + i := (by decide +kernel : ∀ i, i < 30 → ty (289 + i) = 20 + i) i hi
theorem ty_b {b : Nat} (hb : b < 8) : ty (2 + 3 * b) = 2 ∧ ty (3 + 3 * b) = 3 ∧ ty (4 + 3 * b) = 4 := (by decide : ∀ b, b < 8 → ty (2 + 3 * b) = 2 ∧ ty (3 + 3 * b) = 3 ∧ ty (4 + 3 * b) = 4) b hb
theorem tsh_r {i : Nat} (hi : i < 30) : mk_tb7.getD i (0, 0) = tsh (20 + i) := (by decide +kernel : ∀ i, i < 30 → mk_tb7.getD i (0, 0) = tsh (20 + i)) i hi
theorem nI_rng {t : Nat} (ht : t < 48) : 0 ≤ (nI t).toInt ∧ (nI t).toInt ≤ 47 := by
  have e : (nI t).toInt = (t : Int) := Int32.toInt_ofNat_of_lt (by omega)
  omega
theorem ix_lt {k n : Nat} {T T' : Nat} (e : tr T k = if k < n then T' else 99) (h : tr T k ≠ 99) : k < n := by
  by_cases q : k < n
  · exact q
  · rw [e, if_neg q] at h; exact absurd rfl h
theorem wt_start {H : am_H} (f : fz H) (m : mz H) (s : am_sh H 319 = (102, 1)) : wt 0 H := by
  refine wt_of m.1 (fun a l => ?_)
  have hB : ∀ b, b < 8 → cOK 0 H (2 + 3 * b) 2 ∧ cOK 0 H (3 + 3 * b) 3 ∧ cOK 0 H (4 + 3 * b) 4 := fun b hb => by
    obtain ⟨b1, b2, b3, b4, b5, b6, b7, b8⟩ := f.lb hb
    refine ⟨⟨b1, fun k hk => ?_, fun k => ?_⟩, .z b5 (tr_nil (by decide)) b7.2, .z b6 (tr_nil (by decide)) b8.2⟩
    · match k, hk with
      | 0, _ => exact ⟨_, b2, by omega, (ty_b hb).2.1⟩
      | 1, _ => exact ⟨_, b3, by omega, (ty_b hb).2.2⟩
      | k + 2, hk => exact absurd rfl hk
    · by_cases q : k = 2
      · subst q; rw [b4]; exact ir_zero
      · rw [ir_2 q]; exact inr_any
  have hT : ∀ t, t < 48 → cOK 0 H (29 + 5 * t) 8 ∧ cOK 0 H (30 + 5 * t) 9 ∧ ∀ i, i < 3 → cOK 0 H (31 + 5 * t + i) 6 := fun t ht => by
    obtain ⟨b1, b2, b3, b4, ⟨c1, c2, c3, c4, c5, c6, c7⟩, b5, b6⟩ := f.lT ht
    have y := ty_t ht
    have yi : ∀ i, i < 3 → ty (31 + 5 * t + i) = 6 := fun i hi => by
      rcases (by omega : i = 0 ∨ i = 1 ∨ i = 2) with rfl | rfl | rfl
      · exact y.2.2.1
      · rw [show 31 + 5 * t + 1 = 32 + 5 * t by omega]; exact y.2.2.2.1
      · rw [show 31 + 5 * t + 2 = 33 + 5 * t by omega]; exact y.2.2.2.2
    refine ⟨⟨b1, fun k hk => ?_, fun k => ?_⟩, .r (by decide) b5 (fun k hk => ?_), fun i hi => .z (b6 i hi).2.1 (tr_nil (by decide)) (b6 i hi).2.2.2⟩
    · match k, hk with
      | 0, hk => exact absurd rfl hk
      | 1, _ => exact ⟨_, b3, by omega, y.2.1⟩
      | 2, hk => exact absurd rfl hk
      | 3, _ => exact ⟨27, b4, by omega, rfl⟩
      | k + 4, hk => exact absurd rfl hk
    · by_cases q0 : k = 0
      · subst q0; rw [b2]; exact mk_inr (nI_rng ht).1 (nI_rng ht).2
      by_cases q2 : k = 2
      · subst q2; rw [c1]; exact ir_zero
      by_cases q4 : k = 4
      · subst q4; rw [c2]; exact ir_zero
      by_cases q6 : k = 6
      · subst q6; rw [c4]; exact ir_zero
      by_cases q7 : k = 7
      · subst q7; rw [c5]; exact ir_zero
      by_cases q8 : k = 8
      · subst q8; rw [c6]; exact ir_zero
      by_cases q9 : k = 9
      · subst q9; rw [c7]; exact ir_zero
      rw [ir_8 ⟨q0, q2, q4, q6, q7, q8, q9⟩]; exact inr_any
    · have hk3 := ix_lt (n := 3) (T' := 6) rfl hk
      exact ⟨_, (b6 k hk3).1, by omega, (yi k hk3).trans (if_pos hk3).symm⟩
  have hP : ∀ p, p < 2 → cOK 0 H (270 + 4 * p) 11 ∧ ∀ i, i < 3 → cOK 0 H (271 + 4 * p + i) 12 := fun p hp => by
    obtain ⟨b1, b2, b3⟩ := f.lP hp
    have y := ty_p hp
    refine ⟨.r (by decide) b1 (fun k hk => ?_), fun i hi => .z (b3 i hi).2.1 (tr_nil (by decide)) (b3 i hi).2.2.2⟩
    match k, hk with
    | 0, hk => exact absurd rfl hk
    | 1, _ => exact ⟨_, (b3 0 (by decide)).1, by omega, y.2.1⟩
    | 2, _ => exact ⟨_, (b3 1 (by decide)).1, by omega, by rw [show 271 + 4 * p + 1 = 272 + 4 * p by omega]; exact y.2.2.1⟩
    | 3, _ => exact ⟨_, (b3 2 (by decide)).1, by omega, by rw [show 271 + 4 * p + 2 = 273 + 4 * p by omega]; exact y.2.2.2⟩
    | k + 4, hk => exact absurd rfl hk
  have hW : ∀ w, w < 3 → cOK 0 H (279 + 2 * w) 14 ∧ cOK 0 H (280 + 2 * w) 15 := fun w hw => by
    obtain ⟨b1, b2, b3, b4, b5, b6⟩ := f.lW hw
    refine ⟨⟨b1, fun k hk => ?_, fun k => ?_⟩, .z b5 (tr_nil (by decide)) b6.2⟩
    · match k, hk with
      | 0, _ => exact ⟨_, b2, by omega, (ty_w hw).2⟩
      | k + 1, hk => exact absurd rfl hk
    · by_cases q1 : k = 1
      · subst q1; rw [b3]; exact ir_zero
      by_cases q2 : k = 2
      · subst q2; rw [b4]; exact mk_inr (by decide) (by decide)
      rw [ir_14 ⟨q1, q2⟩]; exact inr_any
  have hyi : ∀ t i, t < 48 → i < 3 → ty (31 + 5 * t + i) = 6 := fun t i ht hi => by
    have y := ty_t ht
    rcases (by omega : i = 0 ∨ i = 1 ∨ i = 2) with rfl | rfl | rfl
    · exact y.2.2.1
    · rw [show 31 + 5 * t + 1 = 32 + 5 * t by omega]; exact y.2.2.2.1
    · rw [show 31 + 5 * t + 2 = 33 + 5 * t by omega]; exact y.2.2.2.2
  have hpi : ∀ p i, p < 2 → i < 3 → ty (271 + 4 * p + i) = 12 := fun p i hp hi => by
    have y := ty_p hp
    rcases (by omega : i = 0 ∨ i = 1 ∨ i = 2) with rfl | rfl | rfl
    · exact y.2.1
    · rw [show 271 + 4 * p + 1 = 272 + 4 * p by omega]; exact y.2.2.1
    · rw [show 271 + 4 * p + 2 = 273 + 4 * p by omega]; exact y.2.2.2
  by_cases a0 : a = 0
  · subst a0
    refine .r (by decide) f.s0 (fun k hk => ?_)
    match k, hk with
    | 0, _ => exact ⟨1, f.r00, by decide, rfl⟩
    | 1, _ => exact ⟨26, f.r01, by decide, rfl⟩
    | k + 2, hk => exact absurd rfl hk
  by_cases a1 : a = 1
  · subst a1
    refine .r (by decide) f.s1 (fun k hk => ?_)
    have hk8 := ix_lt (n := 8) (T' := 2) rfl hk
    exact ⟨_, f.r1 hk8, by omega, (ty_b hk8).1.trans (if_pos hk8).symm⟩
  by_cases a26 : a < 26
  · have hb : (a - 2) / 3 < 8 := by omega
    rcases (by omega : a = 2 + 3 * ((a - 2) / 3) ∨ a = 3 + 3 * ((a - 2) / 3) ∨ a = 4 + 3 * ((a - 2) / 3)) with e | e | e
    · rw [e, (ty_b hb).1]; exact (hB _ hb).1
    · rw [e, (ty_b hb).2.1]; exact (hB _ hb).2.1
    · rw [e, (ty_b hb).2.2]; exact (hB _ hb).2.2
  by_cases b26 : a = 26
  · subst b26
    refine ⟨f.s26, fun k hk => ?_, fun k => by rw [f.i26 k]; exact ir_zero⟩
    match k, hk with
    | 0, _ => exact ⟨1, f.zd.1.1.1.2.1, by decide, rfl⟩
    | 1, _ => exact ⟨28, f.r26_1, by decide, rfl⟩
    | 2, hk => exact absurd rfl hk
    | 3, _ => exact ⟨27, f.r26_3, by decide, rfl⟩
    | 4, _ => exact ⟨269, f.r26_4, by decide, rfl⟩
    | 5, _ => exact ⟨278, f.r26_5, by decide, rfl⟩
    | 6, hk => exact absurd rfl hk
    | 7, hk => exact absurd rfl hk
    | 8, _ => exact ⟨285, f.r26_8, by decide, rfl⟩
    | 9, _ => exact ⟨286, f.r26_9, by decide, rfl⟩
    | 10, _ => exact ⟨287, f.r26_10, by decide, rfl⟩
    | k + 11, hk => exact absurd rfl hk
  by_cases b27 : a = 27
  · subst b27; exact .z f.s27 (tr_nil (by decide)) f.z27.2
  by_cases b28 : a = 28
  · subst b28
    refine .r (by decide) f.s28 (fun k hk => ?_)
    have hk8 := ix_lt (n := 48) (T' := 8) rfl hk
    exact ⟨_, f.r28 hk8, by omega, (ty_t hk8).1.trans (if_pos hk8).symm⟩
  by_cases c269 : a < 269
  · have ht : (a - 29) / 5 < 48 := by omega
    rcases (by omega : a = 29 + 5 * ((a - 29) / 5) ∨ a = 30 + 5 * ((a - 29) / 5) ∨ (a = 31 + 5 * ((a - 29) / 5) + ((a - 29) % 5 - 2) ∧ (a - 29) % 5 - 2 < 3)) with e | e | ⟨e, e3⟩
    · rw [e, (ty_t ht).1]; exact (hT _ ht).1
    · rw [e, (ty_t ht).2.1]; exact (hT _ ht).2.1
    · rw [e, hyi _ _ ht e3]; exact (hT _ ht).2.2 _ e3
  by_cases d269 : a = 269
  · subst d269
    refine .r (by decide) f.s269 (fun k hk => ?_)
    have hk8 := ix_lt (n := 2) (T' := 11) rfl hk
    exact ⟨_, f.r269 hk8, by omega, (ty_p hk8).1.trans (if_pos hk8).symm⟩
  by_cases c278 : a < 278
  · have hp : (a - 270) / 4 < 2 := by omega
    rcases (by omega : a = 270 + 4 * ((a - 270) / 4) ∨ (a = 271 + 4 * ((a - 270) / 4) + ((a - 270) % 4 - 1) ∧ (a - 270) % 4 - 1 < 3)) with e | ⟨e, e3⟩
    · rw [e, (ty_p hp).1]; exact (hP _ hp).1
    · rw [e, hpi _ _ hp e3]; exact (hP _ hp).2 _ e3
  by_cases d278 : a = 278
  · subst d278
    refine .r (by decide) f.s278 (fun k hk => ?_)
    have hk8 := ix_lt (n := 3) (T' := 14) rfl hk
    exact ⟨_, f.r278 hk8, by omega, (ty_w hk8).1.trans (if_pos hk8).symm⟩
  by_cases c285 : a < 285
  · have hw : (a - 279) / 2 < 3 := by omega
    rcases (by omega : a = 279 + 2 * ((a - 279) / 2) ∨ a = 280 + 2 * ((a - 279) / 2)) with e | e
    · rw [e, (ty_w hw).1]; exact (hW _ hw).1
    · rw [e, (ty_w hw).2]; exact (hW _ hw).2
  by_cases d285 : a = 285
  · subst d285; exact .z f.s285 (tr_nil (by decide)) f.z285.2
  by_cases d286 : a = 286
  · subst d286; exact .z f.s286 (tr_nil (by decide)) f.z286.2
  by_cases d287 : a = 287
  · subst d287; exact .z f.s287 (tr_nil (by decide)) f.z287.2
  by_cases d288 : a = 288
  · subst d288
    refine ⟨m.s, fun k hk => ?_, fun k => by rw [m.i k]; exact ir_zero⟩
    have hk8 := ix_lt (n := 30) (T' := 20 + k) rfl hk
    exact ⟨_, m.r hk8, by omega, (ty_r hk8).trans (if_pos hk8).symm⟩
  by_cases c319 : a < 319
  · have hi : a - 289 < 30 := by omega
    have e : a = 289 + (a - 289) := by omega
    rw [e, ty_r hi]
    exact .z ((m.a hi).trans (tsh_r hi)) (tr_nil (by omega)) (m.z hi).2
  obtain rfl : a = 319 := by omega
  exact ⟨s, fun k hk => absurd (tr_nil (by decide) k) hk, fun k => by rw [show ir 0 (ty 319) k = (-2147483648, 2147483647) from rfl]; exact inr_any⟩
def FB (H : am_H) : Prop := am_gr H 0 0 = some 1 ∧ ∀ b, b < 8 → am_gr H 1 b = some (2 + 3 * b) ∧ am_gr H (2 + 3 * b) 0 = some (3 + 3 * b) ∧ am_gr H (2 + 3 * b) 1 = some (4 + 3 * b)
def LJ (N : Nat) (H : am_H) : Prop := (wt N H ∧ am_nx H = 320) ∧ (R1 H ∧ R2 320 H) ∧ (R3 H ∧ R4 320 H ∧ (am_gi H 288 39 = 0 ∨ 0 ≤ dl H)) ∧ FB H ∧ ∀ b, b < 8 → am_gi H (2 + 3 * b) 2 = am_gi H 289 b
theorem okins_0 : okins 0 0 := by
  have z : (0 : Int32).toInt = 0 := by decide
  unfold okins; rw [z]; omega
theorem LJ.start {H : am_H} (f : fz H) (m : mz H) (s : am_sh H 319 = (102, 1)) (n : am_nx H = 320) : LJ 0 H := by
  refine ⟨⟨wt_start f m s, n⟩, ⟨fun a l t => ?_, fun a l t _ h3 => ?_⟩, ⟨fun k => ?_, fun t _ _ h1 => ?_, Or.inl (m.i 39)⟩, ⟨f.r00, fun b hb => ⟨f.r1 hb, (f.lb hb).2.1, (f.lb hb).2.2.1⟩⟩, fun b hb => ?_⟩
  · have e : ∀ a, a < 320 → ty a = 2 → a = 2 + 3 * ((a - 2) / 3) ∧ (a - 2) / 3 < 8 := by decide +kernel
    obtain ⟨e1, hb⟩ := e a l t
    rw [e1]
    obtain ⟨b1, b2, b3, b4, b5, b6, b7, b8⟩ := f.lb hb
    exact ⟨_, _, b2, b3, ⟨by omega, (ty_b hb).2.1⟩, ⟨by omega, (ty_b hb).2.2⟩, fun k => by rw [b7.2, b8.2]; exact okins_0⟩
  · have e : ∀ a, a < 320 → ty a = 8 → a = 29 + 5 * ((a - 29) / 5) ∧ (a - 29) / 5 < 48 := by decide +kernel
    obtain ⟨e1, ht⟩ := e a l t
    rw [e1, (f.lT ht).2.2.2.2.1.2.2.2.2.2.1] at h3
    exact absurd h3 (by decide)
  · rw [(m.z (i := 1) (by decide)).2, (m.z (i := 2) (by decide)).2]; exact okins_0
  · rw [(m.z (i := 12) (by decide)).2] at h1; exact absurd h1 (by decide)
  · rw [(f.lb hb).2.2.2.1, (m.z (i := 0) (by decide)).2]
section
variable {N N' : Nat} {H H1 : am_H}
theorem LJ.toc (h : LJ N H) : jc N H 320 H := ⟨h.1.1, h.2.1.2, rfl, rfl, fun _ _ _ => rfl, fun _ _ _ => rfl⟩
theorem LJ.tom (h : LJ N H) : jm N H 320 H := ⟨h.1.1, h.2.2.1.2.1, rfl, rfl, rfl, fun _ _ _ => rfl⟩
theorem FB.of (h : FB H) (e : ∀ a, a < 320 → ty a ≤ 2 → am_gr H1 a = am_gr H a) : FB H1 := by
  refine ⟨by rw [e 0 (by decide) (by decide)]; exact h.1, fun b hb => ?_⟩
  rw [e 1 (by decide) (by decide), e (2 + 3 * b) (by omega) (by rw [(ty_b hb).1]; decide)]
  exact h.2 b hb
theorem LJ.ofc (h : LJ N H) (k : jc N' H 320 H1) : LJ N' H1 := by
  have row : ∀ a, a < 320 → 19 ≤ ty a → am_gi H1 a = am_gi H a := fun a l t => k.2.2.2.2.2 a l (Or.inr t)
  refine ⟨⟨k.1, k.nx.trans h.1.2⟩, ⟨fun a l t => ?_, k.2.1⟩, ⟨fun j => ?_, fun t lt hE h1 => ?_, ?_⟩, h.2.2.2.1.of k.2.2.2.2.1, fun b hb => ?_⟩
  · obtain ⟨o, g, h1, h2, h3, h4, h5⟩ := h.2.1.1 a l t
    refine ⟨o, g, by rw [k.rr l (by omega)]; exact h1, by rw [k.rr l (by omega)]; exact h2, h3, h4, fun k' => ?_⟩
    rw [k.row h3.1 h3.2 (by decide), k.row h4.1 h4.2 (by decide)]; exact h5 k'
  · rw [row 290 (by decide) (by decide), row 291 (by decide) (by decide)]; exact h.2.2.1.1 j
  · rw [row 301 (by decide) (by decide)] at h1
    rw [row 297 (by decide) (by decide)]; exact h.2.2.1.2.1 t lt hE h1
  · rw [row 288 (by decide) (by decide), dl_rows (row 292 (by decide) (by decide)) (row 316 (by decide) (by decide)) (row 315 (by decide) (by decide)) (row 288 (by decide) (by decide))]
    exact h.2.2.1.2.2
  · rw [row 289 (by decide) (by decide), k.row (a := 2 + 3 * b) (T := 2) (by omega) (ty_b hb).1 (by decide)]
    exact h.2.2.2.2 b hb
theorem LJ.ofm (h : LJ N H) (k : jm N' H 320 H1) (hd : am_gi H1 288 39 = 0 ∨ 0 ≤ dl H1) : LJ N' H1 := by
  have row : ∀ a, a < 320 → (ty a < 19 ∨ 20 ≤ ty a ∧ ty a ≤ 22) → am_gi H1 a = am_gi H a := fun a l t => k.2.2.2.2.2 a l t
  have rr : am_gr H1 = am_gr H := k.2.2.2.2.1
  refine ⟨⟨k.1, k.nx.trans h.1.2⟩, ⟨fun a l t => ?_, fun a l t hE h3 => ?_⟩, ⟨fun j => ?_, k.2.1, hd⟩, ?_, fun b hb => ?_⟩
  · obtain ⟨o, g, h1, h2, h3, h4, h5⟩ := h.2.1.1 a l t
    refine ⟨o, g, by rw [rr]; exact h1, by rw [rr]; exact h2, h3, h4, fun k' => ?_⟩
    rw [row o h3.1 (by rw [h3.2]; decide), row g h4.1 (by rw [h4.2]; decide)]; exact h5 k'
  · rw [row a l (by rw [t]; decide)] at h3 ⊢
    exact h.2.1.2 a l t hE h3
  · rw [row 290 (by decide) (by decide), row 291 (by decide) (by decide)]; exact h.2.2.1.1 j
  · exact h.2.2.2.1.of (fun a _ _ => by rw [rr])
  · rw [row 289 (by decide) (by decide), row (2 + 3 * b) (by omega) (by rw [(ty_b hb).1]; decide)]
    exact h.2.2.2.2 b hb
theorem LJ.up (h : LJ N H) (hN : N ≤ N') : LJ N' H := ⟨⟨h.1.1.up hN, h.1.2⟩, h.2⟩
theorem LJ.sl {v : Int64} (h : LJ N H) : LJ N (am_sl H 319 0 v) := h
theorem LJ.ga {a b : Nat} (h : LJ N H) : LJ N (am_ga H a b) := h
end
