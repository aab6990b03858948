/-! The heap behind a change, by name. -/
section AMG
variable {c : Nat} {ox : List (Nat × (Nat → Int32))} {d : Nat} {M : am_M} {pc : Nat} {lv : List (Nat × Value)} {st : List Value} {H : am_H} {P : Option Value ⊕ String → am_H → Prop}
theorem ae_gen {H1 : am_H} (k : ∀ H2 : am_H, H2 = H1 → am_EB c ox d M pc lv st H2 P) : am_EB c ox d M pc lv st H1 P := k H1 rfl
theorem sh_nw {k n a : Nat} {z : Nat × Nat} (h : am_sh H a = z) (ha : a < am_nx H) : am_sh (am_nw H k n) a = z := (va_up_ne _ _ (Nat.ne_of_lt ha)).trans h
theorem gr_nw {k n a i : Nat} {z : Option Nat} (h : am_gr H a i = z) (ha : a < am_nx H) : am_gr (am_nw H k n) a i = z := (if_neg (Nat.ne_of_lt ha)).trans h
theorem gi_nw {k n a i : Nat} {z : Int32} (h : am_gi H a i = z) (ha : a < am_nx H) : am_gi (am_nw H k n) a i = z := (if_neg (Nat.ne_of_lt ha)).trans h
theorem gr_fresh {k n i : Nat} : am_gr (am_nw H k n) (am_nx H) i = none := if_pos rfl
theorem gi_fresh {k n i : Nat} : am_gi (am_nw H k n) (am_nx H) i = 0 := if_pos rfl
theorem gr_sr {a k x y : Nat} {v z : Option Nat} (h : am_gr H x y = z) (hn : ¬ (x = a ∧ y = k)) : am_gr (am_sr H a k v) x y = z := (if_neg hn).trans h
theorem gr_set {a k : Nat} {v : Option Nat} : am_gr (am_sr H a k v) a k = v := if_pos ⟨rfl, rfl⟩
theorem gi_si {a k x y : Nat} {v z : Int32} (h : am_gi H x y = z) (hn : ¬ (x = a ∧ y = k)) : am_gi (am_si H a k v) x y = z := (if_neg hn).trans h
theorem gi_set {a k : Nat} {v : Int32} : am_gi (am_si H a k v) a k = v := if_pos ⟨rfl, rfl⟩
/-- all that stood below n stands as it stood, but for the object a -/
def am_Same (a n : Nat) (H H1 : am_H) : Prop := ∀ x, x < n → x ≠ a → am_sh H1 x = am_sh H x ∧ am_gr H1 x = am_gr H x ∧ am_gi H1 x = am_gi H x ∧ am_gl H1 x = am_gl H x
theorem am_Same.rf {a n : Nat} : am_Same a n H H := fun _ _ _ => ⟨rfl, rfl, rfl, rfl⟩
theorem am_Same.nw {a n k m : Nat} {H0 : am_H} (h : am_Same a n H0 H) (hn : n ≤ am_nx H) : am_Same a n H0 (am_nw H k m) := fun x hx hne => by
  obtain ⟨h1, h2, h3, h4⟩ := h x hx hne
  have hx' : x ≠ am_nx H := by omega
  exact ⟨(va_up_ne _ _ hx').trans h1, (funext fun y => if_neg hx' : am_gr (am_nw H k m) x = am_gr H x).trans h2, (funext fun y => if_neg hx' : am_gi (am_nw H k m) x = am_gi H x).trans h3, (funext fun y => if_neg hx' : am_gl (am_nw H k m) x = am_gl H x).trans h4⟩
theorem am_Same.sr {a n b k : Nat} {v : Option Nat} {H0 : am_H} (h : am_Same a n H0 H) (hb : b = a ∨ n ≤ b) : am_Same a n H0 (am_sr H b k v) := fun x hx hne => by
  obtain ⟨h1, h2, h3, h4⟩ := h x hx hne
  exact ⟨h1, (funext fun y => if_neg (fun q => by have := q.1; omega) : am_gr (am_sr H b k v) x = am_gr H x).trans h2, h3, h4⟩
theorem am_Same.si {a n b k : Nat} {v : Int32} {H0 : am_H} (h : am_Same a n H0 H) (hb : b = a ∨ n ≤ b) : am_Same a n H0 (am_si H b k v) := fun x hx hne => by
  obtain ⟨h1, h2, h3, h4⟩ := h x hx hne
  exact ⟨h1, h2, (funext fun y => if_neg (fun q => by have := q.1; omega) : am_gi (am_si H b k v) x = am_gi H x).trans h3, h4⟩
theorem am_Same.trans {a n b m : Nat} {H0 H1 : am_H} (h : am_Same a n H0 H) (h2 : am_Same b m H H1) (hb : b = a ∨ n ≤ b) (hm : n ≤ m) : am_Same a n H0 H1 := fun x hx hne => by
  obtain ⟨p1, p2, p3, p4⟩ := h x hx hne
  obtain ⟨q1, q2, q3, q4⟩ := h2 x (by omega) (by omega)
  exact ⟨q1.trans p1, q2.trans p2, q3.trans p3, q4.trans p4⟩
theorem am_okr {b n : Nat} (h : b < n) : am_ok n (.ref b) := Or.inl h
end AMG
set_option maxRecDepth 100000 in
set_option maxHeartbeats 4000000 in
theorem e_X3_init {ox : List (Nat × (Nat → Int32))} {d a : Nat} {H : am_H} : am_D ox (d + 1) yX3_init mX3_init [.ref a] H (fun o H1 => o = .inl none ∧ H1 = H) := by
  refine ae_enter rfl rfl rfl rfl (Nat.le_of_ble_eq_true rfl) ?_
  show am_E ox (d + 1) mX3_init 0 [(0, .ref a)] [] H _
  refine ae_aload_n (q := 1) dX3_init_0 rfl rfl rfl ?_
  refine ae_objInit (q := 4) dX3_init_1 (Nat.succ_le_succ (Nat.zero_le _)) lk_X3_3 im_obj cd_obj (by decide) rfl ?_
  refine ae_vret dX3_init_4 rfl ?_
  exact ⟨rfl, rfl⟩
set_option maxRecDepth 100000 in
set_option maxHeartbeats 4000000 in
theorem e_X0_init {ox : List (Nat × (Nat → Int32))} {d n a : Nat} {H : am_H} (hn0 : am_nx H = n) (hN : n ≤ 900000) (ha : a < n) (hs0_a : am_sh H a = (0, am_Nf 0)) (hg0_a_2 : am_gi H a 2 = 0) : am_D ox (d + 1) yX0_init mX0_init [.ref a] H (fun o H1 => o = .inl none ∧ am_nx H1 = n + 2 ∧ am_Same a n H H1 ∧ am_sh H1 a = (0, am_Nf 0) ∧ am_gr H1 a 0 = some n ∧ am_gr H1 a 1 = some (n + 1) ∧ am_gi H1 a 2 = 0 ∧ am_sh H1 n = (100, 16) ∧ am_sh H1 (n + 1) = (100, 16) ∧ ((∀ i, am_gr H1 (n) i = none) ∧ ∀ i, am_gi H1 (n) i = 0) ∧ ((∀ i, am_gr H1 (n + 1) i = none) ∧ ∀ i, am_gi H1 (n + 1) i = 0)) := by
  have hm0 : am_Same a n H H := am_Same.rf
  refine ae_enter rfl rfl rfl rfl (Nat.le_of_ble_eq_true rfl) ?_
  show am_E ox (d + 1) mX0_init 0 [(0, .ref a)] [] H _
  refine ae_aload_n (q := 1) dX0_init_0 rfl rfl rfl ?_
  refine ae_objInit (q := 4) dX0_init_1 (Nat.succ_le_succ (Nat.zero_le _)) lk_X0_3 im_obj cd_obj (by decide) rfl ?_
  refine ae_aload_n (q := 5) dX0_init_4 rfl rfl rfl ?_
  refine ae_bipush (v := 16) (q := 7) dX0_init_5 (by decide) rfl ?_
  refine ae_newI (N := 16) (q := 9) dX0_init_7 ac_int (by decide) (by decide) (by decide) (by intro x hx; simp only [List.mem_cons, List.not_mem_nil, or_false] at hx; rcases hx with rfl <;> first | trivial | exact am_okr (by omega)) (by intro x hx; simp only [List.mem_cons, List.not_mem_nil, or_false] at hx; rcases hx with rfl <;> first | trivial | exact am_okr (by omega)) (by rw [hn0]; omega) rfl ?_
  rw [hn0]
  refine ae_gen (fun H1 e1 => ?_)
  have hn1 : am_nx H1 = n + 1 := by rw [e1]; show am_nx H + 1 = _; rw [hn0]
  have hm1 : am_Same a n H H1 := by rw [e1]; exact hm0.nw (by rw [hn0]; omega)
  have hs1_a : am_sh H1 a = (0, am_Nf 0) := by rw [e1]; exact sh_nw hs0_a (by rw [hn0]; omega)
  have hg1_a_2 : am_gi H1 a 2 = 0 := by rw [e1]; exact gi_nw hg0_a_2 (by rw [hn0]; omega)
  have hs1_n : am_sh H1 n = (100, 16) := by rw [e1, ← hn0]; exact am_sh_nw
  have hz1 : (∀ i, am_gr H1 n i = none) ∧ ∀ i, am_gi H1 n i = 0 := by rw [e1, ← hn0]; exact ⟨fun _ => gr_fresh, fun _ => gi_fresh⟩
  have hz1_n := hz1
  refine ae_putF (q := 12) dX0_init_9 fl_X0_9 rfl rfl (fun r h => by cases h; rfl) (fun _ => rfl) (fun _ => rfl) hs1_a (by rw [hn1]; omega) (by rw [hn1]; omega) rfl ?_
  refine ae_gen (fun H2 e2 => ?_)
  have hn2 : am_nx H2 = n + 1 := by rw [e2]; exact hn1
  have hm2 : am_Same a n H H2 := by rw [e2]; exact hm1.sr (by omega)
  have hs2_a : am_sh H2 a = (0, am_Nf 0) := by rw [e2]; exact hs1_a
  have hg2_a_2 : am_gi H2 a 2 = 0 := by rw [e2]; exact hg1_a_2
  have hs2_n : am_sh H2 n = (100, 16) := by rw [e2]; exact hs1_n
  have hf2_a_0 : am_gr H2 a 0 = some n := by rw [e2]; exact gr_set
  have hz2_n : (∀ i, am_gr H2 n i = none) ∧ ∀ i, am_gi H2 n i = 0 := by rw [e2]; exact ⟨fun i => gr_sr (hz1_n.1 i) (by omega), hz1_n.2⟩
  refine ae_aload_n (q := 13) dX0_init_12 rfl rfl rfl ?_
  refine ae_bipush (v := 16) (q := 15) dX0_init_13 (by decide) rfl ?_
  refine ae_newI (N := 16) (q := 17) dX0_init_15 ac_int (by decide) (by decide) (by decide) (by intro x hx; simp only [List.mem_cons, List.not_mem_nil, or_false] at hx; rcases hx with rfl <;> first | trivial | exact am_okr (by omega)) (by intro x hx; simp only [List.mem_cons, List.not_mem_nil, or_false] at hx; rcases hx with rfl <;> first | trivial | exact am_okr (by omega)) (by rw [hn2]; omega) rfl ?_
  rw [hn2]
  refine ae_gen (fun H3 e3 => ?_)
  have hn3 : am_nx H3 = n + 2 := by rw [e3]; show am_nx H2 + 1 = _; rw [hn2]
  have hm3 : am_Same a n H H3 := by rw [e3]; exact hm2.nw (by rw [hn2]; omega)
  have hs3_a : am_sh H3 a = (0, am_Nf 0) := by rw [e3]; exact sh_nw hs2_a (by rw [hn2]; omega)
  have hf3_a_0 : am_gr H3 a 0 = some n := by rw [e3]; exact gr_nw hf2_a_0 (by rw [hn2]; omega)
  have hg3_a_2 : am_gi H3 a 2 = 0 := by rw [e3]; exact gi_nw hg2_a_2 (by rw [hn2]; omega)
  have hs3_n : am_sh H3 n = (100, 16) := by rw [e3]; exact sh_nw hs2_n (by rw [hn2]; omega)
  have hs3_n1 : am_sh H3 (n + 1) = (100, 16) := by rw [e3, ← hn2]; exact am_sh_nw
  have hz3 : (∀ i, am_gr H3 (n + 1) i = none) ∧ ∀ i, am_gi H3 (n + 1) i = 0 := by rw [e3, ← hn2]; exact ⟨fun _ => gr_fresh, fun _ => gi_fresh⟩
  have hz3_n : (∀ i, am_gr H3 n i = none) ∧ ∀ i, am_gi H3 n i = 0 := by rw [e3]; exact ⟨fun i => gr_nw (hz2_n.1 i) (by rw [hn2]; omega), fun i => gi_nw (hz2_n.2 i) (by rw [hn2]; omega)⟩
  have hz3_n1 := hz3
  refine ae_putF (q := 20) dX0_init_17 fl_X0_15 rfl rfl (fun r h => by cases h; rfl) (fun _ => rfl) (fun _ => rfl) hs3_a (by rw [hn3]; omega) (by rw [hn3]; omega) rfl ?_
  refine ae_gen (fun H4 e4 => ?_)
  have hn4 : am_nx H4 = n + 2 := by rw [e4]; exact hn3
  have hm4 : am_Same a n H H4 := by rw [e4]; exact hm3.sr (by omega)
  have hs4_a : am_sh H4 a = (0, am_Nf 0) := by rw [e4]; exact hs3_a
  have hf4_a_0 : am_gr H4 a 0 = some n := by rw [e4]; exact gr_sr hf3_a_0 (by omega)
  have hg4_a_2 : am_gi H4 a 2 = 0 := by rw [e4]; exact hg3_a_2
  have hs4_n : am_sh H4 n = (100, 16) := by rw [e4]; exact hs3_n
  have hs4_n1 : am_sh H4 (n + 1) = (100, 16) := by rw [e4]; exact hs3_n1
  have hf4_a_1 : am_gr H4 a 1 = some (n + 1) := by rw [e4]; exact gr_set
  have hz4_n : (∀ i, am_gr H4 n i = none) ∧ ∀ i, am_gi H4 n i = 0 := by rw [e4]; exact ⟨fun i => gr_sr (hz3_n.1 i) (by omega), hz3_n.2⟩
  have hz4_n1 : (∀ i, am_gr H4 (n + 1) i = none) ∧ ∀ i, am_gi H4 (n + 1) i = 0 := by rw [e4]; exact ⟨fun i => gr_sr (hz3_n1.1 i) (by omega), hz3_n1.2⟩
  refine ae_vret dX0_init_20 rfl ?_
  exact ⟨rfl, hn4, hm4, hs4_a, hf4_a_0, hf4_a_1, hg4_a_2, hs4_n, hs4_n1, hz4_n, hz4_n1⟩
set_option maxRecDepth 100000 in
set_option maxHeartbeats 4000000 in
theorem e_X1_init {ox : List (Nat × (Nat → Int32))} {d n a : Nat} {H : am_H} (hn0 : am_nx H = n) (hN : n ≤ 900000) (ha : a < n) (hs0_a : am_sh H a = (1, am_Nf 1)) (hg0_a_0 : am_gi H a 0 = 0) : am_D ox (d + 1) yX1_init mX1_init [.ref a] H (fun o H1 => o = .inl none ∧ am_nx H1 = n + 3 ∧ am_Same a n H H1 ∧ am_sh H1 a = (1, am_Nf 1) ∧ am_gi H1 a 0 = 0 ∧ am_gr H1 a 1 = some n ∧ am_gr H1 a 2 = some (n + 1) ∧ am_gr H1 a 3 = some (n + 2) ∧ am_sh H1 n = (100, 48) ∧ am_sh H1 (n + 1) = (100, 48) ∧ am_sh H1 (n + 2) = (100, 48) ∧ ((∀ i, am_gr H1 (n) i = none) ∧ ∀ i, am_gi H1 (n) i = 0) ∧ ((∀ i, am_gr H1 (n + 1) i = none) ∧ ∀ i, am_gi H1 (n + 1) i = 0) ∧ ((∀ i, am_gr H1 (n + 2) i = none) ∧ ∀ i, am_gi H1 (n + 2) i = 0)) := by
  have hm0 : am_Same a n H H := am_Same.rf
  refine ae_enter rfl rfl rfl rfl (Nat.le_of_ble_eq_true rfl) ?_
  show am_E ox (d + 1) mX1_init 0 [(0, .ref a)] [] H _
  refine ae_aload_n (q := 1) dX1_init_0 rfl rfl rfl ?_
  refine ae_objInit (q := 4) dX1_init_1 (Nat.succ_le_succ (Nat.zero_le _)) lk_X1_3 im_obj cd_obj (by decide) rfl ?_
  refine ae_aload_n (q := 5) dX1_init_4 rfl rfl rfl ?_
  refine ae_bipush (v := 48) (q := 7) dX1_init_5 (by decide) rfl ?_
  refine ae_newI (N := 48) (q := 9) dX1_init_7 ac_int (by decide) (by decide) (by decide) (by intro x hx; simp only [List.mem_cons, List.not_mem_nil, or_false] at hx; rcases hx with rfl <;> first | trivial | exact am_okr (by omega)) (by intro x hx; simp only [List.mem_cons, List.not_mem_nil, or_false] at hx; rcases hx with rfl <;> first | trivial | exact am_okr (by omega)) (by rw [hn0]; omega) rfl ?_
  rw [hn0]
  refine ae_gen (fun H1 e1 => ?_)
  have hn1 : am_nx H1 = n + 1 := by rw [e1]; show am_nx H + 1 = _; rw [hn0]
  have hm1 : am_Same a n H H1 := by rw [e1]; exact hm0.nw (by rw [hn0]; omega)
  have hs1_a : am_sh H1 a = (1, am_Nf 1) := by rw [e1]; exact sh_nw hs0_a (by rw [hn0]; omega)
  have hg1_a_0 : am_gi H1 a 0 = 0 := by rw [e1]; exact gi_nw hg0_a_0 (by rw [hn0]; omega)
  have hs1_n : am_sh H1 n = (100, 48) := by rw [e1, ← hn0]; exact am_sh_nw
  have hz1 : (∀ i, am_gr H1 n i = none) ∧ ∀ i, am_gi H1 n i = 0 := by rw [e1, ← hn0]; exact ⟨fun _ => gr_fresh, fun _ => gi_fresh⟩
  have hz1_n := hz1
  refine ae_putF (q := 12) dX1_init_9 fl_X1_9 rfl rfl (fun r h => by cases h; rfl) (fun _ => rfl) (fun _ => rfl) hs1_a (by rw [hn1]; omega) (by rw [hn1]; omega) rfl ?_
  refine ae_gen (fun H2 e2 => ?_)
  have hn2 : am_nx H2 = n + 1 := by rw [e2]; exact hn1
  have hm2 : am_Same a n H H2 := by rw [e2]; exact hm1.sr (by omega)
  have hs2_a : am_sh H2 a = (1, am_Nf 1) := by rw [e2]; exact hs1_a
  have hg2_a_0 : am_gi H2 a 0 = 0 := by rw [e2]; exact hg1_a_0
  have hs2_n : am_sh H2 n = (100, 48) := by rw [e2]; exact hs1_n
  have hf2_a_1 : am_gr H2 a 1 = some n := by rw [e2]; exact gr_set
  have hz2_n : (∀ i, am_gr H2 n i = none) ∧ ∀ i, am_gi H2 n i = 0 := by rw [e2]; exact ⟨fun i => gr_sr (hz1_n.1 i) (by omega), hz1_n.2⟩
  refine ae_aload_n (q := 13) dX1_init_12 rfl rfl rfl ?_
  refine ae_bipush (v := 48) (q := 15) dX1_init_13 (by decide) rfl ?_
  refine ae_newI (N := 48) (q := 17) dX1_init_15 ac_int (by decide) (by decide) (by decide) (by intro x hx; simp only [List.mem_cons, List.not_mem_nil, or_false] at hx; rcases hx with rfl <;> first | trivial | exact am_okr (by omega)) (by intro x hx; simp only [List.mem_cons, List.not_mem_nil, or_false] at hx; rcases hx with rfl <;> first | trivial | exact am_okr (by omega)) (by rw [hn2]; omega) rfl ?_
  rw [hn2]
  refine ae_gen (fun H3 e3 => ?_)
  have hn3 : am_nx H3 = n + 2 := by rw [e3]; show am_nx H2 + 1 = _; rw [hn2]
  have hm3 : am_Same a n H H3 := by rw [e3]; exact hm2.nw (by rw [hn2]; omega)
  have hs3_a : am_sh H3 a = (1, am_Nf 1) := by rw [e3]; exact sh_nw hs2_a (by rw [hn2]; omega)
  have hf3_a_1 : am_gr H3 a 1 = some n := by rw [e3]; exact gr_nw hf2_a_1 (by rw [hn2]; omega)
  have hg3_a_0 : am_gi H3 a 0 = 0 := by rw [e3]; exact gi_nw hg2_a_0 (by rw [hn2]; omega)
  have hs3_n : am_sh H3 n = (100, 48) := by rw [e3]; exact sh_nw hs2_n (by rw [hn2]; omega)
  have hs3_n1 : am_sh H3 (n + 1) = (100, 48) := by rw [e3, ← hn2]; exact am_sh_nw
  have hz3 : (∀ i, am_gr H3 (n + 1) i = none) ∧ ∀ i, am_gi H3 (n + 1) i = 0 := by rw [e3, ← hn2]; exact ⟨fun _ => gr_fresh, fun _ => gi_fresh⟩
  have hz3_n : (∀ i, am_gr H3 n i = none) ∧ ∀ i, am_gi H3 n i = 0 := by rw [e3]; exact ⟨fun i => gr_nw (hz2_n.1 i) (by rw [hn2]; omega), fun i => gi_nw (hz2_n.2 i) (by rw [hn2]; omega)⟩
  have hz3_n1 := hz3
  refine ae_putF (q := 20) dX1_init_17 fl_X1_15 rfl rfl (fun r h => by cases h; rfl) (fun _ => rfl) (fun _ => rfl) hs3_a (by rw [hn3]; omega) (by rw [hn3]; omega) rfl ?_
  refine ae_gen (fun H4 e4 => ?_)
  have hn4 : am_nx H4 = n + 2 := by rw [e4]; exact hn3
  have hm4 : am_Same a n H H4 := by rw [e4]; exact hm3.sr (by omega)
  have hs4_a : am_sh H4 a = (1, am_Nf 1) := by rw [e4]; exact hs3_a
  have hf4_a_1 : am_gr H4 a 1 = some n := by rw [e4]; exact gr_sr hf3_a_1 (by omega)
  have hg4_a_0 : am_gi H4 a 0 = 0 := by rw [e4]; exact hg3_a_0
  have hs4_n : am_sh H4 n = (100, 48) := by rw [e4]; exact hs3_n
  have hs4_n1 : am_sh H4 (n + 1) = (100, 48) := by rw [e4]; exact hs3_n1
  have hf4_a_2 : am_gr H4 a 2 = some (n + 1) := by rw [e4]; exact gr_set
  have hz4_n : (∀ i, am_gr H4 n i = none) ∧ ∀ i, am_gi H4 n i = 0 := by rw [e4]; exact ⟨fun i => gr_sr (hz3_n.1 i) (by omega), hz3_n.2⟩
  have hz4_n1 : (∀ i, am_gr H4 (n + 1) i = none) ∧ ∀ i, am_gi H4 (n + 1) i = 0 := by rw [e4]; exact ⟨fun i => gr_sr (hz3_n1.1 i) (by omega), hz3_n1.2⟩
  refine ae_aload_n (q := 21) dX1_init_20 rfl rfl rfl ?_
  refine ae_bipush (v := 48) (q := 23) dX1_init_21 (by decide) rfl ?_
  refine ae_newI (N := 48) (q := 25) dX1_init_23 ac_int (by decide) (by decide) (by decide) (by intro x hx; simp only [List.mem_cons, List.not_mem_nil, or_false] at hx; rcases hx with rfl <;> first | trivial | exact am_okr (by omega)) (by intro x hx; simp only [List.mem_cons, List.not_mem_nil, or_false] at hx; rcases hx with rfl <;> first | trivial | exact am_okr (by omega)) (by rw [hn4]; omega) rfl ?_
  rw [hn4]
  refine ae_gen (fun H5 e5 => ?_)
  have hn5 : am_nx H5 = n + 3 := by rw [e5]; show am_nx H4 + 1 = _; rw [hn4]
  have hm5 : am_Same a n H H5 := by rw [e5]; exact hm4.nw (by rw [hn4]; omega)
  have hs5_a : am_sh H5 a = (1, am_Nf 1) := by rw [e5]; exact sh_nw hs4_a (by rw [hn4]; omega)
  have hf5_a_1 : am_gr H5 a 1 = some n := by rw [e5]; exact gr_nw hf4_a_1 (by rw [hn4]; omega)
  have hf5_a_2 : am_gr H5 a 2 = some (n + 1) := by rw [e5]; exact gr_nw hf4_a_2 (by rw [hn4]; omega)
  have hg5_a_0 : am_gi H5 a 0 = 0 := by rw [e5]; exact gi_nw hg4_a_0 (by rw [hn4]; omega)
  have hs5_n : am_sh H5 n = (100, 48) := by rw [e5]; exact sh_nw hs4_n (by rw [hn4]; omega)
  have hs5_n1 : am_sh H5 (n + 1) = (100, 48) := by rw [e5]; exact sh_nw hs4_n1 (by rw [hn4]; omega)
  have hs5_n2 : am_sh H5 (n + 2) = (100, 48) := by rw [e5, ← hn4]; exact am_sh_nw
  have hz5 : (∀ i, am_gr H5 (n + 2) i = none) ∧ ∀ i, am_gi H5 (n + 2) i = 0 := by rw [e5, ← hn4]; exact ⟨fun _ => gr_fresh, fun _ => gi_fresh⟩
  have hz5_n : (∀ i, am_gr H5 n i = none) ∧ ∀ i, am_gi H5 n i = 0 := by rw [e5]; exact ⟨fun i => gr_nw (hz4_n.1 i) (by rw [hn4]; omega), fun i => gi_nw (hz4_n.2 i) (by rw [hn4]; omega)⟩
  have hz5_n1 : (∀ i, am_gr H5 (n + 1) i = none) ∧ ∀ i, am_gi H5 (n + 1) i = 0 := by rw [e5]; exact ⟨fun i => gr_nw (hz4_n1.1 i) (by rw [hn4]; omega), fun i => gi_nw (hz4_n1.2 i) (by rw [hn4]; omega)⟩
  have hz5_n2 := hz5
  refine ae_putF (q := 28) dX1_init_25 fl_X1_18 rfl rfl (fun r h => by cases h; rfl) (fun _ => rfl) (fun _ => rfl) hs5_a (by rw [hn5]; omega) (by rw [hn5]; omega) rfl ?_
  refine ae_gen (fun H6 e6 => ?_)
  have hn6 : am_nx H6 = n + 3 := by rw [e6]; exact hn5
  have hm6 : am_Same a n H H6 := by rw [e6]; exact hm5.sr (by omega)
  have hs6_a : am_sh H6 a = (1, am_Nf 1) := by rw [e6]; exact hs5_a
  have hf6_a_1 : am_gr H6 a 1 = some n := by rw [e6]; exact gr_sr hf5_a_1 (by omega)
  have hf6_a_2 : am_gr H6 a 2 = some (n + 1) := by rw [e6]; exact gr_sr hf5_a_2 (by omega)
  have hg6_a_0 : am_gi H6 a 0 = 0 := by rw [e6]; exact hg5_a_0
  have hs6_n : am_sh H6 n = (100, 48) := by rw [e6]; exact hs5_n
  have hs6_n1 : am_sh H6 (n + 1) = (100, 48) := by rw [e6]; exact hs5_n1
  have hs6_n2 : am_sh H6 (n + 2) = (100, 48) := by rw [e6]; exact hs5_n2
  have hf6_a_3 : am_gr H6 a 3 = some (n + 2) := by rw [e6]; exact gr_set
  have hz6_n : (∀ i, am_gr H6 n i = none) ∧ ∀ i, am_gi H6 n i = 0 := by rw [e6]; exact ⟨fun i => gr_sr (hz5_n.1 i) (by omega), hz5_n.2⟩
  have hz6_n1 : (∀ i, am_gr H6 (n + 1) i = none) ∧ ∀ i, am_gi H6 (n + 1) i = 0 := by rw [e6]; exact ⟨fun i => gr_sr (hz5_n1.1 i) (by omega), hz5_n1.2⟩
  have hz6_n2 : (∀ i, am_gr H6 (n + 2) i = none) ∧ ∀ i, am_gi H6 (n + 2) i = 0 := by rw [e6]; exact ⟨fun i => gr_sr (hz5_n2.1 i) (by omega), hz5_n2.2⟩
  refine ae_vret dX1_init_28 rfl ?_
  exact ⟨rfl, hn6, hm6, hs6_a, hg6_a_0, hf6_a_1, hf6_a_2, hf6_a_3, hs6_n, hs6_n1, hs6_n2, hz6_n, hz6_n1, hz6_n2⟩
set_option maxRecDepth 100000 in
set_option maxHeartbeats 4000000 in
theorem e_X5_init {ox : List (Nat × (Nat → Int32))} {d n a : Nat} {H : am_H} (hn0 : am_nx H = n) (hN : n ≤ 900000) (ha : a < n) (hs0_a : am_sh H a = (5, am_Nf 5)) (hg0_a_1 : am_gi H a 1 = 0) : am_D ox (d + 1) yX5_init mX5_init [.ref a] H (fun o H1 => o = .inl none ∧ am_nx H1 = n + 1 ∧ am_Same a n H H1 ∧ am_sh H1 a = (5, am_Nf 5) ∧ am_gr H1 a 0 = some n ∧ am_gi H1 a 1 = 0 ∧ am_gi H1 a 2 = (-1) ∧ am_sh H1 n = (100, 48) ∧ ((∀ i, am_gr H1 (n) i = none) ∧ ∀ i, am_gi H1 (n) i = 0)) := by
  have hm0 : am_Same a n H H := am_Same.rf
  refine ae_enter rfl rfl rfl rfl (Nat.le_of_ble_eq_true rfl) ?_
  show am_E ox (d + 1) mX5_init 0 [(0, .ref a)] [] H _
  refine ae_aload_n (q := 1) dX5_init_0 rfl rfl rfl ?_
  refine ae_objInit (q := 4) dX5_init_1 (Nat.succ_le_succ (Nat.zero_le _)) lk_X5_3 im_obj cd_obj (by decide) rfl ?_
  refine ae_aload_n (q := 5) dX5_init_4 rfl rfl rfl ?_
  refine ae_bipush (v := 48) (q := 7) dX5_init_5 (by decide) rfl ?_
  refine ae_newI (N := 48) (q := 9) dX5_init_7 ac_int (by decide) (by decide) (by decide) (by intro x hx; simp only [List.mem_cons, List.not_mem_nil, or_false] at hx; rcases hx with rfl <;> first | trivial | exact am_okr (by omega)) (by intro x hx; simp only [List.mem_cons, List.not_mem_nil, or_false] at hx; rcases hx with rfl <;> first | trivial | exact am_okr (by omega)) (by rw [hn0]; omega) rfl ?_
  rw [hn0]
  refine ae_gen (fun H1 e1 => ?_)
  have hn1 : am_nx H1 = n + 1 := by rw [e1]; show am_nx H + 1 = _; rw [hn0]
  have hm1 : am_Same a n H H1 := by rw [e1]; exact hm0.nw (by rw [hn0]; omega)
  have hs1_a : am_sh H1 a = (5, am_Nf 5) := by rw [e1]; exact sh_nw hs0_a (by rw [hn0]; omega)
  have hg1_a_1 : am_gi H1 a 1 = 0 := by rw [e1]; exact gi_nw hg0_a_1 (by rw [hn0]; omega)
  have hs1_n : am_sh H1 n = (100, 48) := by rw [e1, ← hn0]; exact am_sh_nw
  have hz1 : (∀ i, am_gr H1 n i = none) ∧ ∀ i, am_gi H1 n i = 0 := by rw [e1, ← hn0]; exact ⟨fun _ => gr_fresh, fun _ => gi_fresh⟩
  have hz1_n := hz1
  refine ae_putF (q := 12) dX5_init_9 fl_X5_9 rfl rfl (fun r h => by cases h; rfl) (fun _ => rfl) (fun _ => rfl) hs1_a (by rw [hn1]; omega) (by rw [hn1]; omega) rfl ?_
  refine ae_gen (fun H2 e2 => ?_)
  have hn2 : am_nx H2 = n + 1 := by rw [e2]; exact hn1
  have hm2 : am_Same a n H H2 := by rw [e2]; exact hm1.sr (by omega)
  have hs2_a : am_sh H2 a = (5, am_Nf 5) := by rw [e2]; exact hs1_a
  have hg2_a_1 : am_gi H2 a 1 = 0 := by rw [e2]; exact hg1_a_1
  have hs2_n : am_sh H2 n = (100, 48) := by rw [e2]; exact hs1_n
  have hf2_a_0 : am_gr H2 a 0 = some n := by rw [e2]; exact gr_set
  have hz2_n : (∀ i, am_gr H2 n i = none) ∧ ∀ i, am_gi H2 n i = 0 := by rw [e2]; exact ⟨fun i => gr_sr (hz1_n.1 i) (by omega), hz1_n.2⟩
  refine ae_aload_n (q := 13) dX5_init_12 rfl rfl rfl ?_
  refine ae_iconst (v := (-1)) (q := 14) dX5_init_13 (by decide) rfl ?_
  refine ae_putI (q := 17) dX5_init_14 fl_X5_15 rfl rfl rfl hs2_a (by rw [hn2]; omega) rfl ?_
  refine ae_gen (fun H3 e3 => ?_)
  have hn3 : am_nx H3 = n + 1 := by rw [e3]; exact hn2
  have hm3 : am_Same a n H H3 := by rw [e3]; exact hm2.si (by omega)
  have hs3_a : am_sh H3 a = (5, am_Nf 5) := by rw [e3]; exact hs2_a
  have hf3_a_0 : am_gr H3 a 0 = some n := by rw [e3]; exact hf2_a_0
  have hg3_a_1 : am_gi H3 a 1 = 0 := by rw [e3]; exact gi_si hg2_a_1 (by omega)
  have hs3_n : am_sh H3 n = (100, 48) := by rw [e3]; exact hs2_n
  have hg3_a_2 : am_gi H3 a 2 = (-1) := by rw [e3]; exact gi_set
  have hz3_n : (∀ i, am_gr H3 n i = none) ∧ ∀ i, am_gi H3 n i = 0 := by rw [e3]; exact ⟨hz2_n.1, fun i => gi_si (hz2_n.2 i) (by omega)⟩
  refine ae_vret dX5_init_17 rfl ?_
  exact ⟨rfl, hn3, hm3, hs3_a, hf3_a_0, hg3_a_1, hg3_a_2, hs3_n, hz3_n⟩
set_option maxRecDepth 100000 in
set_option maxHeartbeats 4000000 in
theorem e_X4_init {ox : List (Nat × (Nat → Int32))} {d n a : Nat} {H : am_H} (hn0 : am_nx H = n) (hN : n ≤ 900000) (ha : a < n) {k : Int32} {b : Nat} (hb : b < n) (hs0_a : am_sh H a = (4, am_Nf 4)) (hg0_a_2 : am_gi H a 2 = 0) (hg0_a_4 : am_gi H a 4 = 0) (hg0_a_5 : am_gi H a 5 = 0) (hg0_a_6 : am_gi H a 6 = 0) (hg0_a_7 : am_gi H a 7 = 0) (hg0_a_8 : am_gi H a 8 = 0) (hg0_a_9 : am_gi H a 9 = 0) : am_D ox (d + 2) yX4_init mX4_init [.ref a, .int k, .ref b] H (fun o H1 => o = .inl none ∧ am_nx H1 = n + 4 ∧ am_Same a n H H1 ∧ am_sh H1 a = (4, am_Nf 4) ∧ am_gi H1 a 0 = k ∧ am_gr H1 a 1 = some n ∧ am_gr H1 a 3 = some b ∧ am_gi H1 a 2 = 0 ∧ am_gi H1 a 4 = 0 ∧ am_gi H1 a 5 = 0 ∧ am_gi H1 a 6 = 0 ∧ am_gi H1 a 7 = 0 ∧ am_gi H1 a 8 = 0 ∧ am_gi H1 a 9 = 0 ∧ am_sh H1 n = (103 + 3, 3) ∧ am_gr H1 n 0 = some (n + 1) ∧ am_gr H1 n 1 = some (n + 2) ∧ am_gr H1 n 2 = some (n + 3) ∧ am_sh H1 (n + 1) = (3, am_Nf 3) ∧ am_sh H1 (n + 2) = (3, am_Nf 3) ∧ am_sh H1 (n + 3) = (3, am_Nf 3) ∧ ((∀ i, am_gr H1 (n + 1) i = none) ∧ ∀ i, am_gi H1 (n + 1) i = 0) ∧ ((∀ i, am_gr H1 (n + 2) i = none) ∧ ∀ i, am_gi H1 (n + 2) i = 0) ∧ ((∀ i, am_gr H1 (n + 3) i = none) ∧ ∀ i, am_gi H1 (n + 3) i = 0)) := by
  have hm0 : am_Same a n H H := am_Same.rf
  refine ae_enter rfl rfl rfl rfl (Nat.le_of_ble_eq_true rfl) ?_
  show am_E ox (d + 2) mX4_init 0 [(0, .ref a), (1, .int k), (2, .ref b)] [] H _
  refine ae_aload_n (q := 1) dX4_init_0 rfl rfl rfl ?_
  refine ae_objInit (q := 4) dX4_init_1 (Nat.succ_le_succ (Nat.zero_le _)) lk_X4_3 im_obj cd_obj (by decide) rfl ?_
  refine ae_aload_n (q := 5) dX4_init_4 rfl rfl rfl ?_
  refine ae_iload_n (q := 6) dX4_init_5 rfl rfl rfl ?_
  refine ae_putFI (q := 9) dX4_init_6 fl_X4_9 rfl rfl (fun r h => by cases h; rfl) rfl rfl hs0_a (by rw [hn0]; omega) rfl ?_
  refine ae_gen (fun H1 e1 => ?_)
  have hn1 : am_nx H1 = n := by rw [e1]; exact hn0
  have hm1 : am_Same a n H H1 := by rw [e1]; exact hm0.si (by omega)
  have hs1_a : am_sh H1 a = (4, am_Nf 4) := by rw [e1]; exact hs0_a
  have hg1_a_2 : am_gi H1 a 2 = 0 := by rw [e1]; exact gi_si hg0_a_2 (by omega)
  have hg1_a_4 : am_gi H1 a 4 = 0 := by rw [e1]; exact gi_si hg0_a_4 (by omega)
  have hg1_a_5 : am_gi H1 a 5 = 0 := by rw [e1]; exact gi_si hg0_a_5 (by omega)
  have hg1_a_6 : am_gi H1 a 6 = 0 := by rw [e1]; exact gi_si hg0_a_6 (by omega)
  have hg1_a_7 : am_gi H1 a 7 = 0 := by rw [e1]; exact gi_si hg0_a_7 (by omega)
  have hg1_a_8 : am_gi H1 a 8 = 0 := by rw [e1]; exact gi_si hg0_a_8 (by omega)
  have hg1_a_9 : am_gi H1 a 9 = 0 := by rw [e1]; exact gi_si hg0_a_9 (by omega)
  have hg1_a_0 : am_gi H1 a 0 = k := by rw [e1]; exact gi_set
  refine ae_aload_n (q := 10) dX4_init_9 rfl rfl rfl ?_
  refine ae_aload_n (q := 11) dX4_init_10 rfl rfl rfl ?_
  refine ae_putR (q := 14) dX4_init_11 fl_X4_15 rfl (fun _ => rfl) (fun _ => rfl) hs1_a (by rw [hn1]; omega) (by rw [hn1]; omega) rfl ?_
  refine ae_gen (fun H2 e2 => ?_)
  have hn2 : am_nx H2 = n := by rw [e2]; exact hn1
  have hm2 : am_Same a n H H2 := by rw [e2]; exact hm1.sr (by omega)
  have hs2_a : am_sh H2 a = (4, am_Nf 4) := by rw [e2]; exact hs1_a
  have hg2_a_2 : am_gi H2 a 2 = 0 := by rw [e2]; exact hg1_a_2
  have hg2_a_4 : am_gi H2 a 4 = 0 := by rw [e2]; exact hg1_a_4
  have hg2_a_5 : am_gi H2 a 5 = 0 := by rw [e2]; exact hg1_a_5
  have hg2_a_6 : am_gi H2 a 6 = 0 := by rw [e2]; exact hg1_a_6
  have hg2_a_7 : am_gi H2 a 7 = 0 := by rw [e2]; exact hg1_a_7
  have hg2_a_8 : am_gi H2 a 8 = 0 := by rw [e2]; exact hg1_a_8
  have hg2_a_9 : am_gi H2 a 9 = 0 := by rw [e2]; exact hg1_a_9
  have hg2_a_0 : am_gi H2 a 0 = k := by rw [e2]; exact hg1_a_0
  have hf2_a_3 : am_gr H2 a 3 = some b := by rw [e2]; exact gr_set
  refine ae_aload_n (q := 15) dX4_init_14 rfl rfl rfl ?_
  refine ae_iconst (v := 3) (q := 16) dX4_init_15 (by decide) rfl ?_
  refine ae_newQ (k := 3) (t := 5) (N := 3) (q := 19) dX4_init_16 cw_X4_19 (fun B0 ρ s h => h.2.2.2.1 RX3 (by decide +kernel)) rfl (by decide) (by decide) (by decide) (by intro x hx; simp only [List.mem_cons, List.not_mem_nil, or_false] at hx; rcases hx with rfl <;> first | trivial | exact am_okr (by omega)) (by intro x hx; simp only [List.mem_cons, List.not_mem_nil, or_false] at hx; rcases hx with rfl | rfl | rfl <;> first | trivial | exact am_okr (by omega)) (by rw [hn2]; omega) rfl ?_
  rw [hn2]
  refine ae_gen (fun H3 e3 => ?_)
  have hn3 : am_nx H3 = n + 1 := by rw [e3]; show am_nx H2 + 1 = _; rw [hn2]
  have hm3 : am_Same a n H H3 := by rw [e3]; exact hm2.nw (by rw [hn2]; omega)
  have hs3_a : am_sh H3 a = (4, am_Nf 4) := by rw [e3]; exact sh_nw hs2_a (by rw [hn2]; omega)
  have hf3_a_3 : am_gr H3 a 3 = some b := by rw [e3]; exact gr_nw hf2_a_3 (by rw [hn2]; omega)
  have hg3_a_2 : am_gi H3 a 2 = 0 := by rw [e3]; exact gi_nw hg2_a_2 (by rw [hn2]; omega)
  have hg3_a_4 : am_gi H3 a 4 = 0 := by rw [e3]; exact gi_nw hg2_a_4 (by rw [hn2]; omega)
  have hg3_a_5 : am_gi H3 a 5 = 0 := by rw [e3]; exact gi_nw hg2_a_5 (by rw [hn2]; omega)
  have hg3_a_6 : am_gi H3 a 6 = 0 := by rw [e3]; exact gi_nw hg2_a_6 (by rw [hn2]; omega)
  have hg3_a_7 : am_gi H3 a 7 = 0 := by rw [e3]; exact gi_nw hg2_a_7 (by rw [hn2]; omega)
  have hg3_a_8 : am_gi H3 a 8 = 0 := by rw [e3]; exact gi_nw hg2_a_8 (by rw [hn2]; omega)
  have hg3_a_9 : am_gi H3 a 9 = 0 := by rw [e3]; exact gi_nw hg2_a_9 (by rw [hn2]; omega)
  have hg3_a_0 : am_gi H3 a 0 = k := by rw [e3]; exact gi_nw hg2_a_0 (by rw [hn2]; omega)
  have hs3_n : am_sh H3 n = (103 + 3, 3) := by rw [e3, ← hn2]; exact am_sh_nw
  have hz3 : (∀ i, am_gr H3 n i = none) ∧ ∀ i, am_gi H3 n i = 0 := by rw [e3, ← hn2]; exact ⟨fun _ => gr_fresh, fun _ => gi_fresh⟩
  have hz3_n := hz3
  refine ae_putF (q := 22) dX4_init_19 fl_X4_21 rfl rfl (fun r h => by cases h; rfl) (fun _ => rfl) (fun _ => rfl) hs3_a (by rw [hn3]; omega) (by rw [hn3]; omega) rfl ?_
  refine ae_gen (fun H4 e4 => ?_)
  have hn4 : am_nx H4 = n + 1 := by rw [e4]; exact hn3
  have hm4 : am_Same a n H H4 := by rw [e4]; exact hm3.sr (by omega)
  have hs4_a : am_sh H4 a = (4, am_Nf 4) := by rw [e4]; exact hs3_a
  have hf4_a_3 : am_gr H4 a 3 = some b := by rw [e4]; exact gr_sr hf3_a_3 (by omega)
  have hg4_a_2 : am_gi H4 a 2 = 0 := by rw [e4]; exact hg3_a_2
  have hg4_a_4 : am_gi H4 a 4 = 0 := by rw [e4]; exact hg3_a_4
  have hg4_a_5 : am_gi H4 a 5 = 0 := by rw [e4]; exact hg3_a_5
  have hg4_a_6 : am_gi H4 a 6 = 0 := by rw [e4]; exact hg3_a_6
  have hg4_a_7 : am_gi H4 a 7 = 0 := by rw [e4]; exact hg3_a_7
  have hg4_a_8 : am_gi H4 a 8 = 0 := by rw [e4]; exact hg3_a_8
  have hg4_a_9 : am_gi H4 a 9 = 0 := by rw [e4]; exact hg3_a_9
  have hg4_a_0 : am_gi H4 a 0 = k := by rw [e4]; exact hg3_a_0
  have hs4_n : am_sh H4 n = (103 + 3, 3) := by rw [e4]; exact hs3_n
  have hf4_a_1 : am_gr H4 a 1 = some n := by rw [e4]; exact gr_set
  have hz4_n : (∀ i, am_gr H4 n i = none) ∧ ∀ i, am_gi H4 n i = 0 := by rw [e4]; exact ⟨fun i => gr_sr (hz3_n.1 i) (by omega), hz3_n.2⟩
  refine ae_iconst (v := 0) (q := 23) dX4_init_22 (by decide) rfl ?_
  refine ae_istore_n (lv' := [(3, .int 0), (0, .ref a), (1, .int k), (2, .ref b)]) (q := 24) dX4_init_23 rfl (by decide) rfl rfl ?_
  refine ae_iload_n (q := 25) dX4_init_24 rfl rfl rfl ?_
  refine ae_iconst (v := 3) (q := 26) dX4_init_25 (by decide) rfl ?_
  refine ae_icmp_ge (t := 48) (q := 29) dX4_init_26 (by decide) rfl (fun h => absurd h (by decide)) (fun _ => ?_)
  refine ae_aload_n (q := 30) dX4_init_29 rfl rfl rfl ?_
  refine ae_getR (q := 33) dX4_init_30 fl_X4_21 rfl hs4_a (by rw [hn4]; omega) hf4_a_1 rfl ?_
  refine ae_iload_n (q := 34) dX4_init_33 rfl rfl rfl ?_
  refine ae_new (q := 37) dX4_init_34 cn_X4_19 (by intro x hx; simp only [List.mem_cons, List.not_mem_nil, or_false] at hx; rcases hx with rfl | rfl <;> first | trivial | exact am_okr (by omega)) (by intro x hx; simp only [List.mem_cons, List.not_mem_nil, or_false] at hx; rcases hx with rfl | rfl | rfl | rfl <;> first | trivial | exact am_okr (by omega)) (by rw [hn4]; omega) rfl ?_
  rw [hn4]
  refine ae_gen (fun H5 e5 => ?_)
  have hn5 : am_nx H5 = n + 2 := by rw [e5]; show am_nx H4 + 1 = _; rw [hn4]
  have hm5 : am_Same a n H H5 := by rw [e5]; exact hm4.nw (by rw [hn4]; omega)
  have hs5_a : am_sh H5 a = (4, am_Nf 4) := by rw [e5]; exact sh_nw hs4_a (by rw [hn4]; omega)
  have hf5_a_3 : am_gr H5 a 3 = some b := by rw [e5]; exact gr_nw hf4_a_3 (by rw [hn4]; omega)
  have hf5_a_1 : am_gr H5 a 1 = some n := by rw [e5]; exact gr_nw hf4_a_1 (by rw [hn4]; omega)
  have hg5_a_2 : am_gi H5 a 2 = 0 := by rw [e5]; exact gi_nw hg4_a_2 (by rw [hn4]; omega)
  have hg5_a_4 : am_gi H5 a 4 = 0 := by rw [e5]; exact gi_nw hg4_a_4 (by rw [hn4]; omega)
  have hg5_a_5 : am_gi H5 a 5 = 0 := by rw [e5]; exact gi_nw hg4_a_5 (by rw [hn4]; omega)
  have hg5_a_6 : am_gi H5 a 6 = 0 := by rw [e5]; exact gi_nw hg4_a_6 (by rw [hn4]; omega)
  have hg5_a_7 : am_gi H5 a 7 = 0 := by rw [e5]; exact gi_nw hg4_a_7 (by rw [hn4]; omega)
  have hg5_a_8 : am_gi H5 a 8 = 0 := by rw [e5]; exact gi_nw hg4_a_8 (by rw [hn4]; omega)
  have hg5_a_9 : am_gi H5 a 9 = 0 := by rw [e5]; exact gi_nw hg4_a_9 (by rw [hn4]; omega)
  have hg5_a_0 : am_gi H5 a 0 = k := by rw [e5]; exact gi_nw hg4_a_0 (by rw [hn4]; omega)
  have hs5_n : am_sh H5 n = (103 + 3, 3) := by rw [e5]; exact sh_nw hs4_n (by rw [hn4]; omega)
  have hs5_n1 : am_sh H5 (n + 1) = (3, am_Nf 3) := by rw [e5, ← hn4]; exact am_sh_nw
  have hz5 : (∀ i, am_gr H5 (n + 1) i = none) ∧ ∀ i, am_gi H5 (n + 1) i = 0 := by rw [e5, ← hn4]; exact ⟨fun _ => gr_fresh, fun _ => gi_fresh⟩
  have hz5_n : (∀ i, am_gr H5 n i = none) ∧ ∀ i, am_gi H5 n i = 0 := by rw [e5]; exact ⟨fun i => gr_nw (hz4_n.1 i) (by rw [hn4]; omega), fun i => gi_nw (hz4_n.2 i) (by rw [hn4]; omega)⟩
  have hz5_n1 := hz5
  refine ae_dup (q := 38) dX4_init_37 rfl rfl ?_
  refine ae_callIN (as := []) (b := (n + 1)) (st := [.ref (n + 1), .int 0, .ref n]) (q := 41) dX4_init_38 e_X3_init myX3_init rfl rfl (show Cond.methodLinkNest RX4 25 yX3_init "PhaserYard" ∈ am_nst from by decide +kernel) im_X3_init rfl rfl (Nat.le_of_ble_eq_true rfl) rfl (fun o H1 h => h.1) (fun G h => ?_)
  obtain ⟨-, rfl⟩ := h
  refine ⟨Or.inl rfl, ?_⟩
  refine ae_aast (t := 5) (q := 42) dX4_init_41 hs5_n rfl (by decide) rfl (by rw [hn5]; omega) hs5_n1 (by rw [hn5]; omega) (by unfold vp_in; decide) rfl ?_
  rw [show (0 : Int32).toNatClampNeg = 0 from by decide]
  refine ae_gen (fun H6 e6 => ?_)
  have hn6 : am_nx H6 = n + 2 := by rw [e6]; exact hn5
  have hm6 : am_Same a n H H6 := by rw [e6]; exact hm5.sr (by omega)
  have hs6_a : am_sh H6 a = (4, am_Nf 4) := by rw [e6]; exact hs5_a
  have hf6_a_3 : am_gr H6 a 3 = some b := by rw [e6]; exact gr_sr hf5_a_3 (by omega)
  have hf6_a_1 : am_gr H6 a 1 = some n := by rw [e6]; exact gr_sr hf5_a_1 (by omega)
  have hg6_a_2 : am_gi H6 a 2 = 0 := by rw [e6]; exact hg5_a_2
  have hg6_a_4 : am_gi H6 a 4 = 0 := by rw [e6]; exact hg5_a_4
  have hg6_a_5 : am_gi H6 a 5 = 0 := by rw [e6]; exact hg5_a_5
  have hg6_a_6 : am_gi H6 a 6 = 0 := by rw [e6]; exact hg5_a_6
  have hg6_a_7 : am_gi H6 a 7 = 0 := by rw [e6]; exact hg5_a_7
  have hg6_a_8 : am_gi H6 a 8 = 0 := by rw [e6]; exact hg5_a_8
  have hg6_a_9 : am_gi H6 a 9 = 0 := by rw [e6]; exact hg5_a_9
  have hg6_a_0 : am_gi H6 a 0 = k := by rw [e6]; exact hg5_a_0
  have hs6_n : am_sh H6 n = (103 + 3, 3) := by rw [e6]; exact hs5_n
  have hs6_n1 : am_sh H6 (n + 1) = (3, am_Nf 3) := by rw [e6]; exact hs5_n1
  have hf6_n_0 : am_gr H6 n 0 = some (n + 1) := by rw [e6]; exact gr_set
  have hz6_n1 : (∀ i, am_gr H6 (n + 1) i = none) ∧ ∀ i, am_gi H6 (n + 1) i = 0 := by rw [e6]; exact ⟨fun i => gr_sr (hz5_n1.1 i) (by omega), hz5_n1.2⟩
  refine ae_iinc (v := 1) (lv' := [(3, .int 1), (0, .ref a), (1, .int k), (2, .ref b)]) (q := 45) dX4_init_42 rfl (by decide) (by decide) rfl rfl ?_
  refine ae_goto (q := 24) dX4_init_45 (by decide) ?_
  refine ae_iload_n (q := 25) dX4_init_24 rfl rfl rfl ?_
  refine ae_iconst (v := 3) (q := 26) dX4_init_25 (by decide) rfl ?_
  refine ae_icmp_ge (t := 48) (q := 29) dX4_init_26 (by decide) rfl (fun h => absurd h (by decide)) (fun _ => ?_)
  refine ae_aload_n (q := 30) dX4_init_29 rfl rfl rfl ?_
  refine ae_getR (q := 33) dX4_init_30 fl_X4_21 rfl hs6_a (by rw [hn6]; omega) hf6_a_1 rfl ?_
  refine ae_iload_n (q := 34) dX4_init_33 rfl rfl rfl ?_
  refine ae_new (q := 37) dX4_init_34 cn_X4_19 (by intro x hx; simp only [List.mem_cons, List.not_mem_nil, or_false] at hx; rcases hx with rfl | rfl <;> first | trivial | exact am_okr (by omega)) (by intro x hx; simp only [List.mem_cons, List.not_mem_nil, or_false] at hx; rcases hx with rfl | rfl | rfl | rfl <;> first | trivial | exact am_okr (by omega)) (by rw [hn6]; omega) rfl ?_
  rw [hn6]
  refine ae_gen (fun H7 e7 => ?_)
  have hn7 : am_nx H7 = n + 3 := by rw [e7]; show am_nx H6 + 1 = _; rw [hn6]
  have hm7 : am_Same a n H H7 := by rw [e7]; exact hm6.nw (by rw [hn6]; omega)
  have hs7_a : am_sh H7 a = (4, am_Nf 4) := by rw [e7]; exact sh_nw hs6_a (by rw [hn6]; omega)
  have hf7_a_3 : am_gr H7 a 3 = some b := by rw [e7]; exact gr_nw hf6_a_3 (by rw [hn6]; omega)
  have hf7_a_1 : am_gr H7 a 1 = some n := by rw [e7]; exact gr_nw hf6_a_1 (by rw [hn6]; omega)
  have hg7_a_2 : am_gi H7 a 2 = 0 := by rw [e7]; exact gi_nw hg6_a_2 (by rw [hn6]; omega)
  have hg7_a_4 : am_gi H7 a 4 = 0 := by rw [e7]; exact gi_nw hg6_a_4 (by rw [hn6]; omega)
  have hg7_a_5 : am_gi H7 a 5 = 0 := by rw [e7]; exact gi_nw hg6_a_5 (by rw [hn6]; omega)
  have hg7_a_6 : am_gi H7 a 6 = 0 := by rw [e7]; exact gi_nw hg6_a_6 (by rw [hn6]; omega)
  have hg7_a_7 : am_gi H7 a 7 = 0 := by rw [e7]; exact gi_nw hg6_a_7 (by rw [hn6]; omega)
  have hg7_a_8 : am_gi H7 a 8 = 0 := by rw [e7]; exact gi_nw hg6_a_8 (by rw [hn6]; omega)
  have hg7_a_9 : am_gi H7 a 9 = 0 := by rw [e7]; exact gi_nw hg6_a_9 (by rw [hn6]; omega)
  have hg7_a_0 : am_gi H7 a 0 = k := by rw [e7]; exact gi_nw hg6_a_0 (by rw [hn6]; omega)
  have hs7_n : am_sh H7 n = (103 + 3, 3) := by rw [e7]; exact sh_nw hs6_n (by rw [hn6]; omega)
  have hf7_n_0 : am_gr H7 n 0 = some (n + 1) := by rw [e7]; exact gr_nw hf6_n_0 (by rw [hn6]; omega)
  have hs7_n1 : am_sh H7 (n + 1) = (3, am_Nf 3) := by rw [e7]; exact sh_nw hs6_n1 (by rw [hn6]; omega)
  have hs7_n2 : am_sh H7 (n + 2) = (3, am_Nf 3) := by rw [e7, ← hn6]; exact am_sh_nw
  have hz7 : (∀ i, am_gr H7 (n + 2) i = none) ∧ ∀ i, am_gi H7 (n + 2) i = 0 := by rw [e7, ← hn6]; exact ⟨fun _ => gr_fresh, fun _ => gi_fresh⟩
  have hz7_n1 : (∀ i, am_gr H7 (n + 1) i = none) ∧ ∀ i, am_gi H7 (n + 1) i = 0 := by rw [e7]; exact ⟨fun i => gr_nw (hz6_n1.1 i) (by rw [hn6]; omega), fun i => gi_nw (hz6_n1.2 i) (by rw [hn6]; omega)⟩
  have hz7_n2 := hz7
  refine ae_dup (q := 38) dX4_init_37 rfl rfl ?_
  refine ae_callIN (as := []) (b := (n + 2)) (st := [.ref (n + 2), .int 1, .ref n]) (q := 41) dX4_init_38 e_X3_init myX3_init rfl rfl (show Cond.methodLinkNest RX4 25 yX3_init "PhaserYard" ∈ am_nst from by decide +kernel) im_X3_init rfl rfl (Nat.le_of_ble_eq_true rfl) rfl (fun o H1 h => h.1) (fun G h => ?_)
  obtain ⟨-, rfl⟩ := h
  refine ⟨Or.inl rfl, ?_⟩
  refine ae_aast (t := 5) (q := 42) dX4_init_41 hs7_n rfl (by decide) rfl (by rw [hn7]; omega) hs7_n2 (by rw [hn7]; omega) (by unfold vp_in; decide) rfl ?_
  rw [show (1 : Int32).toNatClampNeg = 1 from by decide]
  refine ae_gen (fun H8 e8 => ?_)
  have hn8 : am_nx H8 = n + 3 := by rw [e8]; exact hn7
  have hm8 : am_Same a n H H8 := by rw [e8]; exact hm7.sr (by omega)
  have hs8_a : am_sh H8 a = (4, am_Nf 4) := by rw [e8]; exact hs7_a
  have hf8_a_3 : am_gr H8 a 3 = some b := by rw [e8]; exact gr_sr hf7_a_3 (by omega)
  have hf8_a_1 : am_gr H8 a 1 = some n := by rw [e8]; exact gr_sr hf7_a_1 (by omega)
  have hg8_a_2 : am_gi H8 a 2 = 0 := by rw [e8]; exact hg7_a_2
  have hg8_a_4 : am_gi H8 a 4 = 0 := by rw [e8]; exact hg7_a_4
  have hg8_a_5 : am_gi H8 a 5 = 0 := by rw [e8]; exact hg7_a_5
  have hg8_a_6 : am_gi H8 a 6 = 0 := by rw [e8]; exact hg7_a_6
  have hg8_a_7 : am_gi H8 a 7 = 0 := by rw [e8]; exact hg7_a_7
  have hg8_a_8 : am_gi H8 a 8 = 0 := by rw [e8]; exact hg7_a_8
  have hg8_a_9 : am_gi H8 a 9 = 0 := by rw [e8]; exact hg7_a_9
  have hg8_a_0 : am_gi H8 a 0 = k := by rw [e8]; exact hg7_a_0
  have hs8_n : am_sh H8 n = (103 + 3, 3) := by rw [e8]; exact hs7_n
  have hf8_n_0 : am_gr H8 n 0 = some (n + 1) := by rw [e8]; exact gr_sr hf7_n_0 (by omega)
  have hs8_n1 : am_sh H8 (n + 1) = (3, am_Nf 3) := by rw [e8]; exact hs7_n1
  have hs8_n2 : am_sh H8 (n + 2) = (3, am_Nf 3) := by rw [e8]; exact hs7_n2
  have hf8_n_1 : am_gr H8 n 1 = some (n + 2) := by rw [e8]; exact gr_set
  have hz8_n1 : (∀ i, am_gr H8 (n + 1) i = none) ∧ ∀ i, am_gi H8 (n + 1) i = 0 := by rw [e8]; exact ⟨fun i => gr_sr (hz7_n1.1 i) (by omega), hz7_n1.2⟩
  have hz8_n2 : (∀ i, am_gr H8 (n + 2) i = none) ∧ ∀ i, am_gi H8 (n + 2) i = 0 := by rw [e8]; exact ⟨fun i => gr_sr (hz7_n2.1 i) (by omega), hz7_n2.2⟩
  refine ae_iinc (v := 2) (lv' := [(3, .int 2), (0, .ref a), (1, .int k), (2, .ref b)]) (q := 45) dX4_init_42 rfl (by decide) (by decide) rfl rfl ?_
  refine ae_goto (q := 24) dX4_init_45 (by decide) ?_
  refine ae_iload_n (q := 25) dX4_init_24 rfl rfl rfl ?_
  refine ae_iconst (v := 3) (q := 26) dX4_init_25 (by decide) rfl ?_
  refine ae_icmp_ge (t := 48) (q := 29) dX4_init_26 (by decide) rfl (fun h => absurd h (by decide)) (fun _ => ?_)
  refine ae_aload_n (q := 30) dX4_init_29 rfl rfl rfl ?_
  refine ae_getR (q := 33) dX4_init_30 fl_X4_21 rfl hs8_a (by rw [hn8]; omega) hf8_a_1 rfl ?_
  refine ae_iload_n (q := 34) dX4_init_33 rfl rfl rfl ?_
  refine ae_new (q := 37) dX4_init_34 cn_X4_19 (by intro x hx; simp only [List.mem_cons, List.not_mem_nil, or_false] at hx; rcases hx with rfl | rfl <;> first | trivial | exact am_okr (by omega)) (by intro x hx; simp only [List.mem_cons, List.not_mem_nil, or_false] at hx; rcases hx with rfl | rfl | rfl | rfl <;> first | trivial | exact am_okr (by omega)) (by rw [hn8]; omega) rfl ?_
  rw [hn8]
  refine ae_gen (fun H9 e9 => ?_)
  have hn9 : am_nx H9 = n + 4 := by rw [e9]; show am_nx H8 + 1 = _; rw [hn8]
  have hm9 : am_Same a n H H9 := by rw [e9]; exact hm8.nw (by rw [hn8]; omega)
  have hs9_a : am_sh H9 a = (4, am_Nf 4) := by rw [e9]; exact sh_nw hs8_a (by rw [hn8]; omega)
  have hf9_a_3 : am_gr H9 a 3 = some b := by rw [e9]; exact gr_nw hf8_a_3 (by rw [hn8]; omega)
  have hf9_a_1 : am_gr H9 a 1 = some n := by rw [e9]; exact gr_nw hf8_a_1 (by rw [hn8]; omega)
  have hg9_a_2 : am_gi H9 a 2 = 0 := by rw [e9]; exact gi_nw hg8_a_2 (by rw [hn8]; omega)
  have hg9_a_4 : am_gi H9 a 4 = 0 := by rw [e9]; exact gi_nw hg8_a_4 (by rw [hn8]; omega)
  have hg9_a_5 : am_gi H9 a 5 = 0 := by rw [e9]; exact gi_nw hg8_a_5 (by rw [hn8]; omega)
  have hg9_a_6 : am_gi H9 a 6 = 0 := by rw [e9]; exact gi_nw hg8_a_6 (by rw [hn8]; omega)
  have hg9_a_7 : am_gi H9 a 7 = 0 := by rw [e9]; exact gi_nw hg8_a_7 (by rw [hn8]; omega)
  have hg9_a_8 : am_gi H9 a 8 = 0 := by rw [e9]; exact gi_nw hg8_a_8 (by rw [hn8]; omega)
  have hg9_a_9 : am_gi H9 a 9 = 0 := by rw [e9]; exact gi_nw hg8_a_9 (by rw [hn8]; omega)
  have hg9_a_0 : am_gi H9 a 0 = k := by rw [e9]; exact gi_nw hg8_a_0 (by rw [hn8]; omega)
  have hs9_n : am_sh H9 n = (103 + 3, 3) := by rw [e9]; exact sh_nw hs8_n (by rw [hn8]; omega)
  have hf9_n_0 : am_gr H9 n 0 = some (n + 1) := by rw [e9]; exact gr_nw hf8_n_0 (by rw [hn8]; omega)
  have hf9_n_1 : am_gr H9 n 1 = some (n + 2) := by rw [e9]; exact gr_nw hf8_n_1 (by rw [hn8]; omega)
  have hs9_n1 : am_sh H9 (n + 1) = (3, am_Nf 3) := by rw [e9]; exact sh_nw hs8_n1 (by rw [hn8]; omega)
  have hs9_n2 : am_sh H9 (n + 2) = (3, am_Nf 3) := by rw [e9]; exact sh_nw hs8_n2 (by rw [hn8]; omega)
  have hs9_n3 : am_sh H9 (n + 3) = (3, am_Nf 3) := by rw [e9, ← hn8]; exact am_sh_nw
  have hz9 : (∀ i, am_gr H9 (n + 3) i = none) ∧ ∀ i, am_gi H9 (n + 3) i = 0 := by rw [e9, ← hn8]; exact ⟨fun _ => gr_fresh, fun _ => gi_fresh⟩
  have hz9_n1 : (∀ i, am_gr H9 (n + 1) i = none) ∧ ∀ i, am_gi H9 (n + 1) i = 0 := by rw [e9]; exact ⟨fun i => gr_nw (hz8_n1.1 i) (by rw [hn8]; omega), fun i => gi_nw (hz8_n1.2 i) (by rw [hn8]; omega)⟩
  have hz9_n2 : (∀ i, am_gr H9 (n + 2) i = none) ∧ ∀ i, am_gi H9 (n + 2) i = 0 := by rw [e9]; exact ⟨fun i => gr_nw (hz8_n2.1 i) (by rw [hn8]; omega), fun i => gi_nw (hz8_n2.2 i) (by rw [hn8]; omega)⟩
  have hz9_n3 := hz9
  refine ae_dup (q := 38) dX4_init_37 rfl rfl ?_
  refine ae_callIN (as := []) (b := (n + 3)) (st := [.ref (n + 3), .int 2, .ref n]) (q := 41) dX4_init_38 e_X3_init myX3_init rfl rfl (show Cond.methodLinkNest RX4 25 yX3_init "PhaserYard" ∈ am_nst from by decide +kernel) im_X3_init rfl rfl (Nat.le_of_ble_eq_true rfl) rfl (fun o H1 h => h.1) (fun G h => ?_)
  obtain ⟨-, rfl⟩ := h
  refine ⟨Or.inl rfl, ?_⟩
  refine ae_aast (t := 5) (q := 42) dX4_init_41 hs9_n rfl (by decide) rfl (by rw [hn9]; omega) hs9_n3 (by rw [hn9]; omega) (by unfold vp_in; decide) rfl ?_
  rw [show (2 : Int32).toNatClampNeg = 2 from by decide]
  refine ae_gen (fun H10 e10 => ?_)
  have hn10 : am_nx H10 = n + 4 := by rw [e10]; exact hn9
  have hm10 : am_Same a n H H10 := by rw [e10]; exact hm9.sr (by omega)
  have hs10_a : am_sh H10 a = (4, am_Nf 4) := by rw [e10]; exact hs9_a
  have hf10_a_3 : am_gr H10 a 3 = some b := by rw [e10]; exact gr_sr hf9_a_3 (by omega)
  have hf10_a_1 : am_gr H10 a 1 = some n := by rw [e10]; exact gr_sr hf9_a_1 (by omega)
  have hg10_a_2 : am_gi H10 a 2 = 0 := by rw [e10]; exact hg9_a_2
  have hg10_a_4 : am_gi H10 a 4 = 0 := by rw [e10]; exact hg9_a_4
  have hg10_a_5 : am_gi H10 a 5 = 0 := by rw [e10]; exact hg9_a_5
  have hg10_a_6 : am_gi H10 a 6 = 0 := by rw [e10]; exact hg9_a_6
  have hg10_a_7 : am_gi H10 a 7 = 0 := by rw [e10]; exact hg9_a_7
  have hg10_a_8 : am_gi H10 a 8 = 0 := by rw [e10]; exact hg9_a_8
  have hg10_a_9 : am_gi H10 a 9 = 0 := by rw [e10]; exact hg9_a_9
  have hg10_a_0 : am_gi H10 a 0 = k := by rw [e10]; exact hg9_a_0
  have hs10_n : am_sh H10 n = (103 + 3, 3) := by rw [e10]; exact hs9_n
  have hf10_n_0 : am_gr H10 n 0 = some (n + 1) := by rw [e10]; exact gr_sr hf9_n_0 (by omega)
  have hf10_n_1 : am_gr H10 n 1 = some (n + 2) := by rw [e10]; exact gr_sr hf9_n_1 (by omega)
  have hs10_n1 : am_sh H10 (n + 1) = (3, am_Nf 3) := by rw [e10]; exact hs9_n1
  have hs10_n2 : am_sh H10 (n + 2) = (3, am_Nf 3) := by rw [e10]; exact hs9_n2
  have hs10_n3 : am_sh H10 (n + 3) = (3, am_Nf 3) := by rw [e10]; exact hs9_n3
  have hf10_n_2 : am_gr H10 n 2 = some (n + 3) := by rw [e10]; exact gr_set
  have hz10_n1 : (∀ i, am_gr H10 (n + 1) i = none) ∧ ∀ i, am_gi H10 (n + 1) i = 0 := by rw [e10]; exact ⟨fun i => gr_sr (hz9_n1.1 i) (by omega), hz9_n1.2⟩
  have hz10_n2 : (∀ i, am_gr H10 (n + 2) i = none) ∧ ∀ i, am_gi H10 (n + 2) i = 0 := by rw [e10]; exact ⟨fun i => gr_sr (hz9_n2.1 i) (by omega), hz9_n2.2⟩
  have hz10_n3 : (∀ i, am_gr H10 (n + 3) i = none) ∧ ∀ i, am_gi H10 (n + 3) i = 0 := by rw [e10]; exact ⟨fun i => gr_sr (hz9_n3.1 i) (by omega), hz9_n3.2⟩
  refine ae_iinc (v := 3) (lv' := [(3, .int 3), (0, .ref a), (1, .int k), (2, .ref b)]) (q := 45) dX4_init_42 rfl (by decide) (by decide) rfl rfl ?_
  refine ae_goto (q := 24) dX4_init_45 (by decide) ?_
  refine ae_iload_n (q := 25) dX4_init_24 rfl rfl rfl ?_
  refine ae_iconst (v := 3) (q := 26) dX4_init_25 (by decide) rfl ?_
  refine ae_icmp_ge (t := 48) (q := 29) dX4_init_26 (by decide) rfl (fun _ => ?_) (fun h => absurd h (by decide))
  refine ae_vret dX4_init_48 rfl ?_
  exact ⟨rfl, hn10, hm10, hs10_a, hg10_a_0, hf10_a_1, hf10_a_3, hg10_a_2, hg10_a_4, hg10_a_5, hg10_a_6, hg10_a_7, hg10_a_8, hg10_a_9, hs10_n, hf10_n_0, hf10_n_1, hf10_n_2, hs10_n1, hs10_n2, hs10_n3, hz10_n1, hz10_n2, hz10_n3⟩
