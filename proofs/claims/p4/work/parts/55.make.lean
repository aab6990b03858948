theorem am_Kp.rf {lo hi : Nat} {H : am_H} : am_Kp lo hi H H := fun _ _ _ => ⟨rfl, rfl, rfl⟩
theorem zA.re {H0 H H1 : am_H} (h : zA H0 H) (k : am_Kp 26 28 H H1) : zA H1 H1 := by
  obtain ⟨h1, h2, h3, h4, h5, h6, h7, h8⟩ := h
  obtain ⟨a1, a2, a3⟩ := k 26 (by omega) (by omega)
  exact ⟨a1.trans h1, by rw [a2]; exact h2, by rw [a2]; exact h3, by rw [a2]; exact h4, fun y => by rw [a3]; exact h5 y, (k 27 (by omega) (by omega)).1.trans h6, h7.kp k (by omega) (by omega), am_Kp.rf⟩
theorem zB.re {H0 H H1 : am_H} (h : zB H0 H) (k : am_Kp 26 269 H H1) : zB H1 H1 := by
  obtain ⟨h1, h2, h3, h4⟩ := h
  obtain ⟨a1, a2, -⟩ := k 28 (by omega) (by omega)
  exact ⟨h1.re (k.sub (by omega) (by omega)), a1.trans h2, fun t ht => by rw [a2]; exact h3 t ht, fun t ht => (h4 t ht).kp (k.sub (by omega) (by omega))⟩
theorem zC.re {H0 H H1 : am_H} (h : zC H0 H) (k : am_Kp 26 278 H H1) : zC H1 H1 := by
  obtain ⟨h1, h5, h2, h3, h4⟩ := h
  obtain ⟨a1, a2, -⟩ := k 269 (by omega) (by omega)
  exact ⟨h1.re (k.sub (by omega) (by omega)), by rw [(k 26 (by omega) (by omega)).2.1]; exact h5, a1.trans h2, fun t ht => by rw [a2]; exact h3 t ht, fun t ht => (h4 t ht).kp (k.sub (by omega) (by omega))⟩
theorem zD.re {H0 H H1 : am_H} (h : zD H0 H) (k : am_Kp 26 285 H H1) : zD H1 H1 := by
  obtain ⟨h1, h5, h2, h3, h4⟩ := h
  obtain ⟨a1, a2, -⟩ := k 278 (by omega) (by omega)
  exact ⟨h1.re (k.sub (by omega) (by omega)), by rw [(k 26 (by omega) (by omega)).2.1]; exact h5, a1.trans h2, fun t ht => by rw [a2]; exact h3 t ht, fun t ht => (h4 t ht).kp (k.sub (by omega) (by omega))⟩
/-! The class's constructor whole, and the law's start. -/
def zY (H : am_H) : Prop := am_nx H = 288 ∧ (am_sh H 0 = (6, am_Nf 6) ∧ am_gr H 0 0 = some 1 ∧ am_gr H 0 1 = some 26) ∧ (am_sh H 1 = (103 + 0, 8) ∧ (∀ i, i < 8 → am_gr H 1 i = some (2 + 3 * i)) ∧ ∀ i, i < 8 → ly_B i H) ∧ ∃ H0, zE H0 H
set_option maxRecDepth 100000 in
set_option maxHeartbeats 4000000 in
theorem e_X6_init {ox : List (Nat × (Nat → Int32))} {d : Nat} {H : am_H} (hn : am_nx H = 1) (hs : am_sh H 0 = (6, am_Nf 6)) : am_D ox (d + 4) yX6_init mX6_init [.ref 0] H (fun o H1 => o = .inl none ∧ zY H1) := by
  refine ae_enter rfl rfl rfl rfl (Nat.le_of_ble_eq_true rfl) ?_
  show am_E ox (d + 4) mX6_init 0 [(0, .ref 0)] [] H _
  refine ae_aload_n (q := 1) dX6_init_0 rfl rfl rfl ?_
  refine ae_objInit (q := 4) dX6_init_1 (Nat.succ_le_succ (Nat.zero_le _)) lk_X6_1 im_obj cd_obj (by decide) rfl ?_
  refine ae_aload_n (q := 5) dX6_init_4 rfl rfl rfl ?_
  refine ae_bipush (v := 8) (q := 7) dX6_init_5 (by decide) rfl ?_
  refine ae_newQ (k := 0) (t := 3) (N := 8) (q := 10) dX6_init_7 cw_X6_9 (fun B0 ρ s h => h.2.2.2.1 RX0 (by decide +kernel)) rfl (by decide) (by decide) (by decide) (by intro x hx; rcases List.mem_singleton.mp hx with rfl; exact am_okr (by omega)) (by intro x hx; rcases List.mem_singleton.mp hx with rfl; exact am_okr (by omega)) (by omega) rfl ?_
  rw [hn]
  refine ae_gen (fun G1 e1 => ?_)
  have n1 : am_nx G1 = 2 := by rw [e1]; show am_nx H + 1 = 2; omega
  have s1 : am_sh G1 1 = (103 + 0, 8) := by rw [e1, ← hn]; exact am_sh_nw
  have s0 : am_sh G1 0 = (6, am_Nf 6) := by rw [e1]; exact sh_nw hs (by omega)
  refine ae_putF (q := 13) dX6_init_10 fl_X6_11 rfl rfl (fun r h => by cases h; rfl) (fun _ => rfl) (fun _ => rfl) s0 (by omega) (by omega) rfl ?_
  refine ae_gen (fun G2 e2 => ?_)
  refine ae_iconst (v := 0) (q := 14) dX6_init_13 (by decide) rfl ?_
  refine ae_istore_n (lv' := [(1, .int 0), (0, .ref 0)]) (q := 15) dX6_init_14 rfl (by decide) rfl rfl ?_
  show am_E ox (d + 2 + 2) mX6_init 15 [(1, .int (nI 0)), (0, .ref 0)] [] G2 _
  refine lp_6 (fun G3 h3 => ?_) 8 0 G2 rfl ⟨by rw [e2]; exact n1, by rw [e2]; exact s0, by rw [e2]; exact gr_set, by rw [e2]; exact s1, fun i h => absurd h (Nat.not_lt_zero i), fun i h => absurd h (Nat.not_lt_zero i)⟩
  obtain ⟨n3, y1, y2, y3, y4, y5⟩ := h3
  have n3 : am_nx G3 = 26 := n3
  refine ae_aload_n (q := 41) dX6_init_40 rfl rfl rfl ?_
  refine ae_new (q := 44) dX6_init_41 cn_X6_16 (by intro x hx; simp only [List.mem_cons, List.not_mem_nil, or_false] at hx; rcases hx with rfl <;> first | trivial | exact am_okr (by omega)) (by intro x hx; simp only [List.mem_cons, List.not_mem_nil, or_false] at hx; rcases hx with rfl | rfl <;> first | trivial | exact am_okr (by omega)) (by omega) rfl ?_
  rw [n3]
  refine ae_gen (fun G4 e4 => ?_)
  have n4 : am_nx G4 = 27 := by rw [e4]; show am_nx G3 + 1 = 27; omega
  have k4 : am_Kp 0 26 G3 G4 := by rw [e4]; exact am_Kp.nw (by omega)
  have s4 : am_sh G4 26 = (2, am_Nf 2) := by rw [e4, ← n3]; exact am_sh_nw
  have g4 : ∀ y, am_gi G4 26 y = 0 := fun y => by rw [e4, ← n3]; exact gi_fresh
  refine ae_dup (q := 45) dX6_init_44 rfl rfl ?_
  refine ae_aload_n (q := 46) dX6_init_45 rfl rfl rfl ?_
  obtain ⟨p1, p2, -⟩ := k4 0 (by omega) (by omega)
  refine ae_getR (q := 49) dX6_init_46 fl_X6_11 rfl (p1.trans y1) (by omega) (by rw [p2]; exact y2) rfl ?_
  refine ae_callI (as := [.ref 1]) (b := 26) (st := [.ref 26, .ref 0]) (q := 52) dX6_init_49 (e_X2_init (d := d) n4 s4 g4) myX2_init rfl rfl lk_X6_18 im_X2_init rfl rfl (Nat.le_of_ble_eq_true rfl) rfl (fun o H1 h => h.1) (fun G5 hG => ?_)
  obtain ⟨-, hE⟩ := hG
  have n5 : am_nx G5 = 288 := hE.1
  have k5 : am_Kp 0 26 G4 G5 := hE.2.1.1.1.1.2.2.2.2.2.2.2
  refine ⟨Or.inr ⟨by omega, by intro x hx; simp only [List.mem_cons, List.not_mem_nil, or_false] at hx; rcases hx with rfl | rfl <;> first | trivial | exact am_okr (by omega), by intro x hx; simp only [List.mem_cons, List.not_mem_nil, or_false] at hx; rcases hx with rfl | rfl <;> first | trivial | exact am_okr (by omega)⟩, ?_⟩
  have k6 := k4.trans k5
  obtain ⟨r1, r2, -⟩ := k6 0 (by omega) (by omega)
  obtain ⟨t1, t2, -⟩ := k6 1 (by omega) (by omega)
  refine ae_putF (q := 55) dX6_init_52 fl_X6_21 rfl rfl (fun r h => by cases h; rfl) (fun _ => rfl) (fun _ => rfl) (r1.trans y1) (by omega) (by omega) rfl ?_
  refine ae_gen (fun G6 e6 => ?_)
  have k7 : am_Kp 1 288 G5 G6 := by rw [e6]; exact am_Kp.sr (by omega)
  refine ae_vret dX6_init_55 rfl ?_
  refine ⟨rfl, by rw [e6]; exact n5, ⟨by rw [e6]; exact r1.trans y1, ?_, by rw [e6]; exact gr_set⟩, ⟨by rw [e6]; exact t1.trans y3, fun i hi => ?_, fun i hi => ?_⟩, ?_⟩
  · rw [e6]; refine gr_sr ?_ (by omega); rw [r2]; exact y2
  · rw [e6]; refine gr_sr ?_ (by omega); rw [t2]; exact y4 i hi
  · exact ((y5 i hi).kp (k6.sub (by omega) (by omega))).kp (k7.sub (by omega) (by omega))
  · refine ⟨G6, ?_⟩
    obtain ⟨-, hD, ⟨f1, f2, f3⟩, ⟨q1, q2, q3⟩, z1, z2, z3⟩ := hE
    refine ⟨by rw [e6]; exact n5, ?_, ⟨?_, ?_, ?_⟩, ⟨?_, ?_, ?_⟩, z1.kp k7 (by omega) (by omega), z2.kp k7 (by omega) (by omega), z3.kp k7 (by omega) (by omega)⟩
    · exact zD.re hD (k7.sub (by omega) (by omega))
    · rw [e6]; exact gr_sr f1 (by omega)
    · rw [e6]; exact gr_sr f2 (by omega)
    · rw [e6]; exact gr_sr f3 (by omega)
    · rw [e6]; exact q1
    · rw [e6]; exact q2
    · rw [e6]; exact q3
