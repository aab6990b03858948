/-! The class's constructors whole. -/
def zA (H0 H : am_H) : Prop := am_sh H 26 = (2, am_Nf 2) ∧ am_gr H 26 0 = some 1 ∧ am_gr H 26 1 = some 28 ∧ am_gr H 26 3 = some 27 ∧ (∀ y, am_gi H 26 y = 0) ∧ am_sh H 27 = (3, am_Nf 3) ∧ am_zr 27 H ∧ am_Kp 0 26 H0 H
theorem zA.kp {H0 H H1 : am_H} (h : zA H0 H) (k : am_Kp 0 28 H H1) : zA H0 H1 := by
  obtain ⟨h1, h2, h3, h4, h5, h6, h7, h8⟩ := h
  obtain ⟨a1, a2, a3⟩ := k 26 (by omega) (by omega)
  exact ⟨a1.trans h1, by rw [a2]; exact h2, by rw [a2]; exact h3, by rw [a2]; exact h4, fun y => by rw [a3]; exact h5 y, (k 27 (by omega) (by omega)).1.trans h6, h7.kp k (by omega) (by omega), h8.trans (k.sub (by omega) (by omega))⟩
theorem zA.sr {H0 H : am_H} {k : Nat} {v : Option Nat} (h : zA H0 H) (hk : 4 ≤ k) : zA H0 (am_sr H 26 k v) := by
  obtain ⟨h1, h2, h3, h4, h5, h6, h7, h8⟩ := h
  exact ⟨h1, gr_sr h2 (by omega), gr_sr h3 (by omega), gr_sr h4 (by omega), h5, h6, ⟨fun i => gr_sr (h7.1 i) (by omega), h7.2⟩, h8.trans (am_Kp.sr (by omega))⟩
def zB (H0 H : am_H) : Prop := zA H0 H ∧ am_sh H 28 = (103 + 4, 48) ∧ (∀ t, t < 48 → am_gr H 28 t = some (29 + 5 * t)) ∧ ∀ t, t < 48 → ly_T t H
theorem zB.kp {H0 H H1 : am_H} (h : zB H0 H) (k : am_Kp 0 269 H H1) : zB H0 H1 := by
  obtain ⟨h1, h2, h3, h4⟩ := h
  obtain ⟨a1, a2, -⟩ := k 28 (by omega) (by omega)
  exact ⟨h1.kp (k.sub (by omega) (by omega)), a1.trans h2, fun t ht => by rw [a2]; exact h3 t ht, fun t ht => (h4 t ht).kp (k.sub (by omega) (by omega))⟩
theorem zB.sr {H0 H : am_H} {k : Nat} {v : Option Nat} (h : zB H0 H) (hk : 4 ≤ k) : zB H0 (am_sr H 26 k v) := by
  obtain ⟨h1, h2, h3, h4⟩ := h
  exact ⟨h1.sr hk, h2, fun t ht => gr_sr (h3 t ht) (by omega), fun t ht => (h4 t ht).kp (am_Kp.sr (by omega))⟩
def zC (H0 H : am_H) : Prop := zB H0 H ∧ am_gr H 26 4 = some 269 ∧ am_sh H 269 = (103 + 1, 2) ∧ (∀ t, t < 2 → am_gr H 269 t = some (270 + 4 * t)) ∧ ∀ t, t < 2 → ly_P t H
theorem zC.kp {H0 H H1 : am_H} (h : zC H0 H) (k : am_Kp 0 278 H H1) : zC H0 H1 := by
  obtain ⟨h1, h5, h2, h3, h4⟩ := h
  obtain ⟨a1, a2, -⟩ := k 269 (by omega) (by omega)
  exact ⟨h1.kp (k.sub (by omega) (by omega)), by rw [(k 26 (by omega) (by omega)).2.1]; exact h5, a1.trans h2, fun t ht => by rw [a2]; exact h3 t ht, fun t ht => (h4 t ht).kp (k.sub (by omega) (by omega))⟩
theorem zC.sr {H0 H : am_H} {k : Nat} {v : Option Nat} (h : zC H0 H) (hk : 5 ≤ k) : zC H0 (am_sr H 26 k v) := by
  obtain ⟨h1, h5, h2, h3, h4⟩ := h
  exact ⟨h1.sr (by omega), gr_sr h5 (by omega), h2, fun t ht => gr_sr (h3 t ht) (by omega), fun t ht => (h4 t ht).kp (am_Kp.sr (by omega))⟩
def zD (H0 H : am_H) : Prop := zC H0 H ∧ am_gr H 26 5 = some 278 ∧ am_sh H 278 = (103 + 5, 3) ∧ (∀ t, t < 3 → am_gr H 278 t = some (279 + 2 * t)) ∧ ∀ t, t < 3 → ly_W t H
theorem zD.kp {H0 H H1 : am_H} (h : zD H0 H) (k : am_Kp 0 285 H H1) : zD H0 H1 := by
  obtain ⟨h1, h5, h2, h3, h4⟩ := h
  obtain ⟨a1, a2, -⟩ := k 278 (by omega) (by omega)
  exact ⟨h1.kp (k.sub (by omega) (by omega)), by rw [(k 26 (by omega) (by omega)).2.1]; exact h5, a1.trans h2, fun t ht => by rw [a2]; exact h3 t ht, fun t ht => (h4 t ht).kp (k.sub (by omega) (by omega))⟩
theorem zD.sr {H0 H : am_H} {k : Nat} {v : Option Nat} (h : zD H0 H) (hk : 6 ≤ k) : zD H0 (am_sr H 26 k v) := by
  obtain ⟨h1, h5, h2, h3, h4⟩ := h
  exact ⟨h1.sr (by omega), gr_sr h5 (by omega), h2, fun t ht => gr_sr (h3 t ht) (by omega), fun t ht => (h4 t ht).kp (am_Kp.sr (by omega))⟩
def zE (H0 H : am_H) : Prop := am_nx H = 288 ∧ zD H0 H ∧ (am_gr H 26 8 = some 285 ∧ am_gr H 26 9 = some 286 ∧ am_gr H 26 10 = some 287) ∧ (am_sh H 285 = (100, 4) ∧ am_sh H 286 = (101, 4) ∧ am_sh H 287 = (100, 40)) ∧ am_zr 285 H ∧ am_zr 286 H ∧ am_zr 287 H
theorem am_Kx.kp {n H H1} (h : am_Kx (n + 1) n H H1) : am_Kp 0 n H H1 := fun x _ hx => h x (by omega) (by omega)
set_option maxRecDepth 100000 in
set_option maxHeartbeats 4000000 in
theorem e_X2_init {ox : List (Nat × (Nat → Int32))} {d : Nat} {H : am_H} (hn : am_nx H = 27) (hs : am_sh H 26 = (2, am_Nf 2)) (hg : ∀ y, am_gi H 26 y = 0) : am_D ox (d + 3) yX2_init mX2_init [.ref 26, .ref 1] H (fun o H1 => o = .inl none ∧ zE H H1) := by
  refine ae_enter rfl rfl rfl rfl (Nat.le_of_ble_eq_true rfl) ?_
  show am_E ox (d + 3) mX2_init 0 [(0, .ref 26), (1, .ref 1)] [] H _
  have ok1 : ∀ (n : Nat), 28 ≤ n + 1 → ∀ x ∈ ([(0, Value.ref 26), (1, .ref 1)] : List (Nat × Value)), am_ok n x.2 := fun n hn x hx => by
    simp only [List.mem_cons, List.not_mem_nil, or_false] at hx
    rcases hx with rfl | rfl <;> exact am_okr (by omega)
  have ok2 : ∀ (n k : Nat), 28 ≤ n → ∀ x ∈ ([(2, Value.int (nI k)), (0, .ref 26), (1, .ref 1)] : List (Nat × Value)), am_ok n x.2 := fun n k hn x hx => by
    simp only [List.mem_cons, List.not_mem_nil, or_false] at hx
    rcases hx with rfl | rfl | rfl <;> first | trivial | exact am_okr (by omega)
  have oks : ∀ (n : Nat), 27 ≤ n → ∀ x ∈ ([Value.ref 26] : List Value), am_ok n x := fun n hn x hx => by
    rcases List.mem_singleton.mp hx with rfl
    exact am_okr (by omega)
  refine ae_aload_n (q := 1) dX2_init_0 rfl rfl rfl ?_
  refine ae_objInit (q := 4) dX2_init_1 (Nat.succ_le_succ (Nat.zero_le _)) lk_X2_3 im_obj cd_obj (by decide) rfl ?_
  refine ae_aload_n (q := 5) dX2_init_4 rfl rfl rfl ?_
  refine ae_aload_n (q := 6) dX2_init_5 rfl rfl rfl ?_
  refine ae_putF (q := 9) dX2_init_6 fl_X2_9 rfl rfl (fun r h => by cases h; rfl) (fun _ => rfl) (fun _ => rfl) hs (by omega) (by omega) rfl ?_
  refine ae_gen (fun G1 e1 => ?_)
  have n1 : am_nx G1 = 27 := by rw [e1]; exact hn
  have k1 : am_Kp 0 26 H G1 := by rw [e1]; exact am_Kp.sr (by omega)
  have s1 : am_sh G1 26 = (2, am_Nf 2) := by rw [e1]; exact hs
  have g1 : ∀ y, am_gi G1 26 y = 0 := by rw [e1]; exact hg
  have f1 : am_gr G1 26 0 = some 1 := by rw [e1]; exact gr_set
  refine ae_aload_n (q := 10) dX2_init_9 rfl rfl rfl ?_
  refine ae_new (q := 13) dX2_init_10 cn_X2_15 (oks _ (by omega)) (ok1 _ (by omega)) (by omega) rfl ?_
  rw [n1]
  refine ae_gen (fun G2 e2 => ?_)
  have n2 : am_nx G2 = 28 := by rw [e2]; show am_nx G1 + 1 = 28; omega
  have k2 : am_Kp 0 27 G1 G2 := by rw [e2]; exact am_Kp.nw (by omega)
  have s27 : am_sh G2 27 = (3, am_Nf 3) := by rw [e2, ← n1]; exact am_sh_nw
  have z27 : am_zr 27 G2 := by rw [e2, ← n1]; exact ⟨fun _ => gr_fresh, fun _ => gi_fresh⟩
  refine ae_dup (q := 14) dX2_init_13 rfl rfl ?_
  refine ae_callIN (as := []) (b := 27) (st := [.ref 27, .ref 26]) (q := 17) dX2_init_14 (e_X3_init (d := d + 1)) myX3_init rfl rfl (show Cond.methodLinkNest RX2 17 yX3_init "PhaserYard" ∈ am_nst from by decide +kernel) im_X3_init rfl rfl (by decide) rfl (fun o H1 h => h.1) (fun G h => ?_)
  obtain ⟨-, rfl⟩ := h
  refine ⟨Or.inl rfl, ?_⟩
  obtain ⟨q1, q2, q3⟩ := k2 26 (by omega) (by omega)
  refine ae_putF (q := 20) dX2_init_17 fl_X2_18 rfl rfl (fun r h => by cases h; rfl) (fun _ => rfl) (fun _ => rfl) (q1.trans s1) (by omega) (by omega) rfl ?_
  refine ae_gen (fun G3 e3 => ?_)
  have n3 : am_nx G3 = 28 := by rw [e3]; exact n2
  refine ae_aload_n (q := 21) dX2_init_20 rfl rfl rfl ?_
  refine ae_bipush (v := 48) (q := 23) dX2_init_21 (by decide) rfl ?_
  refine ae_newQ (k := 4) (t := 6) (N := 48) (q := 26) dX2_init_23 cw_X2_22 (fun B0 ρ s h => h.2.2.2.1 RX4 (by decide +kernel)) rfl (by decide) (by decide) (by decide) (oks _ (by omega)) (ok1 _ (by omega)) (by omega) rfl ?_
  rw [n3]
  refine ae_gen (fun G4 e4 => ?_)
  have n4 : am_nx G4 = 29 := by rw [e4]; show am_nx G3 + 1 = 29; omega
  have k4 : am_Kp 0 28 G3 G4 := by rw [e4]; exact am_Kp.nw (by omega)
  have s28 : am_sh G4 28 = (103 + 4, 48) := by rw [e4, ← n3]; exact am_sh_nw
  have s3 : am_sh G3 26 = (2, am_Nf 2) := by rw [e3]; exact q1.trans s1
  refine ae_putF (q := 29) dX2_init_26 fl_X2_24 rfl rfl (fun r h => by cases h; rfl) (fun _ => rfl) (fun _ => rfl) ((k4 26 (by omega) (by omega)).1.trans s3) (by omega) (by omega) rfl ?_
  refine ae_gen (fun G5 e5 => ?_)
  have n5 : am_nx G5 = 29 := by rw [e5]; exact n4
  have hA : zA H G5 := by
    obtain ⟨p1, p2, p3⟩ := k4 26 (by omega) (by omega)
    have k3 : am_Kp 0 26 G G3 := by rw [e3]; exact am_Kp.sr (by omega)
    refine ⟨?_, ?_, ?_, ?_, ?_, ?_, ?_, ?_⟩
    · rw [e5]; exact p1.trans s3
    · rw [e5]; refine gr_sr ?_ (by omega); rw [p2, e3]; refine gr_sr ?_ (by omega); rw [q2]; exact f1
    · rw [e5]; exact gr_set
    · rw [e5]; refine gr_sr ?_ (by omega); rw [p2, e3]; exact gr_set
    · intro y; rw [e5]; show am_gi G4 26 y = 0; rw [p3, e3]; show am_gi G 26 y = 0; rw [q3]; exact g1 y
    · rw [e5]; exact ((k4 27 (by omega) (by omega)).1.trans (by rw [e3]; exact s27))
    · have z3 : am_zr 27 G3 := by rw [e3]; exact ⟨fun i => gr_sr (z27.1 i) (by omega), z27.2⟩
      have z4 : am_zr 27 G4 := z3.kp k4 (by omega) (by omega)
      rw [e5]; exact ⟨fun i => gr_sr (z4.1 i) (by omega), z4.2⟩
    · exact ((k1.trans (k2.sub (by omega) (by omega))).trans k3).trans ((k4.sub (by omega) (by omega)).trans (by rw [e5]; exact am_Kp.sr (by omega)))
  refine ae_iconst (v := 0) (q := 30) dX2_init_29 (by decide) rfl ?_
  refine ae_istore_n (lv' := [(2, .int 0), (0, .ref 26), (1, .ref 1)]) (q := 31) dX2_init_30 rfl (by decide) rfl rfl ?_
  show am_E ox (d + 3) mX2_init 31 [(2, .int (nI 0)), (0, .ref 26), (1, .ref 1)] [] G5 _
  refine lp_T (Z := zA H) (fun H2 H3 k h => h.kp (am_Kx.kp k)) (fun H2 h => ⟨h.1, h.2.2.1, h.2.2.2.1⟩) (fun G6 h6 => ?_) 48 0 G5 rfl ⟨by omega, hA, by rw [e5]; exact s28, fun i h => absurd h (Nat.not_lt_zero i), fun i h => absurd h (Nat.not_lt_zero i)⟩
  obtain ⟨n6, hA6, s6, r6, l6⟩ := h6
  have n6 : am_nx G6 = 269 := n6
  have hB6 : zB H G6 := ⟨hA6, s6, r6, l6⟩
  refine ae_aload_n (q := 62) dX2_init_61 rfl rfl rfl ?_
  refine ae_iconst (v := 2) (q := 63) dX2_init_62 (by decide) rfl ?_
  refine ae_newQ (k := 1) (t := 4) (N := 2) (q := 66) dX2_init_63 cw_X2_31 (fun B0 ρ s h => h.2.2.2.1 RX1 (by decide +kernel)) rfl (by decide) (by decide) (by decide) (oks _ (by omega)) (ok2 _ 48 (by omega)) (by omega) rfl ?_
  rw [n6]
  refine ae_gen (fun G7 e7 => ?_)
  have n7 : am_nx G7 = 270 := by rw [e7]; show am_nx G6 + 1 = 270; omega
  have hB7 : zB H G7 := hB6.kp (by rw [e7]; exact am_Kp.nw (by omega))
  have s7 : am_sh G7 269 = (103 + 1, 2) := by rw [e7, ← n6]; exact am_sh_nw
  refine ae_putF (q := 69) dX2_init_66 fl_X2_33 rfl rfl (fun r h => by cases h; rfl) (fun _ => rfl) (fun _ => rfl) hB7.1.1 (by omega) (by omega) rfl ?_
  refine ae_gen (fun G8 e8 => ?_)
  have n8 : am_nx G8 = 270 := by rw [e8]; exact n7
  have hB8 : zB H G8 := by rw [e8]; exact hB7.sr (by omega)
  have r8 : am_gr G8 26 4 = some 269 := by rw [e8]; exact gr_set
  refine ae_iconst (v := 0) (q := 70) dX2_init_69 (by decide) rfl ?_
  refine ae_istore_n (lv' := [(2, .int 0), (0, .ref 26), (1, .ref 1)]) (q := 71) dX2_init_70 rfl (by decide) rfl rfl ?_
  show am_E ox (d + 3) mX2_init 71 [(2, .int (nI 0)), (0, .ref 26), (1, .ref 1)] [] G8 _
  refine lp_P (Z := fun G => zB H G ∧ am_gr G 26 4 = some 269) (fun H2 H3 k h => ⟨h.1.kp (am_Kx.kp k), by rw [(k 26 (by omega) (by omega)).2.1]; exact h.2⟩) (fun H2 h => ⟨h.1.1.1, h.2, h.1.1.2.2.2.1⟩) (fun G9 h9 => ?_) 2 0 G8 rfl ⟨by omega, ⟨hB8, r8⟩, by rw [e8]; exact s7, fun i h => absurd h (Nat.not_lt_zero i), fun i h => absurd h (Nat.not_lt_zero i)⟩
  obtain ⟨n9, ⟨hB9, r9⟩, s9, t9, l9⟩ := h9
  have n9 : am_nx G9 = 278 := n9
  have hC9 : zC H G9 := ⟨hB9, r9, s9, t9, l9⟩
  refine ae_aload_n (q := 96) dX2_init_95 rfl rfl rfl ?_
  refine ae_iconst (v := 3) (q := 97) dX2_init_96 (by decide) rfl ?_
  refine ae_newQ (k := 5) (t := 7) (N := 3) (q := 100) dX2_init_97 cw_X2_38 (fun B0 ρ s h => h.2.2.2.1 RX5 (by decide +kernel)) rfl (by decide) (by decide) (by decide) (oks _ (by omega)) (ok2 _ 2 (by omega)) (by omega) rfl ?_
  rw [n9]
  refine ae_gen (fun Ga ea => ?_)
  have na : am_nx Ga = 279 := by rw [ea]; show am_nx G9 + 1 = 279; omega
  have hCa : zC H Ga := hC9.kp (by rw [ea]; exact am_Kp.nw (by omega))
  have sa : am_sh Ga 278 = (103 + 5, 3) := by rw [ea, ← n9]; exact am_sh_nw
  refine ae_putF (q := 103) dX2_init_100 fl_X2_40 rfl rfl (fun r h => by cases h; rfl) (fun _ => rfl) (fun _ => rfl) hCa.1.1.1 (by omega) (by omega) rfl ?_
  refine ae_gen (fun Gb eb => ?_)
  have nb : am_nx Gb = 279 := by rw [eb]; exact na
  have hCb : zC H Gb := by rw [eb]; exact hCa.sr (by omega)
  have rb : am_gr Gb 26 5 = some 278 := by rw [eb]; exact gr_set
  refine ae_iconst (v := 0) (q := 104) dX2_init_103 (by decide) rfl ?_
  refine ae_istore_n (lv' := [(2, .int 0), (0, .ref 26), (1, .ref 1)]) (q := 105) dX2_init_104 rfl (by decide) rfl rfl ?_
  show am_E ox (d + 3) mX2_init 105 [(2, .int (nI 0)), (0, .ref 26), (1, .ref 1)] [] Gb _
  refine lp_W (Z := fun G => zC H G ∧ am_gr G 26 5 = some 278) (fun H2 H3 k h => ⟨h.1.kp (am_Kx.kp k), by rw [(k 26 (by omega) (by omega)).2.1]; exact h.2⟩) (fun H2 h => ⟨h.1.1.1.1, h.2, h.1.1.1.2.2.2.1⟩) (fun Gc hc => ?_) 3 0 Gb rfl ⟨by omega, ⟨hCb, rb⟩, by rw [eb]; exact sa, fun i h => absurd h (Nat.not_lt_zero i), fun i h => absurd h (Nat.not_lt_zero i)⟩
  obtain ⟨nc, ⟨hCc, rc⟩, sc, tc, lc⟩ := hc
  have nc : am_nx Gc = 285 := nc
  have hDc : zD H Gc := ⟨hCc, rc, sc, tc, lc⟩
  refine ae_aload_n (q := 130) dX2_init_129 rfl rfl rfl ?_
  refine ae_iconst (v := 4) (q := 131) dX2_init_130 (by decide) rfl ?_
  refine ae_newI (N := 4) (q := 133) dX2_init_131 ac_int (by decide) (by decide) (by decide) (oks _ (by omega)) (ok2 _ 3 (by omega)) (by omega) rfl ?_
  rw [nc]
  refine ae_gen (fun Gd ed => ?_)
  have nd : am_nx Gd = 286 := by rw [ed]; show am_nx Gc + 1 = 286; omega
  have hDd : zD H Gd := hDc.kp (by rw [ed]; exact am_Kp.nw (by omega))
  have sd : am_sh Gd 285 = (100, 4) := by rw [ed, ← nc]; exact am_sh_nw
  have zd : am_zr 285 Gd := by rw [ed, ← nc]; exact ⟨fun _ => gr_fresh, fun _ => gi_fresh⟩
  refine ae_putF (q := 136) dX2_init_133 fl_X2_45 rfl rfl (fun r h => by cases h; rfl) (fun _ => rfl) (fun _ => rfl) hDd.1.1.1.1 (by omega) (by omega) rfl ?_
  refine ae_gen (fun Ge ee => ?_)
  have ne : am_nx Ge = 286 := by rw [ee]; exact nd
  have hDe : zD H Ge := by rw [ee]; exact hDd.sr (by omega)
  have re : am_gr Ge 26 8 = some 285 := by rw [ee]; exact gr_set
  have se : am_sh Ge 285 = (100, 4) := by rw [ee]; exact sd
  have ze : am_zr 285 Ge := by rw [ee]; exact ⟨fun i => gr_sr (zd.1 i) (by omega), zd.2⟩
  refine ae_aload_n (q := 137) dX2_init_136 rfl rfl rfl ?_
  refine ae_iconst (v := 4) (q := 138) dX2_init_137 (by decide) rfl ?_
  refine ae_newZ (N := 4) (q := 140) dX2_init_138 ac_boolean (by decide) (by decide) (by decide) (oks _ (by omega)) (ok2 _ 3 (by omega)) (by omega) rfl ?_
  rw [ne]
  refine ae_gen (fun Gf ef => ?_)
  have nf : am_nx Gf = 287 := by rw [ef]; show am_nx Ge + 1 = 287; omega
  have kf : am_Kp 0 286 Ge Gf := by rw [ef]; exact am_Kp.nw (by omega)
  have hDf : zD H Gf := hDe.kp (kf.sub (by omega) (by omega))
  have sf : am_sh Gf 286 = (101, 4) := by rw [ef, ← ne]; exact am_sh_nw
  have zf : am_zr 286 Gf := by rw [ef, ← ne]; exact ⟨fun _ => gr_fresh, fun _ => gi_fresh⟩
  refine ae_putF (q := 143) dX2_init_140 fl_X2_49 rfl rfl (fun r h => by cases h; rfl) (fun _ => rfl) (fun _ => rfl) hDf.1.1.1.1 (by omega) (by omega) rfl ?_
  refine ae_gen (fun Gg eg => ?_)
  have ng : am_nx Gg = 287 := by rw [eg]; exact nf
  have hDg : zD H Gg := by rw [eg]; exact hDf.sr (by omega)
  have rg : am_gr Gg 26 8 = some 285 := by rw [eg]; refine gr_sr ?_ (by omega); rw [(kf 26 (by omega) (by omega)).2.1]; exact re
  have rg2 : am_gr Gg 26 9 = some 286 := by rw [eg]; exact gr_set
  have kg : am_Kp 27 287 Gf Gg := by rw [eg]; exact am_Kp.sr (by omega)
  have sg : am_sh Gg 285 = (100, 4) := by rw [eg]; exact (kf 285 (by omega) (by omega)).1.trans se
  have zg : am_zr 285 Gg := (ze.kp kf (by omega) (by omega)).kp kg (by omega) (by omega)
  have sg2 : am_sh Gg 286 = (101, 4) := by rw [eg]; exact sf
  have zg2 : am_zr 286 Gg := zf.kp kg (by omega) (by omega)
  refine ae_aload_n (q := 144) dX2_init_143 rfl rfl rfl ?_
  refine ae_bipush (v := 40) (q := 146) dX2_init_144 (by decide) rfl ?_
  refine ae_newI (N := 40) (q := 148) dX2_init_146 ac_int (by decide) (by decide) (by decide) (oks _ (by omega)) (ok2 _ 3 (by omega)) (by omega) rfl ?_
  rw [ng]
  refine ae_gen (fun Gh eh => ?_)
  have nh : am_nx Gh = 288 := by rw [eh]; show am_nx Gg + 1 = 288; omega
  have kh : am_Kp 0 287 Gg Gh := by rw [eh]; exact am_Kp.nw (by omega)
  have hDh : zD H Gh := hDg.kp (kh.sub (by omega) (by omega))
  have sh' : am_sh Gh 287 = (100, 40) := by rw [eh, ← ng]; exact am_sh_nw
  have zh : am_zr 287 Gh := by rw [eh, ← ng]; exact ⟨fun _ => gr_fresh, fun _ => gi_fresh⟩
  refine ae_putF (q := 151) dX2_init_148 fl_X2_53 rfl rfl (fun r h => by cases h; rfl) (fun _ => rfl) (fun _ => rfl) hDh.1.1.1.1 (by omega) (by omega) rfl ?_
  refine ae_gen (fun Gi ei => ?_)
  have ki : am_Kp 27 288 Gh Gi := by rw [ei]; exact am_Kp.sr (by omega)
  refine ae_vret dX2_init_151 rfl ?_
  obtain ⟨-, b2, -⟩ := kh 26 (by omega) (by omega)
  refine ⟨rfl, by rw [ei]; exact nh, by rw [ei]; exact hDh.sr (by omega), ⟨?_, ?_, by rw [ei]; exact gr_set⟩, ⟨?_, ?_, by rw [ei]; exact sh'⟩, ?_, ?_, zh.kp ki (by omega) (by omega)⟩
  · rw [ei]; refine gr_sr ?_ (by omega); rw [b2]; exact rg
  · rw [ei]; refine gr_sr ?_ (by omega); rw [b2]; exact rg2
  · rw [ei]; exact (kh 285 (by omega) (by omega)).1.trans sg
  · rw [ei]; exact (kh 286 (by omega) (by omega)).1.trans sg2
  · exact (zg.kp kh (by omega) (by omega)).kp ki (by omega) (by omega)
  · exact (zg2.kp kh (by omega) (by omega)).kp ki (by omega) (by omega)
