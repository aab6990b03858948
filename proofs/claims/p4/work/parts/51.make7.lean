/-! The reference's constructor: thirty arrays, one behind the other. -/
def mk_Inv (tb : List (Nat × Nat)) (ci a n : Nat) (H0 : am_H) (j : Nat) (H : am_H) : Prop :=
  am_nx H = n + j ∧ am_Same a n H0 H ∧ am_sh H a = (ci, am_Nf ci) ∧ (∀ i, i < j → am_gr H a i = some (n + i) ∧ am_sh H (n + i) = tb.getD i (0, 0) ∧ (∀ y, am_gr H (n + i) y = none) ∧ ∀ y, am_gi H (n + i) y = 0) ∧ am_gi H a = am_gi H0 a
theorem mk_step {tb : List (Nat × Nat)} {ci a n j k m : Nat} {H0 H H1 : am_H} (h : mk_Inv tb ci a n H0 j H) (ha : a < n) (ht : tb.getD j (0, 0) = (k, m)) (e : H1 = am_sr (am_nw H k m) a j (some (n + j))) : mk_Inv tb ci a n H0 (j + 1) H1 := by
  obtain ⟨h1, h2, h3, h4, h5⟩ := h
  subst e
  have hne : a ≠ am_nx H := by omega
  refine ⟨by show am_nx H + 1 = n + (j + 1); omega, (h2.nw (by omega)).sr (Or.inl rfl), sh_nw h3 (by omega), fun i hi => ?_, ?_⟩
  · by_cases hij : i = j
    · subst hij
      have hx : n + i ≠ a := by omega
      refine ⟨gr_set, ?_, fun y => ?_, fun y => ?_⟩
      · rw [ht, ← h1]; exact am_sh_nw
      · refine gr_sr ?_ (fun q => hx q.1); rw [← h1]; exact gr_fresh
      · show am_gi (am_nw H k m) (n + i) y = 0; rw [← h1]; exact gi_fresh
    · obtain ⟨g1, g2, g3, g4⟩ := h4 i (by omega)
      refine ⟨gr_sr (gr_nw g1 (by omega)) (fun q => hij q.2), sh_nw g2 (by omega), fun y => gr_sr (gr_nw (g3 y) (by omega)) (fun q => by have := q.1; omega), fun y => gi_nw (k := k) (n := m) (g4 y) (by omega)⟩
  · rw [← h5]
    funext y
    exact gi_nw (k := k) (n := m) rfl (by omega)
def mk_tb7 : List (Nat × Nat) := [(100, 8), (100, 128), (100, 128), (100, 48), (100, 48), (100, 48), (100, 48), (100, 48), (100, 48), (100, 48), (100, 48), (100, 4), (101, 48), (101, 48), (101, 48), (101, 4), (100, 96), (100, 96), (100, 96), (100, 2), (100, 145), (100, 145), (100, 145), (100, 145), (100, 145), (100, 145), (100, 3), (100, 3), (100, 144), (100, 40)]
set_option maxRecDepth 100000 in
set_option maxHeartbeats 4000000 in
theorem e_X7_init {ox : List (Nat × (Nat → Int32))} {d n a : Nat} {H : am_H} (hn : am_nx H = n) (hN : n ≤ 900000) (ha : a < n) (hs : am_sh H a = (7, am_Nf 7)) : am_D ox (d + 1) yX7_init mX7_init [.ref a] H (fun o H1 => o = .inl none ∧ mk_Inv mk_tb7 7 a n H 30 H1) := by
  have h0 : mk_Inv mk_tb7 7 a n H 0 H := ⟨hn, am_Same.rf, hs, fun i h => absurd h (Nat.not_lt_zero i), rfl⟩
  refine ae_enter rfl rfl rfl rfl (Nat.le_of_ble_eq_true rfl) ?_
  show am_E ox (d + 1) mX7_init 0 [(0, .ref a)] [] H _
  refine ae_aload_n (q := 1) dX7_init_0 rfl rfl rfl ?_
  refine ae_objInit (q := 4) dX7_init_1 (Nat.succ_le_succ (Nat.zero_le _)) lk_X7_1 im_obj cd_obj (by decide) rfl ?_
  refine ae_aload_n (q := 5) dX7_init_4 rfl rfl rfl ?_
  refine ae_bipush (v := 8) (q := 7) dX7_init_5 (by decide) rfl ?_
  refine ae_newI (N := 8) (q := 9) dX7_init_7 ac_int (by decide) (by decide) (by decide) (by intro x hx; rcases List.mem_singleton.mp hx with rfl; exact am_okr (by have := h0.1; omega)) (by intro x hx; rcases List.mem_singleton.mp hx with rfl; exact am_okr (by have := h0.1; omega)) (by have := h0.1; omega) rfl ?_
  rw [h0.1]
  refine ae_putF (q := 12) dX7_init_9 fl_X7_7 rfl rfl (fun r h => by cases h; rfl) (fun _ => rfl) (fun _ => rfl) (sh_nw h0.2.2.1 (by have := h0.1; omega)) (by show a < am_nx H + 1; have := h0.1; omega) (by show n + 0 < am_nx H + 1; have := h0.1; omega) rfl ?_
  refine ae_gen (fun G1 e1 => ?_)
  have h1 := mk_step h0 ha rfl e1
  refine ae_aload_n (q := 13) dX7_init_12 rfl rfl rfl ?_
  refine ae_sipush (v := 128) (q := 16) dX7_init_13 (by decide) rfl ?_
  refine ae_newI (N := 128) (q := 18) dX7_init_16 ac_int (by decide) (by decide) (by decide) (by intro x hx; rcases List.mem_singleton.mp hx with rfl; exact am_okr (by have := h1.1; omega)) (by intro x hx; rcases List.mem_singleton.mp hx with rfl; exact am_okr (by have := h1.1; omega)) (by have := h1.1; omega) rfl ?_
  rw [h1.1]
  refine ae_putF (q := 21) dX7_init_18 fl_X7_13 rfl rfl (fun r h => by cases h; rfl) (fun _ => rfl) (fun _ => rfl) (sh_nw h1.2.2.1 (by have := h1.1; omega)) (by show a < am_nx G1 + 1; have := h1.1; omega) (by show n + 1 < am_nx G1 + 1; have := h1.1; omega) rfl ?_
  refine ae_gen (fun G2 e2 => ?_)
  have h2 := mk_step h1 ha rfl e2
  refine ae_aload_n (q := 22) dX7_init_21 rfl rfl rfl ?_
  refine ae_sipush (v := 128) (q := 25) dX7_init_22 (by decide) rfl ?_
  refine ae_newI (N := 128) (q := 27) dX7_init_25 ac_int (by decide) (by decide) (by decide) (by intro x hx; rcases List.mem_singleton.mp hx with rfl; exact am_okr (by have := h2.1; omega)) (by intro x hx; rcases List.mem_singleton.mp hx with rfl; exact am_okr (by have := h2.1; omega)) (by have := h2.1; omega) rfl ?_
  rw [h2.1]
  refine ae_putF (q := 30) dX7_init_27 fl_X7_16 rfl rfl (fun r h => by cases h; rfl) (fun _ => rfl) (fun _ => rfl) (sh_nw h2.2.2.1 (by have := h2.1; omega)) (by show a < am_nx G2 + 1; have := h2.1; omega) (by show n + 2 < am_nx G2 + 1; have := h2.1; omega) rfl ?_
  refine ae_gen (fun G3 e3 => ?_)
  have h3 := mk_step h2 ha rfl e3
  refine ae_aload_n (q := 31) dX7_init_30 rfl rfl rfl ?_
  refine ae_bipush (v := 48) (q := 33) dX7_init_31 (by decide) rfl ?_
  refine ae_newI (N := 48) (q := 35) dX7_init_33 ac_int (by decide) (by decide) (by decide) (by intro x hx; rcases List.mem_singleton.mp hx with rfl; exact am_okr (by have := h3.1; omega)) (by intro x hx; rcases List.mem_singleton.mp hx with rfl; exact am_okr (by have := h3.1; omega)) (by have := h3.1; omega) rfl ?_
  rw [h3.1]
  refine ae_putF (q := 38) dX7_init_35 fl_X7_19 rfl rfl (fun r h => by cases h; rfl) (fun _ => rfl) (fun _ => rfl) (sh_nw h3.2.2.1 (by have := h3.1; omega)) (by show a < am_nx G3 + 1; have := h3.1; omega) (by show n + 3 < am_nx G3 + 1; have := h3.1; omega) rfl ?_
  refine ae_gen (fun G4 e4 => ?_)
  have h4 := mk_step h3 ha rfl e4
  refine ae_aload_n (q := 39) dX7_init_38 rfl rfl rfl ?_
  refine ae_bipush (v := 48) (q := 41) dX7_init_39 (by decide) rfl ?_
  refine ae_newI (N := 48) (q := 43) dX7_init_41 ac_int (by decide) (by decide) (by decide) (by intro x hx; rcases List.mem_singleton.mp hx with rfl; exact am_okr (by have := h4.1; omega)) (by intro x hx; rcases List.mem_singleton.mp hx with rfl; exact am_okr (by have := h4.1; omega)) (by have := h4.1; omega) rfl ?_
  rw [h4.1]
  refine ae_putF (q := 46) dX7_init_43 fl_X7_22 rfl rfl (fun r h => by cases h; rfl) (fun _ => rfl) (fun _ => rfl) (sh_nw h4.2.2.1 (by have := h4.1; omega)) (by show a < am_nx G4 + 1; have := h4.1; omega) (by show n + 4 < am_nx G4 + 1; have := h4.1; omega) rfl ?_
  refine ae_gen (fun G5 e5 => ?_)
  have h5 := mk_step h4 ha rfl e5
  refine ae_aload_n (q := 47) dX7_init_46 rfl rfl rfl ?_
  refine ae_bipush (v := 48) (q := 49) dX7_init_47 (by decide) rfl ?_
  refine ae_newI (N := 48) (q := 51) dX7_init_49 ac_int (by decide) (by decide) (by decide) (by intro x hx; rcases List.mem_singleton.mp hx with rfl; exact am_okr (by have := h5.1; omega)) (by intro x hx; rcases List.mem_singleton.mp hx with rfl; exact am_okr (by have := h5.1; omega)) (by have := h5.1; omega) rfl ?_
  rw [h5.1]
  refine ae_putF (q := 54) dX7_init_51 fl_X7_25 rfl rfl (fun r h => by cases h; rfl) (fun _ => rfl) (fun _ => rfl) (sh_nw h5.2.2.1 (by have := h5.1; omega)) (by show a < am_nx G5 + 1; have := h5.1; omega) (by show n + 5 < am_nx G5 + 1; have := h5.1; omega) rfl ?_
  refine ae_gen (fun G6 e6 => ?_)
  have h6 := mk_step h5 ha rfl e6
  refine ae_aload_n (q := 55) dX7_init_54 rfl rfl rfl ?_
  refine ae_bipush (v := 48) (q := 57) dX7_init_55 (by decide) rfl ?_
  refine ae_newI (N := 48) (q := 59) dX7_init_57 ac_int (by decide) (by decide) (by decide) (by intro x hx; rcases List.mem_singleton.mp hx with rfl; exact am_okr (by have := h6.1; omega)) (by intro x hx; rcases List.mem_singleton.mp hx with rfl; exact am_okr (by have := h6.1; omega)) (by have := h6.1; omega) rfl ?_
  rw [h6.1]
  refine ae_putF (q := 62) dX7_init_59 fl_X7_28 rfl rfl (fun r h => by cases h; rfl) (fun _ => rfl) (fun _ => rfl) (sh_nw h6.2.2.1 (by have := h6.1; omega)) (by show a < am_nx G6 + 1; have := h6.1; omega) (by show n + 6 < am_nx G6 + 1; have := h6.1; omega) rfl ?_
  refine ae_gen (fun G7 e7 => ?_)
  have h7 := mk_step h6 ha rfl e7
  refine ae_aload_n (q := 63) dX7_init_62 rfl rfl rfl ?_
  refine ae_bipush (v := 48) (q := 65) dX7_init_63 (by decide) rfl ?_
  refine ae_newI (N := 48) (q := 67) dX7_init_65 ac_int (by decide) (by decide) (by decide) (by intro x hx; rcases List.mem_singleton.mp hx with rfl; exact am_okr (by have := h7.1; omega)) (by intro x hx; rcases List.mem_singleton.mp hx with rfl; exact am_okr (by have := h7.1; omega)) (by have := h7.1; omega) rfl ?_
  rw [h7.1]
  refine ae_putF (q := 70) dX7_init_67 fl_X7_31 rfl rfl (fun r h => by cases h; rfl) (fun _ => rfl) (fun _ => rfl) (sh_nw h7.2.2.1 (by have := h7.1; omega)) (by show a < am_nx G7 + 1; have := h7.1; omega) (by show n + 7 < am_nx G7 + 1; have := h7.1; omega) rfl ?_
  refine ae_gen (fun G8 e8 => ?_)
  have h8 := mk_step h7 ha rfl e8
  refine ae_aload_n (q := 71) dX7_init_70 rfl rfl rfl ?_
  refine ae_bipush (v := 48) (q := 73) dX7_init_71 (by decide) rfl ?_
  refine ae_newI (N := 48) (q := 75) dX7_init_73 ac_int (by decide) (by decide) (by decide) (by intro x hx; rcases List.mem_singleton.mp hx with rfl; exact am_okr (by have := h8.1; omega)) (by intro x hx; rcases List.mem_singleton.mp hx with rfl; exact am_okr (by have := h8.1; omega)) (by have := h8.1; omega) rfl ?_
  rw [h8.1]
  refine ae_putF (q := 78) dX7_init_75 fl_X7_34 rfl rfl (fun r h => by cases h; rfl) (fun _ => rfl) (fun _ => rfl) (sh_nw h8.2.2.1 (by have := h8.1; omega)) (by show a < am_nx G8 + 1; have := h8.1; omega) (by show n + 8 < am_nx G8 + 1; have := h8.1; omega) rfl ?_
  refine ae_gen (fun G9 e9 => ?_)
  have h9 := mk_step h8 ha rfl e9
  refine ae_aload_n (q := 79) dX7_init_78 rfl rfl rfl ?_
  refine ae_bipush (v := 48) (q := 81) dX7_init_79 (by decide) rfl ?_
  refine ae_newI (N := 48) (q := 83) dX7_init_81 ac_int (by decide) (by decide) (by decide) (by intro x hx; rcases List.mem_singleton.mp hx with rfl; exact am_okr (by have := h9.1; omega)) (by intro x hx; rcases List.mem_singleton.mp hx with rfl; exact am_okr (by have := h9.1; omega)) (by have := h9.1; omega) rfl ?_
  rw [h9.1]
  refine ae_putF (q := 86) dX7_init_83 fl_X7_37 rfl rfl (fun r h => by cases h; rfl) (fun _ => rfl) (fun _ => rfl) (sh_nw h9.2.2.1 (by have := h9.1; omega)) (by show a < am_nx G9 + 1; have := h9.1; omega) (by show n + 9 < am_nx G9 + 1; have := h9.1; omega) rfl ?_
  refine ae_gen (fun G10 e10 => ?_)
  have h10 := mk_step h9 ha rfl e10
  refine ae_aload_n (q := 87) dX7_init_86 rfl rfl rfl ?_
  refine ae_bipush (v := 48) (q := 89) dX7_init_87 (by decide) rfl ?_
  refine ae_newI (N := 48) (q := 91) dX7_init_89 ac_int (by decide) (by decide) (by decide) (by intro x hx; rcases List.mem_singleton.mp hx with rfl; exact am_okr (by have := h10.1; omega)) (by intro x hx; rcases List.mem_singleton.mp hx with rfl; exact am_okr (by have := h10.1; omega)) (by have := h10.1; omega) rfl ?_
  rw [h10.1]
  refine ae_putF (q := 94) dX7_init_91 fl_X7_40 rfl rfl (fun r h => by cases h; rfl) (fun _ => rfl) (fun _ => rfl) (sh_nw h10.2.2.1 (by have := h10.1; omega)) (by show a < am_nx G10 + 1; have := h10.1; omega) (by show n + 10 < am_nx G10 + 1; have := h10.1; omega) rfl ?_
  refine ae_gen (fun G11 e11 => ?_)
  have h11 := mk_step h10 ha rfl e11
  refine ae_aload_n (q := 95) dX7_init_94 rfl rfl rfl ?_
  refine ae_iconst (v := 4) (q := 96) dX7_init_95 (by decide) rfl ?_
  refine ae_newI (N := 4) (q := 98) dX7_init_96 ac_int (by decide) (by decide) (by decide) (by intro x hx; rcases List.mem_singleton.mp hx with rfl; exact am_okr (by have := h11.1; omega)) (by intro x hx; rcases List.mem_singleton.mp hx with rfl; exact am_okr (by have := h11.1; omega)) (by have := h11.1; omega) rfl ?_
  rw [h11.1]
  refine ae_putF (q := 101) dX7_init_98 fl_X7_43 rfl rfl (fun r h => by cases h; rfl) (fun _ => rfl) (fun _ => rfl) (sh_nw h11.2.2.1 (by have := h11.1; omega)) (by show a < am_nx G11 + 1; have := h11.1; omega) (by show n + 11 < am_nx G11 + 1; have := h11.1; omega) rfl ?_
  refine ae_gen (fun G12 e12 => ?_)
  have h12 := mk_step h11 ha rfl e12
  refine ae_aload_n (q := 102) dX7_init_101 rfl rfl rfl ?_
  refine ae_bipush (v := 48) (q := 104) dX7_init_102 (by decide) rfl ?_
  refine ae_newZ (N := 48) (q := 106) dX7_init_104 ac_boolean (by decide) (by decide) (by decide) (by intro x hx; rcases List.mem_singleton.mp hx with rfl; exact am_okr (by have := h12.1; omega)) (by intro x hx; rcases List.mem_singleton.mp hx with rfl; exact am_okr (by have := h12.1; omega)) (by have := h12.1; omega) rfl ?_
  rw [h12.1]
  refine ae_putF (q := 109) dX7_init_106 fl_X7_46 rfl rfl (fun r h => by cases h; rfl) (fun _ => rfl) (fun _ => rfl) (sh_nw h12.2.2.1 (by have := h12.1; omega)) (by show a < am_nx G12 + 1; have := h12.1; omega) (by show n + 12 < am_nx G12 + 1; have := h12.1; omega) rfl ?_
  refine ae_gen (fun G13 e13 => ?_)
  have h13 := mk_step h12 ha rfl e13
  refine ae_aload_n (q := 110) dX7_init_109 rfl rfl rfl ?_
  refine ae_bipush (v := 48) (q := 112) dX7_init_110 (by decide) rfl ?_
  refine ae_newZ (N := 48) (q := 114) dX7_init_112 ac_boolean (by decide) (by decide) (by decide) (by intro x hx; rcases List.mem_singleton.mp hx with rfl; exact am_okr (by have := h13.1; omega)) (by intro x hx; rcases List.mem_singleton.mp hx with rfl; exact am_okr (by have := h13.1; omega)) (by have := h13.1; omega) rfl ?_
  rw [h13.1]
  refine ae_putF (q := 117) dX7_init_114 fl_X7_50 rfl rfl (fun r h => by cases h; rfl) (fun _ => rfl) (fun _ => rfl) (sh_nw h13.2.2.1 (by have := h13.1; omega)) (by show a < am_nx G13 + 1; have := h13.1; omega) (by show n + 13 < am_nx G13 + 1; have := h13.1; omega) rfl ?_
  refine ae_gen (fun G14 e14 => ?_)
  have h14 := mk_step h13 ha rfl e14
  refine ae_aload_n (q := 118) dX7_init_117 rfl rfl rfl ?_
  refine ae_bipush (v := 48) (q := 120) dX7_init_118 (by decide) rfl ?_
  refine ae_newZ (N := 48) (q := 122) dX7_init_120 ac_boolean (by decide) (by decide) (by decide) (by intro x hx; rcases List.mem_singleton.mp hx with rfl; exact am_okr (by have := h14.1; omega)) (by intro x hx; rcases List.mem_singleton.mp hx with rfl; exact am_okr (by have := h14.1; omega)) (by have := h14.1; omega) rfl ?_
  rw [h14.1]
  refine ae_putF (q := 125) dX7_init_122 fl_X7_53 rfl rfl (fun r h => by cases h; rfl) (fun _ => rfl) (fun _ => rfl) (sh_nw h14.2.2.1 (by have := h14.1; omega)) (by show a < am_nx G14 + 1; have := h14.1; omega) (by show n + 14 < am_nx G14 + 1; have := h14.1; omega) rfl ?_
  refine ae_gen (fun G15 e15 => ?_)
  have h15 := mk_step h14 ha rfl e15
  refine ae_aload_n (q := 126) dX7_init_125 rfl rfl rfl ?_
  refine ae_iconst (v := 4) (q := 127) dX7_init_126 (by decide) rfl ?_
  refine ae_newZ (N := 4) (q := 129) dX7_init_127 ac_boolean (by decide) (by decide) (by decide) (by intro x hx; rcases List.mem_singleton.mp hx with rfl; exact am_okr (by have := h15.1; omega)) (by intro x hx; rcases List.mem_singleton.mp hx with rfl; exact am_okr (by have := h15.1; omega)) (by have := h15.1; omega) rfl ?_
  rw [h15.1]
  refine ae_putF (q := 132) dX7_init_129 fl_X7_56 rfl rfl (fun r h => by cases h; rfl) (fun _ => rfl) (fun _ => rfl) (sh_nw h15.2.2.1 (by have := h15.1; omega)) (by show a < am_nx G15 + 1; have := h15.1; omega) (by show n + 15 < am_nx G15 + 1; have := h15.1; omega) rfl ?_
  refine ae_gen (fun G16 e16 => ?_)
  have h16 := mk_step h15 ha rfl e16
  refine ae_aload_n (q := 133) dX7_init_132 rfl rfl rfl ?_
  refine ae_bipush (v := 96) (q := 135) dX7_init_133 (by decide) rfl ?_
  refine ae_newI (N := 96) (q := 137) dX7_init_135 ac_int (by decide) (by decide) (by decide) (by intro x hx; rcases List.mem_singleton.mp hx with rfl; exact am_okr (by have := h16.1; omega)) (by intro x hx; rcases List.mem_singleton.mp hx with rfl; exact am_okr (by have := h16.1; omega)) (by have := h16.1; omega) rfl ?_
  rw [h16.1]
  refine ae_putF (q := 140) dX7_init_137 fl_X7_59 rfl rfl (fun r h => by cases h; rfl) (fun _ => rfl) (fun _ => rfl) (sh_nw h16.2.2.1 (by have := h16.1; omega)) (by show a < am_nx G16 + 1; have := h16.1; omega) (by show n + 16 < am_nx G16 + 1; have := h16.1; omega) rfl ?_
  refine ae_gen (fun G17 e17 => ?_)
  have h17 := mk_step h16 ha rfl e17
  refine ae_aload_n (q := 141) dX7_init_140 rfl rfl rfl ?_
  refine ae_bipush (v := 96) (q := 143) dX7_init_141 (by decide) rfl ?_
  refine ae_newI (N := 96) (q := 145) dX7_init_143 ac_int (by decide) (by decide) (by decide) (by intro x hx; rcases List.mem_singleton.mp hx with rfl; exact am_okr (by have := h17.1; omega)) (by intro x hx; rcases List.mem_singleton.mp hx with rfl; exact am_okr (by have := h17.1; omega)) (by have := h17.1; omega) rfl ?_
  rw [h17.1]
  refine ae_putF (q := 148) dX7_init_145 fl_X7_62 rfl rfl (fun r h => by cases h; rfl) (fun _ => rfl) (fun _ => rfl) (sh_nw h17.2.2.1 (by have := h17.1; omega)) (by show a < am_nx G17 + 1; have := h17.1; omega) (by show n + 17 < am_nx G17 + 1; have := h17.1; omega) rfl ?_
  refine ae_gen (fun G18 e18 => ?_)
  have h18 := mk_step h17 ha rfl e18
  refine ae_aload_n (q := 149) dX7_init_148 rfl rfl rfl ?_
  refine ae_bipush (v := 96) (q := 151) dX7_init_149 (by decide) rfl ?_
  refine ae_newI (N := 96) (q := 153) dX7_init_151 ac_int (by decide) (by decide) (by decide) (by intro x hx; rcases List.mem_singleton.mp hx with rfl; exact am_okr (by have := h18.1; omega)) (by intro x hx; rcases List.mem_singleton.mp hx with rfl; exact am_okr (by have := h18.1; omega)) (by have := h18.1; omega) rfl ?_
  rw [h18.1]
  refine ae_putF (q := 156) dX7_init_153 fl_X7_65 rfl rfl (fun r h => by cases h; rfl) (fun _ => rfl) (fun _ => rfl) (sh_nw h18.2.2.1 (by have := h18.1; omega)) (by show a < am_nx G18 + 1; have := h18.1; omega) (by show n + 18 < am_nx G18 + 1; have := h18.1; omega) rfl ?_
  refine ae_gen (fun G19 e19 => ?_)
  have h19 := mk_step h18 ha rfl e19
  refine ae_aload_n (q := 157) dX7_init_156 rfl rfl rfl ?_
  refine ae_iconst (v := 2) (q := 158) dX7_init_157 (by decide) rfl ?_
  refine ae_newI (N := 2) (q := 160) dX7_init_158 ac_int (by decide) (by decide) (by decide) (by intro x hx; rcases List.mem_singleton.mp hx with rfl; exact am_okr (by have := h19.1; omega)) (by intro x hx; rcases List.mem_singleton.mp hx with rfl; exact am_okr (by have := h19.1; omega)) (by have := h19.1; omega) rfl ?_
  rw [h19.1]
  refine ae_putF (q := 163) dX7_init_160 fl_X7_68 rfl rfl (fun r h => by cases h; rfl) (fun _ => rfl) (fun _ => rfl) (sh_nw h19.2.2.1 (by have := h19.1; omega)) (by show a < am_nx G19 + 1; have := h19.1; omega) (by show n + 19 < am_nx G19 + 1; have := h19.1; omega) rfl ?_
  refine ae_gen (fun G20 e20 => ?_)
  have h20 := mk_step h19 ha rfl e20
  refine ae_aload_n (q := 164) dX7_init_163 rfl rfl rfl ?_
  refine ae_sipush (v := 145) (q := 167) dX7_init_164 (by decide) rfl ?_
  refine ae_newI (N := 145) (q := 169) dX7_init_167 ac_int (by decide) (by decide) (by decide) (by intro x hx; rcases List.mem_singleton.mp hx with rfl; exact am_okr (by have := h20.1; omega)) (by intro x hx; rcases List.mem_singleton.mp hx with rfl; exact am_okr (by have := h20.1; omega)) (by have := h20.1; omega) rfl ?_
  rw [h20.1]
  refine ae_putF (q := 172) dX7_init_169 fl_X7_71 rfl rfl (fun r h => by cases h; rfl) (fun _ => rfl) (fun _ => rfl) (sh_nw h20.2.2.1 (by have := h20.1; omega)) (by show a < am_nx G20 + 1; have := h20.1; omega) (by show n + 20 < am_nx G20 + 1; have := h20.1; omega) rfl ?_
  refine ae_gen (fun G21 e21 => ?_)
  have h21 := mk_step h20 ha rfl e21
  refine ae_aload_n (q := 173) dX7_init_172 rfl rfl rfl ?_
  refine ae_sipush (v := 145) (q := 176) dX7_init_173 (by decide) rfl ?_
  refine ae_newI (N := 145) (q := 178) dX7_init_176 ac_int (by decide) (by decide) (by decide) (by intro x hx; rcases List.mem_singleton.mp hx with rfl; exact am_okr (by have := h21.1; omega)) (by intro x hx; rcases List.mem_singleton.mp hx with rfl; exact am_okr (by have := h21.1; omega)) (by have := h21.1; omega) rfl ?_
  rw [h21.1]
  refine ae_putF (q := 181) dX7_init_178 fl_X7_74 rfl rfl (fun r h => by cases h; rfl) (fun _ => rfl) (fun _ => rfl) (sh_nw h21.2.2.1 (by have := h21.1; omega)) (by show a < am_nx G21 + 1; have := h21.1; omega) (by show n + 21 < am_nx G21 + 1; have := h21.1; omega) rfl ?_
  refine ae_gen (fun G22 e22 => ?_)
  have h22 := mk_step h21 ha rfl e22
  refine ae_aload_n (q := 182) dX7_init_181 rfl rfl rfl ?_
  refine ae_sipush (v := 145) (q := 185) dX7_init_182 (by decide) rfl ?_
  refine ae_newI (N := 145) (q := 187) dX7_init_185 ac_int (by decide) (by decide) (by decide) (by intro x hx; rcases List.mem_singleton.mp hx with rfl; exact am_okr (by have := h22.1; omega)) (by intro x hx; rcases List.mem_singleton.mp hx with rfl; exact am_okr (by have := h22.1; omega)) (by have := h22.1; omega) rfl ?_
  rw [h22.1]
  refine ae_putF (q := 190) dX7_init_187 fl_X7_77 rfl rfl (fun r h => by cases h; rfl) (fun _ => rfl) (fun _ => rfl) (sh_nw h22.2.2.1 (by have := h22.1; omega)) (by show a < am_nx G22 + 1; have := h22.1; omega) (by show n + 22 < am_nx G22 + 1; have := h22.1; omega) rfl ?_
  refine ae_gen (fun G23 e23 => ?_)
  have h23 := mk_step h22 ha rfl e23
  refine ae_aload_n (q := 191) dX7_init_190 rfl rfl rfl ?_
  refine ae_sipush (v := 145) (q := 194) dX7_init_191 (by decide) rfl ?_
  refine ae_newI (N := 145) (q := 196) dX7_init_194 ac_int (by decide) (by decide) (by decide) (by intro x hx; rcases List.mem_singleton.mp hx with rfl; exact am_okr (by have := h23.1; omega)) (by intro x hx; rcases List.mem_singleton.mp hx with rfl; exact am_okr (by have := h23.1; omega)) (by have := h23.1; omega) rfl ?_
  rw [h23.1]
  refine ae_putF (q := 199) dX7_init_196 fl_X7_80 rfl rfl (fun r h => by cases h; rfl) (fun _ => rfl) (fun _ => rfl) (sh_nw h23.2.2.1 (by have := h23.1; omega)) (by show a < am_nx G23 + 1; have := h23.1; omega) (by show n + 23 < am_nx G23 + 1; have := h23.1; omega) rfl ?_
  refine ae_gen (fun G24 e24 => ?_)
  have h24 := mk_step h23 ha rfl e24
  refine ae_aload_n (q := 200) dX7_init_199 rfl rfl rfl ?_
  refine ae_sipush (v := 145) (q := 203) dX7_init_200 (by decide) rfl ?_
  refine ae_newI (N := 145) (q := 205) dX7_init_203 ac_int (by decide) (by decide) (by decide) (by intro x hx; rcases List.mem_singleton.mp hx with rfl; exact am_okr (by have := h24.1; omega)) (by intro x hx; rcases List.mem_singleton.mp hx with rfl; exact am_okr (by have := h24.1; omega)) (by have := h24.1; omega) rfl ?_
  rw [h24.1]
  refine ae_putF (q := 208) dX7_init_205 fl_X7_83 rfl rfl (fun r h => by cases h; rfl) (fun _ => rfl) (fun _ => rfl) (sh_nw h24.2.2.1 (by have := h24.1; omega)) (by show a < am_nx G24 + 1; have := h24.1; omega) (by show n + 24 < am_nx G24 + 1; have := h24.1; omega) rfl ?_
  refine ae_gen (fun G25 e25 => ?_)
  have h25 := mk_step h24 ha rfl e25
  refine ae_aload_n (q := 209) dX7_init_208 rfl rfl rfl ?_
  refine ae_sipush (v := 145) (q := 212) dX7_init_209 (by decide) rfl ?_
  refine ae_newI (N := 145) (q := 214) dX7_init_212 ac_int (by decide) (by decide) (by decide) (by intro x hx; rcases List.mem_singleton.mp hx with rfl; exact am_okr (by have := h25.1; omega)) (by intro x hx; rcases List.mem_singleton.mp hx with rfl; exact am_okr (by have := h25.1; omega)) (by have := h25.1; omega) rfl ?_
  rw [h25.1]
  refine ae_putF (q := 217) dX7_init_214 fl_X7_86 rfl rfl (fun r h => by cases h; rfl) (fun _ => rfl) (fun _ => rfl) (sh_nw h25.2.2.1 (by have := h25.1; omega)) (by show a < am_nx G25 + 1; have := h25.1; omega) (by show n + 25 < am_nx G25 + 1; have := h25.1; omega) rfl ?_
  refine ae_gen (fun G26 e26 => ?_)
  have h26 := mk_step h25 ha rfl e26
  refine ae_aload_n (q := 218) dX7_init_217 rfl rfl rfl ?_
  refine ae_iconst (v := 3) (q := 219) dX7_init_218 (by decide) rfl ?_
  refine ae_newI (N := 3) (q := 221) dX7_init_219 ac_int (by decide) (by decide) (by decide) (by intro x hx; rcases List.mem_singleton.mp hx with rfl; exact am_okr (by have := h26.1; omega)) (by intro x hx; rcases List.mem_singleton.mp hx with rfl; exact am_okr (by have := h26.1; omega)) (by have := h26.1; omega) rfl ?_
  rw [h26.1]
  refine ae_putF (q := 224) dX7_init_221 fl_X7_89 rfl rfl (fun r h => by cases h; rfl) (fun _ => rfl) (fun _ => rfl) (sh_nw h26.2.2.1 (by have := h26.1; omega)) (by show a < am_nx G26 + 1; have := h26.1; omega) (by show n + 26 < am_nx G26 + 1; have := h26.1; omega) rfl ?_
  refine ae_gen (fun G27 e27 => ?_)
  have h27 := mk_step h26 ha rfl e27
  refine ae_aload_n (q := 225) dX7_init_224 rfl rfl rfl ?_
  refine ae_iconst (v := 3) (q := 226) dX7_init_225 (by decide) rfl ?_
  refine ae_newI (N := 3) (q := 228) dX7_init_226 ac_int (by decide) (by decide) (by decide) (by intro x hx; rcases List.mem_singleton.mp hx with rfl; exact am_okr (by have := h27.1; omega)) (by intro x hx; rcases List.mem_singleton.mp hx with rfl; exact am_okr (by have := h27.1; omega)) (by have := h27.1; omega) rfl ?_
  rw [h27.1]
  refine ae_putF (q := 231) dX7_init_228 fl_X7_92 rfl rfl (fun r h => by cases h; rfl) (fun _ => rfl) (fun _ => rfl) (sh_nw h27.2.2.1 (by have := h27.1; omega)) (by show a < am_nx G27 + 1; have := h27.1; omega) (by show n + 27 < am_nx G27 + 1; have := h27.1; omega) rfl ?_
  refine ae_gen (fun G28 e28 => ?_)
  have h28 := mk_step h27 ha rfl e28
  refine ae_aload_n (q := 232) dX7_init_231 rfl rfl rfl ?_
  refine ae_sipush (v := 144) (q := 235) dX7_init_232 (by decide) rfl ?_
  refine ae_newI (N := 144) (q := 237) dX7_init_235 ac_int (by decide) (by decide) (by decide) (by intro x hx; rcases List.mem_singleton.mp hx with rfl; exact am_okr (by have := h28.1; omega)) (by intro x hx; rcases List.mem_singleton.mp hx with rfl; exact am_okr (by have := h28.1; omega)) (by have := h28.1; omega) rfl ?_
  rw [h28.1]
  refine ae_putF (q := 240) dX7_init_237 fl_X7_95 rfl rfl (fun r h => by cases h; rfl) (fun _ => rfl) (fun _ => rfl) (sh_nw h28.2.2.1 (by have := h28.1; omega)) (by show a < am_nx G28 + 1; have := h28.1; omega) (by show n + 28 < am_nx G28 + 1; have := h28.1; omega) rfl ?_
  refine ae_gen (fun G29 e29 => ?_)
  have h29 := mk_step h28 ha rfl e29
  refine ae_aload_n (q := 241) dX7_init_240 rfl rfl rfl ?_
  refine ae_bipush (v := 40) (q := 243) dX7_init_241 (by decide) rfl ?_
  refine ae_newI (N := 40) (q := 245) dX7_init_243 ac_int (by decide) (by decide) (by decide) (by intro x hx; rcases List.mem_singleton.mp hx with rfl; exact am_okr (by have := h29.1; omega)) (by intro x hx; rcases List.mem_singleton.mp hx with rfl; exact am_okr (by have := h29.1; omega)) (by have := h29.1; omega) rfl ?_
  rw [h29.1]
  refine ae_putF (q := 248) dX7_init_245 fl_X7_98 rfl rfl (fun r h => by cases h; rfl) (fun _ => rfl) (fun _ => rfl) (sh_nw h29.2.2.1 (by have := h29.1; omega)) (by show a < am_nx G29 + 1; have := h29.1; omega) (by show n + 29 < am_nx G29 + 1; have := h29.1; omega) rfl ?_
  refine ae_gen (fun G30 e30 => ?_)
  have h30 := mk_step h29 ha rfl e30
  refine ae_vret dX7_init_248 rfl ?_
  exact ⟨rfl, h30⟩
