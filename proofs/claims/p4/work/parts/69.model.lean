set_option maxRecDepth 100000 in
set_option maxHeartbeats 4000000 in
theorem c_X7_openScope {ox : List (Nat × (Nat → Int32))} {d N : Nat} {B H : am_H} {a1 : Int32} {a2 : Int32} {a3 : Int32}  (h : jm N B 320 H) (u_1 : 0 ≤ a1.toInt) (v_1 : a1.toInt ≤ 144) (u_3 : 0 ≤ a3.toInt) (v_3 : a3.toInt ≤ 15) : am_DB 0 ox d yX7_openScope mX7_openScope [.ref 288, .int a1, .int a2, .int a3] H (fun o H1 => o = .inl none ∧ jm N B 320 H1 ∧ nd H H1) := by
  refine ae_enter rfl rfl rfl rfl (Nat.le_of_ble_eq_true rfl) ?_
  show am_EB 0 ox d mX7_openScope 0 [(0, .ref 288), (1, .int a1), (2, .int a2), (3, .int a3)] [] H _
  have hn : nd H H := nd.rf
  refine ae_aload_n (q := 1) dX7_openScope_0 rfl rfl rfl ?_
  refine ae_getR (q := 4) dX7_openScope_1 fl_X7_71 rfl (h.s l288 t288) (h.l l288) (h.mr (k := 20) (b := 309) (by decide) rfl) rfl ?_
  refine ae_iload_n (q := 5) dX7_openScope_4 rfl rfl rfl ?_
  refine ae_iconst (v := 0) (q := 6) dX7_openScope_5 (by decide) rfl ?_
  refine ae_iast (q := 7) dX7_openScope_6 (h.s l309 t309) (h.l l309) (vin (by omega) (by omega)) rfl ?_
  refine ae_gen (fun G1 g1 => ?_)
  have h : jm N B 320 G1 := by rw [g1]; exact h.w t309 (by decide) (by decide) (by decide) inr_any
  have hn : nd H G1 := by rw [g1]; exact hn.si (by decide)
  refine ae_aload_n (q := 8) dX7_openScope_7 rfl rfl rfl ?_
  refine ae_getR (q := 11) dX7_openScope_8 fl_X7_77 rfl (h.s l288 t288) (h.l l288) (h.mr (k := 22) (b := 311) (by decide) rfl) rfl ?_
  refine ae_iload_n (q := 12) dX7_openScope_11 rfl rfl rfl ?_
  refine ae_iload_n (q := 13) dX7_openScope_12 rfl rfl rfl ?_
  refine ae_iast (q := 14) dX7_openScope_13 (h.s l311 t311) (h.l l311) (vin (by omega) (by omega)) rfl ?_
  refine ae_gen (fun G2 g2 => ?_)
  have h : jm N B 320 G2 := by rw [g2]; exact h.w t311 (by decide) (by decide) (by decide) inr_any
  have hn : nd H G2 := by rw [g2]; exact hn.si (by decide)
  refine ae_aload_n (q := 15) dX7_openScope_14 rfl rfl rfl ?_
  refine ae_getR (q := 18) dX7_openScope_15 fl_X7_80 rfl (h.s l288 t288) (h.l l288) (h.mr (k := 23) (b := 312) (by decide) rfl) rfl ?_
  refine ae_iload_n (q := 19) dX7_openScope_18 rfl rfl rfl ?_
  refine ae_iload_n (q := 20) dX7_openScope_19 rfl rfl rfl ?_
  refine ae_iast (q := 21) dX7_openScope_20 (h.s l312 t312) (h.l l312) (vin (by omega) (by omega)) rfl ?_
  refine ae_gen (fun G3 g3 => ?_)
  have h : jm N B 320 G3 := by rw [g3]; exact h.w t312 (by decide) (by decide) (by decide) (mk_inr (lo := 0) (hi := 15) (by omega) (by omega))
  have hn : nd H G3 := by rw [g3]; exact hn.si (by decide)
  refine ae_aload_n (q := 22) dX7_openScope_21 rfl rfl rfl ?_
  refine ae_getR (q := 25) dX7_openScope_22 fl_X7_83 rfl (h.s l288 t288) (h.l l288) (h.mr (k := 24) (b := 313) (by decide) rfl) rfl ?_
  refine ae_iload_n (q := 26) dX7_openScope_25 rfl rfl rfl ?_
  refine ae_iconst (v := 0) (q := 27) dX7_openScope_26 (by decide) rfl ?_
  refine ae_iast (q := 28) dX7_openScope_27 (h.s l313 t313) (h.l l313) (vin (by omega) (by omega)) rfl ?_
  refine ae_gen (fun G4 g4 => ?_)
  have h : jm N B 320 G4 := by rw [g4]; exact h.w t313 (by decide) (by decide) (by decide) inr_any
  have hn : nd H G4 := by rw [g4]; exact hn.si (by decide)
  refine ae_aload_n (q := 29) dX7_openScope_28 rfl rfl rfl ?_
  refine ae_getR (q := 32) dX7_openScope_29 fl_X7_86 rfl (h.s l288 t288) (h.l l288) (h.mr (k := 25) (b := 314) (by decide) rfl) rfl ?_
  refine ae_iload_n (q := 33) dX7_openScope_32 rfl rfl rfl ?_
  refine ae_iconst (v := 0) (q := 34) dX7_openScope_33 (by decide) rfl ?_
  refine ae_iast (q := 35) dX7_openScope_34 (h.s l314 t314) (h.l l314) (vin (by omega) (by omega)) rfl ?_
  refine ae_gen (fun G5 g5 => ?_)
  have h : jm N B 320 G5 := by rw [g5]; exact h.w t314 (by decide) (by decide) (by decide) inr_any
  have hn : nd H G5 := by rw [g5]; exact hn.si (by decide)
  refine ae_aload_n (q := 36) dX7_openScope_35 rfl rfl rfl ?_
  refine ae_getR (q := 39) dX7_openScope_36 fl_X7_74 rfl (h.s l288 t288) (h.l l288) (h.mr (k := 21) (b := 310) (by decide) rfl) rfl ?_
  refine ae_iload_n (q := 40) dX7_openScope_39 rfl rfl rfl ?_
  refine ae_iload_n (q := 41) dX7_openScope_40 rfl rfl rfl ?_
  refine ae_iconst (v := 1) (q := 42) dX7_openScope_41 (by decide) rfl ?_
  refine ae_icmp_ne (t := 50) (q := 45) dX7_openScope_42 (by decide) rfl (fun c6 => ?_) (fun c6 => ?_)
  · have c6 := i_ne (a := a2.toInt) (b := 1) rfl (by decide) c6
    refine ae_iload_n (q := 51) dX7_openScope_50 rfl rfl rfl ?_
    refine ae_iconst (v := 2) (q := 52) dX7_openScope_51 (by decide) rfl ?_
    refine ae_icmp_ne (t := 60) (q := 55) dX7_openScope_52 (by decide) rfl (fun c7 => ?_) (fun c7 => ?_)
    · have c7 := i_ne (a := a2.toInt) (b := 2) rfl (by decide) c7
      refine ae_iload_n (q := 61) dX7_openScope_60 rfl rfl rfl ?_
      refine ae_iconst (v := 3) (q := 62) dX7_openScope_61 (by decide) rfl ?_
      refine ae_icmp_ne (t := 69) (q := 65) dX7_openScope_62 (by decide) rfl (fun c8 => ?_) (fun c8 => ?_)
      · have c8 := i_ne (a := a2.toInt) (b := 3) rfl (by decide) c8
        refine ae_iconst (v := 0) (q := 70) dX7_openScope_69 (by decide) rfl ?_
        refine ae_iast (q := 71) dX7_openScope_70 (h.s l310 t310) (h.l l310) (vin (by omega) (by omega)) rfl ?_
        refine ae_gen (fun G9 g9 => ?_)
        have h : jm N B 320 G9 := by rw [g9]; exact h.w t310 (by decide) (by decide) (by decide) inr_any
        have hn : nd H G9 := by rw [g9]; exact hn.si (by decide)
        refine ae_vret dX7_openScope_71 rfl ?_
        exact ⟨rfl, ⟨h, hn⟩⟩
      · have c8 := i_eq (a := a2.toInt) (b := 3) rfl (by decide) c8
        refine ae_iconst (v := 1) (q := 66) dX7_openScope_65 (by decide) rfl ?_
        refine ae_goto (q := 70) dX7_openScope_66 (by decide) ?_
        refine ae_iast (q := 71) dX7_openScope_70 (h.s l310 t310) (h.l l310) (vin (by omega) (by omega)) rfl ?_
        refine ae_gen (fun G10 g10 => ?_)
        have h : jm N B 320 G10 := by rw [g10]; exact h.w t310 (by decide) (by decide) (by decide) inr_any
        have hn : nd H G10 := by rw [g10]; exact hn.si (by decide)
        refine ae_vret dX7_openScope_71 rfl ?_
        exact ⟨rfl, ⟨h, hn⟩⟩
    · have c7 := i_eq (a := a2.toInt) (b := 2) rfl (by decide) c7
      refine ae_ldc (v := (-2147483648)) (q := 57) dX7_openScope_55 aw_850 rfl ?_
      refine ae_goto (q := 70) dX7_openScope_57 (by decide) ?_
      refine ae_iast (q := 71) dX7_openScope_70 (h.s l310 t310) (h.l l310) (vin (by omega) (by omega)) rfl ?_
      refine ae_gen (fun G11 g11 => ?_)
      have h : jm N B 320 G11 := by rw [g11]; exact h.w t310 (by decide) (by decide) (by decide) inr_any
      have hn : nd H G11 := by rw [g11]; exact hn.si (by decide)
      refine ae_vret dX7_openScope_71 rfl ?_
      exact ⟨rfl, ⟨h, hn⟩⟩
  · have c6 := i_eq (a := a2.toInt) (b := 1) rfl (by decide) c6
    refine ae_ldc (v := 2147483647) (q := 47) dX7_openScope_45 aw_849 rfl ?_
    refine ae_goto (q := 70) dX7_openScope_47 (by decide) ?_
    refine ae_iast (q := 71) dX7_openScope_70 (h.s l310 t310) (h.l l310) (vin (by omega) (by omega)) rfl ?_
    refine ae_gen (fun G12 g12 => ?_)
    have h : jm N B 320 G12 := by rw [g12]; exact h.w t310 (by decide) (by decide) (by decide) inr_any
    have hn : nd H G12 := by rw [g12]; exact hn.si (by decide)
    refine ae_vret dX7_openScope_71 rfl ?_
    exact ⟨rfl, ⟨h, hn⟩⟩
set_option maxRecDepth 100000 in
set_option maxHeartbeats 4000000 in
theorem c_X7_note {ox : List (Nat × (Nat → Int32))} {d N : Nat} {B H : am_H} {a1 : Int32} {a2 : Int32}  (h : jm N B 320 H) (u_1 : 0 ≤ a1.toInt) (v_1 : a1.toInt ≤ 144) : am_DB 0 ox d yX7_note mX7_note [.ref 288, .int a1, .int a2] H (fun o H1 => o = .inl none ∧ jm N B 320 H1 ∧ nd H H1) := by
  refine ae_enter rfl rfl rfl rfl (Nat.le_of_ble_eq_true rfl) ?_
  show am_EB 0 ox d mX7_note 0 [(0, .ref 288), (1, .int a1), (2, .int a2)] [] H _
  have hn : nd H H := nd.rf
  refine ae_aload_n (q := 1) dX7_note_0 rfl rfl rfl ?_
  refine ae_getR (q := 4) dX7_note_1 fl_X7_83 rfl (h.s l288 t288) (h.l l288) (h.mr (k := 24) (b := 313) (by decide) rfl) rfl ?_
  refine ae_iload_n (q := 5) dX7_note_4 rfl rfl rfl ?_
  refine ae_iald (q := 6) dX7_note_5 (h.s l313 t313) (h.l l313) (vin (by omega) (by omega)) rfl ?_
  obtain ⟨x1, e1⟩ : ∃ x, am_gi H 313 a1.toNatClampNeg = x := ⟨_, rfl⟩
  refine ae_eqi e1 ?_
  refine ae_if_eq (t := 19) (q := 9) dX7_note_6 (by decide) rfl (fun c2 => ?_) (fun c2 => ?_)
  · have c2 := i_eq (a := x1.toInt) (b := 0) rfl (by decide) c2
    refine ae_aload_n (q := 20) dX7_note_19 rfl rfl rfl ?_
    refine ae_getR (q := 23) dX7_note_20 fl_X7_86 rfl (h.s l288 t288) (h.l l288) (h.mr (k := 25) (b := 314) (by decide) rfl) rfl ?_
    refine ae_iload_n (q := 24) dX7_note_23 rfl rfl rfl ?_
    refine ae_iload_n (q := 25) dX7_note_24 rfl rfl rfl ?_
    refine ae_iast (q := 26) dX7_note_25 (h.s l314 t314) (h.l l314) (vin (by omega) (by omega)) rfl ?_
    refine ae_gen (fun G3 g3 => ?_)
    have h : jm N B 320 G3 := by rw [g3]; exact h.w t314 (by decide) (by decide) (by decide) inr_any
    have hn : nd H G3 := by rw [g3]; exact hn.si (by decide)
    refine ae_aload_n (q := 27) dX7_note_26 rfl rfl rfl ?_
    refine ae_getR (q := 30) dX7_note_27 fl_X7_83 rfl (h.s l288 t288) (h.l l288) (h.mr (k := 24) (b := 313) (by decide) rfl) rfl ?_
    refine ae_iload_n (q := 31) dX7_note_30 rfl rfl rfl ?_
    refine ae_dup2 (q := 32) dX7_note_31 rfl rfl rfl ?_
    refine ae_iald (q := 33) dX7_note_32 (h.s l313 t313) (h.l l313) (vin (by omega) (by omega)) rfl ?_
    have m4 : am_gi G3 313 a1.toNatClampNeg = x1 := by rw [g3]; exact gi_si e1 (fun q => absurd q.1 (by decide))
    refine ae_eqi m4 ?_
    refine ae_iconst (v := 1) (q := 34) dX7_note_33 (by decide) rfl ?_
    refine ae_iadd (q := 35) dX7_note_34 rfl ?_
    obtain ⟨x5, e5⟩ : ∃ z, x1 + 1 = z := ⟨_, rfl⟩
    refine ae_eqi e5 ?_
    have f5 : x5.toInt = x1.toInt + 1 := by rw [← e5]; exact i_add rfl (by decide) (by omega) (by omega)
    refine ae_iast (q := 36) dX7_note_35 (h.s l313 t313) (h.l l313) (vin (by omega) (by omega)) rfl ?_
    refine ae_gen (fun G6 g6 => ?_)
    have h : jm N B 320 G6 := by rw [g6]; exact h.w t313 (by decide) (by decide) (by decide) inr_any
    have hn : nd H G6 := by rw [g6]; exact hn.si (by decide)
    refine ae_vret dX7_note_36 rfl ?_
    exact ⟨rfl, ⟨h, hn⟩⟩
  · have c2 := i_ne (a := x1.toInt) (b := 0) rfl (by decide) c2
    refine ae_iload_n (q := 10) dX7_note_9 rfl rfl rfl ?_
    refine ae_aload_n (q := 11) dX7_note_10 rfl rfl rfl ?_
    refine ae_getR (q := 14) dX7_note_11 fl_X7_86 rfl (h.s l288 t288) (h.l l288) (h.mr (k := 25) (b := 314) (by decide) rfl) rfl ?_
    refine ae_iload_n (q := 15) dX7_note_14 rfl rfl rfl ?_
    refine ae_iald (q := 16) dX7_note_15 (h.s l314 t314) (h.l l314) (vin (by omega) (by omega)) rfl ?_
    obtain ⟨x7, e7⟩ : ∃ x, am_gi H 314 a1.toNatClampNeg = x := ⟨_, rfl⟩
    refine ae_eqi e7 ?_
    refine ae_icmp_ge (t := 26) (q := 19) dX7_note_16 (by decide) rfl (fun c8 => ?_) (fun c8 => ?_)
    · have c8 := i_le (a := x7.toInt) (b := a2.toInt) rfl rfl c8
      refine ae_aload_n (q := 27) dX7_note_26 rfl rfl rfl ?_
      refine ae_getR (q := 30) dX7_note_27 fl_X7_83 rfl (h.s l288 t288) (h.l l288) (h.mr (k := 24) (b := 313) (by decide) rfl) rfl ?_
      refine ae_iload_n (q := 31) dX7_note_30 rfl rfl rfl ?_
      refine ae_dup2 (q := 32) dX7_note_31 rfl rfl rfl ?_
      refine ae_iald (q := 33) dX7_note_32 (h.s l313 t313) (h.l l313) (vin (by omega) (by omega)) rfl ?_
      refine ae_eqi e1 ?_
      refine ae_iconst (v := 1) (q := 34) dX7_note_33 (by decide) rfl ?_
      refine ae_iadd (q := 35) dX7_note_34 rfl ?_
      obtain ⟨x9, e9⟩ : ∃ z, x1 + 1 = z := ⟨_, rfl⟩
      refine ae_eqi e9 ?_
      refine ae_iast (q := 36) dX7_note_35 (h.s l313 t313) (h.l l313) (vin (by omega) (by omega)) rfl ?_
      refine ae_gen (fun G10 g10 => ?_)
      have h : jm N B 320 G10 := by rw [g10]; exact h.w t313 (by decide) (by decide) (by decide) inr_any
      have hn : nd H G10 := by rw [g10]; exact hn.si (by decide)
      refine ae_vret dX7_note_36 rfl ?_
      exact ⟨rfl, ⟨h, hn⟩⟩
    · have c8 := i_nle (a := x7.toInt) (b := a2.toInt) rfl rfl c8
      refine ae_aload_n (q := 20) dX7_note_19 rfl rfl rfl ?_
      refine ae_getR (q := 23) dX7_note_20 fl_X7_86 rfl (h.s l288 t288) (h.l l288) (h.mr (k := 25) (b := 314) (by decide) rfl) rfl ?_
      refine ae_iload_n (q := 24) dX7_note_23 rfl rfl rfl ?_
      refine ae_iload_n (q := 25) dX7_note_24 rfl rfl rfl ?_
      refine ae_iast (q := 26) dX7_note_25 (h.s l314 t314) (h.l l314) (vin (by omega) (by omega)) rfl ?_
      refine ae_gen (fun G11 g11 => ?_)
      have h : jm N B 320 G11 := by rw [g11]; exact h.w t314 (by decide) (by decide) (by decide) inr_any
      have hn : nd H G11 := by rw [g11]; exact hn.si (by decide)
      refine ae_aload_n (q := 27) dX7_note_26 rfl rfl rfl ?_
      refine ae_getR (q := 30) dX7_note_27 fl_X7_83 rfl (h.s l288 t288) (h.l l288) (h.mr (k := 24) (b := 313) (by decide) rfl) rfl ?_
      refine ae_iload_n (q := 31) dX7_note_30 rfl rfl rfl ?_
      refine ae_dup2 (q := 32) dX7_note_31 rfl rfl rfl ?_
      refine ae_iald (q := 33) dX7_note_32 (h.s l313 t313) (h.l l313) (vin (by omega) (by omega)) rfl ?_
      have m12 : am_gi G11 313 a1.toNatClampNeg = x1 := by rw [g11]; exact gi_si e1 (fun q => absurd q.1 (by decide))
      refine ae_eqi m12 ?_
      refine ae_iconst (v := 1) (q := 34) dX7_note_33 (by decide) rfl ?_
      refine ae_iadd (q := 35) dX7_note_34 rfl ?_
      obtain ⟨x13, e13⟩ : ∃ z, x1 + 1 = z := ⟨_, rfl⟩
      refine ae_eqi e13 ?_
      refine ae_iast (q := 36) dX7_note_35 (h.s l313 t313) (h.l l313) (vin (by omega) (by omega)) rfl ?_
      refine ae_gen (fun G14 g14 => ?_)
      have h : jm N B 320 G14 := by rw [g14]; exact h.w t313 (by decide) (by decide) (by decide) inr_any
      have hn : nd H G14 := by rw [g14]; exact hn.si (by decide)
      refine ae_vret dX7_note_36 rfl ?_
      exact ⟨rfl, ⟨h, hn⟩⟩
set_option maxRecDepth 100000 in
set_option maxHeartbeats 4000000 in
theorem c_X7_inner {ox : List (Nat × (Nat → Int32))} {d N : Nat} {B H : am_H} {a1 : Int32}  (h : jm N B 320 H) (u_1 : 0 ≤ a1.toInt) (v_1 : a1.toInt ≤ 47) : am_DB 0 ox d yX7_inner mX7_inner [.ref 288, .int a1] H (fun o H1 => (∃ v : Int32, o = .inl (some (.int v)) ∧ 0 ≤ v.toInt ∧ v.toInt ≤ 144) ∧ H1 = H) := by
  refine ae_enter rfl rfl rfl rfl (Nat.le_of_ble_eq_true rfl) ?_
  show am_EB 0 ox d mX7_inner 0 [(0, .ref 288), (1, .int a1)] [] H _
  refine ae_aload_n (q := 1) dX7_inner_0 rfl rfl rfl ?_
  refine ae_getR (q := 4) dX7_inner_1 fl_X7_34 rfl (h.s l288 t288) (h.l l288) (h.mr (k := 8) (b := 297) (by decide) rfl) rfl ?_
  refine ae_iload_n (q := 5) dX7_inner_4 rfl rfl rfl ?_
  refine ae_iald (q := 6) dX7_inner_5 (h.s l297 t297) (h.l l297) (vin (by omega) (by omega)) rfl ?_
  obtain ⟨x1, e1, u1, v1⟩ := rdi (h.i l297 t297 (k := a1.toNatClampNeg) (p := (0, 3)) rfl)
  refine ae_eqi e1 ?_
  refine ae_if_le (t := 24) (q := 9) dX7_inner_6 (by decide) rfl (fun c2 => ?_) (fun c2 => ?_)
  · have c2 := i_le (a := x1.toInt) (b := 0) rfl (by decide) c2
    refine ae_aload_n (q := 25) dX7_inner_24 rfl rfl rfl ?_
    refine ae_getR (q := 28) dX7_inner_25 fl_X7_31 rfl (h.s l288 t288) (h.l l288) (h.mr (k := 7) (b := 296) (by decide) rfl) rfl ?_
    refine ae_iload_n (q := 29) dX7_inner_28 rfl rfl rfl ?_
    refine ae_iald (q := 30) dX7_inner_29 (h.s l296 t296) (h.l l296) (vin (by omega) (by omega)) rfl ?_
    obtain ⟨x3, e3, u3, v3⟩ := rdi (h.i l296 t296 (k := a1.toNatClampNeg) (p := (0, 144)) rfl)
    refine ae_eqi e3 ?_
    refine ae_iret dX7_inner_30 rfl rfl ?_
    exact ⟨⟨_, rfl, (by omega), (by omega)⟩, rfl⟩
  · have c2 := i_nle (a := x1.toInt) (b := 0) rfl (by decide) c2
    refine ae_iconst (v := 3) (q := 10) dX7_inner_9 (by decide) rfl ?_
    refine ae_iload_n (q := 11) dX7_inner_10 rfl rfl rfl ?_
    refine ae_imul (q := 12) dX7_inner_11 rfl ?_
    obtain ⟨x4, e4⟩ : ∃ z, 3 * a1 = z := ⟨_, rfl⟩
    refine ae_eqi e4 ?_
    have f4 : x4.toInt = 3 * a1.toInt := by rw [← e4]; exact i_mul (by decide) rfl (by omega) (by omega)
    refine ae_aload_n (q := 13) dX7_inner_12 rfl rfl rfl ?_
    refine ae_getR (q := 16) dX7_inner_13 fl_X7_34 rfl (h.s l288 t288) (h.l l288) (h.mr (k := 8) (b := 297) (by decide) rfl) rfl ?_
    refine ae_iload_n (q := 17) dX7_inner_16 rfl rfl rfl ?_
    refine ae_iald (q := 18) dX7_inner_17 (h.s l297 t297) (h.l l297) (vin (by omega) (by omega)) rfl ?_
    refine ae_eqi e1 ?_
    refine ae_iadd (q := 19) dX7_inner_18 rfl ?_
    obtain ⟨x5, e5⟩ : ∃ z, x4 + x1 = z := ⟨_, rfl⟩
    refine ae_eqi e5 ?_
    have f5 : x5.toInt = x4.toInt + x1.toInt := by rw [← e5]; exact i_add rfl rfl (by omega) (by omega)
    refine ae_iconst (v := 1) (q := 20) dX7_inner_19 (by decide) rfl ?_
    refine ae_isub (q := 21) dX7_inner_20 rfl ?_
    obtain ⟨x6, e6⟩ : ∃ z, x5 - 1 = z := ⟨_, rfl⟩
    refine ae_eqi e6 ?_
    have f6 : x6.toInt = x5.toInt - 1 := by rw [← e6]; exact i_sub rfl (by decide) (by omega) (by omega)
    refine ae_goto (q := 30) dX7_inner_21 (by decide) ?_
    refine ae_iret dX7_inner_30 rfl rfl ?_
    exact ⟨⟨_, rfl, (by omega), (by omega)⟩, rfl⟩
set_option maxRecDepth 100000 in
set_option maxHeartbeats 4000000 in
theorem c_X7_move {ox : List (Nat × (Nat → Int32))} {d N : Nat} {B H : am_H}   (h : jm N B 320 H)  : am_DB 0 ox d yX7_move mX7_move [.ref 288] H (fun o H1 => o = .inl none ∧ jm N B 320 H1 ∧ nd H H1) := by
  refine ae_enter rfl rfl rfl rfl (Nat.le_of_ble_eq_true rfl) ?_
  show am_EB 0 ox d mX7_move 0 [(0, .ref 288)] [] H _
  have hn : nd H H := nd.rf
  refine ae_iconst (v := 0) (q := 1) dX7_move_0 (by decide) rfl ?_
  refine ae_istore_n (lv' := [(1, .int 0), (0, .ref 288)]) (q := 2) dX7_move_1 rfl (by decide) rfl rfl ?_
  have lab2 : ∀ (n1 : Nat) (y1_1 : Int32) (K1 : am_H), jm N B 320 K1 → 0 ≤ y1_1.toInt → y1_1.toInt ≤ 2 → 2 - y1_1.toInt ≤ (n1 : Int) → nd H K1 → am_EB 0 ox d mX7_move 2 [(1, .int y1_1), (0, .ref 288)] [] K1 (fun o H1 => o = .inl none ∧ jm N B 320 H1 ∧ nd H H1) := by
    intro n1
    induction n1 using Nat.strongRecOn with
    | ind n1 ih1 =>
      intro y1_1 K1 h p1_1 q1_1 mm1 hn
      refine ae_iload_n (q := 3) dX7_move_2 rfl rfl rfl ?_
      refine ae_iconst (v := 2) (q := 4) dX7_move_3 (by decide) rfl ?_
      refine ae_icmp_ge (t := 93) (q := 7) dX7_move_4 (by decide) rfl (fun c2 => ?_) (fun c2 => ?_)
      · have c2 := i_le (a := 2) (b := y1_1.toInt) (by decide) rfl c2
        refine ae_vret dX7_move_93 rfl ?_
        exact ⟨rfl, ⟨h, hn⟩⟩
      · have c2 := i_nle (a := 2) (b := y1_1.toInt) (by decide) rfl c2
        refine ae_iconst (v := (-1)) (q := 8) dX7_move_7 (by decide) rfl ?_
        refine ae_istore_n (lv' := [(2, .int (-1)), (1, .int y1_1), (0, .ref 288)]) (q := 9) dX7_move_8 rfl (by decide) rfl rfl ?_
        refine ae_iconst (v := 0) (q := 10) dX7_move_9 (by decide) rfl ?_
        refine ae_istore_n (lv' := [(3, .int 0), (2, .int (-1)), (1, .int y1_1), (0, .ref 288)]) (q := 11) dX7_move_10 rfl (by decide) rfl rfl ?_
        have lab11 : ∀ (n3 : Nat) (y3_3 : Int32) (y3_2 : Int32) (K3 : am_H), jm N B 320 K3 → 0 ≤ y3_3.toInt → y3_3.toInt ≤ 48 → 48 - y3_3.toInt ≤ (n3 : Int) → nd H K3 → am_EB 0 ox d mX7_move 11 [(3, .int y3_3), (2, .int y3_2), (1, .int y1_1), (0, .ref 288)] [] K3 (fun o H1 => o = .inl none ∧ jm N B 320 H1 ∧ nd H H1) := by
          intro n3
          induction n3 using Nat.strongRecOn with
          | ind n3 ih3 =>
            intro y3_3 y3_2 K3 h p3_3 q3_3 mm3 hn
            refine ae_iload_n (q := 12) dX7_move_11 rfl rfl rfl ?_
            refine ae_aload_n (q := 13) dX7_move_12 rfl rfl rfl ?_
            refine ae_getI (q := 16) dX7_move_13 fl_X7_119 rfl (h.s l288 t288) (h.l l288) rfl ?_
            obtain ⟨x4, e4, u4, v4⟩ := rdi (h.i l288 t288 (k := 30) (p := (0, 48)) rfl)
            refine ae_eqi e4 ?_
            refine ae_icmp_ge (t := 70) (q := 19) dX7_move_16 (by decide) rfl (fun c5 => ?_) (fun c5 => ?_)
            · have c5 := i_le (a := x4.toInt) (b := y3_3.toInt) rfl rfl c5
              refine ae_iload_n (q := 71) dX7_move_70 rfl rfl rfl ?_
              refine ae_aload_n (q := 72) dX7_move_71 rfl rfl rfl ?_
              refine ae_getR (q := 75) dX7_move_72 fl_X7_68 rfl (h.s l288 t288) (h.l l288) (h.mr (k := 19) (b := 308) (by decide) rfl) rfl ?_
              refine ae_iload_n (q := 76) dX7_move_75 rfl rfl rfl ?_
              refine ae_iald (q := 77) dX7_move_76 (h.s l308 t308) (h.l l308) (vin (by omega) (by omega)) rfl ?_
              obtain ⟨x6, e6⟩ : ∃ x, am_gi K3 308 y1_1.toNatClampNeg = x := ⟨_, rfl⟩
              refine ae_eqi e6 ?_
              refine ae_icmp_le (t := 87) (q := 80) dX7_move_77 (by decide) rfl (fun c7 => ?_) (fun c7 => ?_)
              · have c7 := i_le (a := y3_2.toInt) (b := x6.toInt) rfl rfl c7
                obtain ⟨x8, e8⟩ : ∃ z, y1_1 + Int32.ofInt 1 = z := ⟨_, rfl⟩
                have f8 : x8.toInt = y1_1.toInt + 1 := by rw [← e8]; exact i_add rfl (by decide) (by omega) (by omega)
                refine ae_iinc (v := x8) (lv' := [(1, .int x8), (3, .int y3_3), (2, .int y3_2), (0, .ref 288)]) (q := 90) dX7_move_87 rfl e8 (by decide) rfl rfl ?_
                refine ae_goto (q := 2) dX7_move_90 (by decide) ?_
                exact ae_lv (lv' := [(1, .int x8), (0, .ref 288)]) ⟨rfl, rfl, trivial⟩ (ih1 (n1 - 1) (by omega) x8 _ h (by omega) (by omega) (by omega) hn)
              · have c7 := i_nle (a := y3_2.toInt) (b := x6.toInt) rfl rfl c7
                refine ae_aload_n (q := 81) dX7_move_80 rfl rfl rfl ?_
                refine ae_getR (q := 84) dX7_move_81 fl_X7_68 rfl (h.s l288 t288) (h.l l288) (h.mr (k := 19) (b := 308) (by decide) rfl) rfl ?_
                refine ae_iload_n (q := 85) dX7_move_84 rfl rfl rfl ?_
                refine ae_iload_n (q := 86) dX7_move_85 rfl rfl rfl ?_
                refine ae_iast (q := 87) dX7_move_86 (h.s l308 t308) (h.l l308) (vin (by omega) (by omega)) rfl ?_
                refine ae_gen (fun G9 g9 => ?_)
                have h : jm N B 320 G9 := by rw [g9]; exact h.w t308 (by decide) (by decide) (by decide) inr_any
                have hn : nd H G9 := by rw [g9]; exact hn.si (by decide)
                obtain ⟨x10, e10⟩ : ∃ z, y1_1 + Int32.ofInt 1 = z := ⟨_, rfl⟩
                have f10 : x10.toInt = y1_1.toInt + 1 := by rw [← e10]; exact i_add rfl (by decide) (by omega) (by omega)
                refine ae_iinc (v := x10) (lv' := [(1, .int x10), (3, .int y3_3), (2, .int y3_2), (0, .ref 288)]) (q := 90) dX7_move_87 rfl e10 (by decide) rfl rfl ?_
                refine ae_goto (q := 2) dX7_move_90 (by decide) ?_
                exact ae_lv (lv' := [(1, .int x10), (0, .ref 288)]) ⟨rfl, rfl, trivial⟩ (ih1 (n1 - 1) (by omega) x10 _ h (by omega) (by omega) (by omega) hn)
            · have c5 := i_nle (a := x4.toInt) (b := y3_3.toInt) rfl rfl c5
              refine ae_aload_n (q := 20) dX7_move_19 rfl rfl rfl ?_
              refine ae_getR (q := 23) dX7_move_20 fl_X7_59 rfl (h.s l288 t288) (h.l l288) (h.mr (k := 16) (b := 305) (by decide) rfl) rfl ?_
              refine ae_iconst (v := 2) (q := 24) dX7_move_23 (by decide) rfl ?_
              refine ae_iload_n (q := 25) dX7_move_24 rfl rfl rfl ?_
              refine ae_imul (q := 26) dX7_move_25 rfl ?_
              obtain ⟨x11, e11⟩ : ∃ z, 2 * y3_3 = z := ⟨_, rfl⟩
              refine ae_eqi e11 ?_
              have f11 : x11.toInt = 2 * y3_3.toInt := by rw [← e11]; exact i_mul (by decide) rfl (by omega) (by omega)
              refine ae_iload_n (q := 27) dX7_move_26 rfl rfl rfl ?_
              refine ae_iadd (q := 28) dX7_move_27 rfl ?_
              obtain ⟨x12, e12⟩ : ∃ z, x11 + y1_1 = z := ⟨_, rfl⟩
              refine ae_eqi e12 ?_
              have f12 : x12.toInt = x11.toInt + y1_1.toInt := by rw [← e12]; exact i_add rfl rfl (by omega) (by omega)
              refine ae_iald (q := 29) dX7_move_28 (h.s l305 t305) (h.l l305) (vin (by omega) (by omega)) rfl ?_
              obtain ⟨x13, e13⟩ : ∃ x, am_gi K3 305 x12.toNatClampNeg = x := ⟨_, rfl⟩
              refine ae_eqi e13 ?_
              refine ae_iconst (v := 1) (q := 30) dX7_move_29 (by decide) rfl ?_
              refine ae_iand (q := 31) dX7_move_30 rfl ?_
              obtain ⟨x14, e14⟩ : ∃ z, x13 &&& 1 = z := ⟨_, rfl⟩
              refine ae_eqi e14 ?_
              refine ae_iconst (v := 1) (q := 32) dX7_move_31 (by decide) rfl ?_
              refine ae_icmp_ne (t := 64) (q := 35) dX7_move_32 (by decide) rfl (fun c15 => ?_) (fun c15 => ?_)
              · have c15 := i_ne (a := x14.toInt) (b := 1) rfl (by decide) c15
                obtain ⟨x16, e16⟩ : ∃ z, y3_3 + Int32.ofInt 1 = z := ⟨_, rfl⟩
                have f16 : x16.toInt = y3_3.toInt + 1 := by rw [← e16]; exact i_add rfl (by decide) (by omega) (by omega)
                refine ae_iinc (v := x16) (lv' := [(3, .int x16), (2, .int y3_2), (1, .int y1_1), (0, .ref 288)]) (q := 67) dX7_move_64 rfl e16 (by decide) rfl rfl ?_
                refine ae_goto (q := 11) dX7_move_67 (by decide) ?_
                exact ae_lv (lv' := [(3, .int x16), (2, .int y3_2), (1, .int y1_1), (0, .ref 288)]) ⟨rfl, rfl, rfl, rfl, trivial⟩ (ih3 (n3 - 1) (by omega) x16 y3_2 _ h (by omega) (by omega) (by omega) hn)
              · have c15 := i_eq (a := x14.toInt) (b := 1) rfl (by decide) c15
                refine ae_iload_n (q := 36) dX7_move_35 rfl rfl rfl ?_
                refine ae_if_lt (t := 53) (q := 39) dX7_move_36 (by decide) rfl (fun c17 => ?_) (fun c17 => ?_)
                · have c17 := i_lt (a := y3_2.toInt) (b := 0) rfl (by decide) c17
                  refine ae_aload_n (q := 54) dX7_move_53 rfl rfl rfl ?_
                  refine ae_getR (q := 57) dX7_move_54 fl_X7_62 rfl (h.s l288 t288) (h.l l288) (h.mr (k := 17) (b := 306) (by decide) rfl) rfl ?_
                  refine ae_iconst (v := 2) (q := 58) dX7_move_57 (by decide) rfl ?_
                  refine ae_iload_n (q := 59) dX7_move_58 rfl rfl rfl ?_
                  refine ae_imul (q := 60) dX7_move_59 rfl ?_
                  refine ae_eqi e11 ?_
                  refine ae_iload_n (q := 61) dX7_move_60 rfl rfl rfl ?_
                  refine ae_iadd (q := 62) dX7_move_61 rfl ?_
                  refine ae_eqi e12 ?_
                  refine ae_iald (q := 63) dX7_move_62 (h.s l306 t306) (h.l l306) (vin (by omega) (by omega)) rfl ?_
                  obtain ⟨x18, e18⟩ : ∃ x, am_gi K3 306 x12.toNatClampNeg = x := ⟨_, rfl⟩
                  refine ae_eqi e18 ?_
                  refine ae_istore_n (lv' := [(2, .int x18), (3, .int y3_3), (1, .int y1_1), (0, .ref 288)]) (q := 64) dX7_move_63 rfl (by decide) rfl rfl ?_
                  obtain ⟨x19, e19⟩ : ∃ z, y3_3 + Int32.ofInt 1 = z := ⟨_, rfl⟩
                  have f19 : x19.toInt = y3_3.toInt + 1 := by rw [← e19]; exact i_add rfl (by decide) (by omega) (by omega)
                  refine ae_iinc (v := x19) (lv' := [(3, .int x19), (2, .int x18), (1, .int y1_1), (0, .ref 288)]) (q := 67) dX7_move_64 rfl e19 (by decide) rfl rfl ?_
                  refine ae_goto (q := 11) dX7_move_67 (by decide) ?_
                  exact ae_lv (lv' := [(3, .int x19), (2, .int x18), (1, .int y1_1), (0, .ref 288)]) ⟨rfl, rfl, rfl, rfl, trivial⟩ (ih3 (n3 - 1) (by omega) x19 x18 _ h (by omega) (by omega) (by omega) hn)
                · have c17 := i_nlt (a := y3_2.toInt) (b := 0) rfl (by decide) c17
                  refine ae_aload_n (q := 40) dX7_move_39 rfl rfl rfl ?_
                  refine ae_getR (q := 43) dX7_move_40 fl_X7_62 rfl (h.s l288 t288) (h.l l288) (h.mr (k := 17) (b := 306) (by decide) rfl) rfl ?_
                  refine ae_iconst (v := 2) (q := 44) dX7_move_43 (by decide) rfl ?_
                  refine ae_iload_n (q := 45) dX7_move_44 rfl rfl rfl ?_
                  refine ae_imul (q := 46) dX7_move_45 rfl ?_
                  refine ae_eqi e11 ?_
                  refine ae_iload_n (q := 47) dX7_move_46 rfl rfl rfl ?_
                  refine ae_iadd (q := 48) dX7_move_47 rfl ?_
                  refine ae_eqi e12 ?_
                  refine ae_iald (q := 49) dX7_move_48 (h.s l306 t306) (h.l l306) (vin (by omega) (by omega)) rfl ?_
                  obtain ⟨x20, e20⟩ : ∃ x, am_gi K3 306 x12.toNatClampNeg = x := ⟨_, rfl⟩
                  refine ae_eqi e20 ?_
                  refine ae_iload_n (q := 50) dX7_move_49 rfl rfl rfl ?_
                  refine ae_icmp_ge (t := 64) (q := 53) dX7_move_50 (by decide) rfl (fun c21 => ?_) (fun c21 => ?_)
                  · have c21 := i_le (a := y3_2.toInt) (b := x20.toInt) rfl rfl c21
                    obtain ⟨x22, e22⟩ : ∃ z, y3_3 + Int32.ofInt 1 = z := ⟨_, rfl⟩
                    have f22 : x22.toInt = y3_3.toInt + 1 := by rw [← e22]; exact i_add rfl (by decide) (by omega) (by omega)
                    refine ae_iinc (v := x22) (lv' := [(3, .int x22), (2, .int y3_2), (1, .int y1_1), (0, .ref 288)]) (q := 67) dX7_move_64 rfl e22 (by decide) rfl rfl ?_
                    refine ae_goto (q := 11) dX7_move_67 (by decide) ?_
                    exact ae_lv (lv' := [(3, .int x22), (2, .int y3_2), (1, .int y1_1), (0, .ref 288)]) ⟨rfl, rfl, rfl, rfl, trivial⟩ (ih3 (n3 - 1) (by omega) x22 y3_2 _ h (by omega) (by omega) (by omega) hn)
                  · have c21 := i_nle (a := y3_2.toInt) (b := x20.toInt) rfl rfl c21
                    refine ae_aload_n (q := 54) dX7_move_53 rfl rfl rfl ?_
                    refine ae_getR (q := 57) dX7_move_54 fl_X7_62 rfl (h.s l288 t288) (h.l l288) (h.mr (k := 17) (b := 306) (by decide) rfl) rfl ?_
                    refine ae_iconst (v := 2) (q := 58) dX7_move_57 (by decide) rfl ?_
                    refine ae_iload_n (q := 59) dX7_move_58 rfl rfl rfl ?_
                    refine ae_imul (q := 60) dX7_move_59 rfl ?_
                    refine ae_eqi e11 ?_
                    refine ae_iload_n (q := 61) dX7_move_60 rfl rfl rfl ?_
                    refine ae_iadd (q := 62) dX7_move_61 rfl ?_
                    refine ae_eqi e12 ?_
                    refine ae_iald (q := 63) dX7_move_62 (h.s l306 t306) (h.l l306) (vin (by omega) (by omega)) rfl ?_
                    refine ae_eqi e20 ?_
                    refine ae_istore_n (lv' := [(2, .int x20), (3, .int y3_3), (1, .int y1_1), (0, .ref 288)]) (q := 64) dX7_move_63 rfl (by decide) rfl rfl ?_
                    obtain ⟨x23, e23⟩ : ∃ z, y3_3 + Int32.ofInt 1 = z := ⟨_, rfl⟩
                    have f23 : x23.toInt = y3_3.toInt + 1 := by rw [← e23]; exact i_add rfl (by decide) (by omega) (by omega)
                    refine ae_iinc (v := x23) (lv' := [(3, .int x23), (2, .int x20), (1, .int y1_1), (0, .ref 288)]) (q := 67) dX7_move_64 rfl e23 (by decide) rfl rfl ?_
                    refine ae_goto (q := 11) dX7_move_67 (by decide) ?_
                    exact ae_lv (lv' := [(3, .int x23), (2, .int x20), (1, .int y1_1), (0, .ref 288)]) ⟨rfl, rfl, rfl, rfl, trivial⟩ (ih3 (n3 - 1) (by omega) x23 x20 _ h (by omega) (by omega) (by omega) hn)
        exact ae_lv (lv' := [(3, .int 0), (2, .int (-1)), (1, .int y1_1), (0, .ref 288)]) ⟨rfl, rfl, rfl, rfl, trivial⟩ (lab11 48 0 (-1) _ h (by decide) (by decide) (show 48 - (0 : Int32).toInt ≤ _ from by rw [show (0 : Int32).toInt = 0 from by decide]; omega) hn)
  exact ae_lv (lv' := [(1, .int 0), (0, .ref 288)]) ⟨rfl, rfl, trivial⟩ (lab2 2 0 _ h (by decide) (by decide) (show 2 - (0 : Int32).toInt ≤ _ from by rw [show (0 : Int32).toInt = 0 from by decide]; omega) hn)
set_option maxRecDepth 100000 in
set_option maxHeartbeats 4000000 in
theorem c_X7_isPassed {ox : List (Nat × (Nat → Int32))} {d N : Nat} {B H : am_H} {a1 : Int32}  (h : jm N B 320 H) (u_1 : 0 ≤ a1.toInt) (v_1 : a1.toInt ≤ 47) : am_DB 0 ox d yX7_isPassed mX7_isPassed [.ref 288, .int a1] H (fun o H1 => (∃ v : Int32, o = .inl (some (.int v)) ∧ 0 ≤ v.toInt ∧ v.toInt ≤ 1) ∧ H1 = H) := by
  refine ae_enter rfl rfl rfl rfl (Nat.le_of_ble_eq_true rfl) ?_
  show am_EB 0 ox d mX7_isPassed 0 [(0, .ref 288), (1, .int a1)] [] H _
  refine ae_iconst (v := 0) (q := 1) dX7_isPassed_0 (by decide) rfl ?_
  refine ae_istore_n (lv' := [(2, .int 0), (0, .ref 288), (1, .int a1)]) (q := 2) dX7_isPassed_1 rfl (by decide) rfl rfl ?_
  refine ae_iload_n (q := 3) dX7_isPassed_2 rfl rfl rfl ?_
  refine ae_iconst (v := 2) (q := 4) dX7_isPassed_3 (by decide) rfl ?_
  refine ae_icmp_ge (t := 50) (q := 7) dX7_isPassed_4 (by decide) rfl (fun h => absurd h (by decide)) (fun _ => ?_)
  refine ae_aload_n (q := 8) dX7_isPassed_7 rfl rfl rfl ?_
  refine ae_getR (q := 11) dX7_isPassed_8 fl_X7_59 rfl (h.s l288 t288) (h.l l288) (h.mr (k := 16) (b := 305) (by decide) rfl) rfl ?_
  refine ae_iconst (v := 2) (q := 12) dX7_isPassed_11 (by decide) rfl ?_
  refine ae_iload_n (q := 13) dX7_isPassed_12 rfl rfl rfl ?_
  refine ae_imul (q := 14) dX7_isPassed_13 rfl ?_
  obtain ⟨x1, e1⟩ : ∃ z, 2 * a1 = z := ⟨_, rfl⟩
  refine ae_eqi e1 ?_
  have f1 : x1.toInt = 2 * a1.toInt := by rw [← e1]; exact i_mul (by decide) rfl (by omega) (by omega)
  refine ae_iload_n (q := 15) dX7_isPassed_14 rfl rfl rfl ?_
  refine ae_iadd (q := 16) dX7_isPassed_15 rfl ?_
  obtain ⟨x2, e2⟩ : ∃ z, x1 + 0 = z := ⟨_, rfl⟩
  refine ae_eqi e2 ?_
  have f2 : x2.toInt = x1.toInt + 0 := by rw [← e2]; exact i_add rfl (by decide) (by omega) (by omega)
  refine ae_iald (q := 17) dX7_isPassed_16 (h.s l305 t305) (h.l l305) (vin (by omega) (by omega)) rfl ?_
  obtain ⟨x3, e3⟩ : ∃ x, am_gi H 305 x2.toNatClampNeg = x := ⟨_, rfl⟩
  refine ae_eqi e3 ?_
  refine ae_iconst (v := 2) (q := 18) dX7_isPassed_17 (by decide) rfl ?_
  refine ae_iand (q := 19) dX7_isPassed_18 rfl ?_
  obtain ⟨x4, e4⟩ : ∃ z, x3 &&& 2 = z := ⟨_, rfl⟩
  refine ae_eqi e4 ?_
  refine ae_iconst (v := 2) (q := 20) dX7_isPassed_19 (by decide) rfl ?_
  refine ae_icmp_ne (t := 44) (q := 23) dX7_isPassed_20 (by decide) rfl (fun c5 => ?_) (fun c5 => ?_)
  · have c5 := i_ne (a := x4.toInt) (b := 2) rfl (by decide) c5
    refine ae_iinc (v := 1) (lv' := [(2, .int 1), (0, .ref 288), (1, .int a1)]) (q := 47) dX7_isPassed_44 rfl (by decide) (by decide) rfl rfl ?_
    refine ae_goto (q := 2) dX7_isPassed_47 (by decide) ?_
    refine ae_iload_n (q := 3) dX7_isPassed_2 rfl rfl rfl ?_
    refine ae_iconst (v := 2) (q := 4) dX7_isPassed_3 (by decide) rfl ?_
    refine ae_icmp_ge (t := 50) (q := 7) dX7_isPassed_4 (by decide) rfl (fun h => absurd h (by decide)) (fun _ => ?_)
    refine ae_aload_n (q := 8) dX7_isPassed_7 rfl rfl rfl ?_
    refine ae_getR (q := 11) dX7_isPassed_8 fl_X7_59 rfl (h.s l288 t288) (h.l l288) (h.mr (k := 16) (b := 305) (by decide) rfl) rfl ?_
    refine ae_iconst (v := 2) (q := 12) dX7_isPassed_11 (by decide) rfl ?_
    refine ae_iload_n (q := 13) dX7_isPassed_12 rfl rfl rfl ?_
    refine ae_imul (q := 14) dX7_isPassed_13 rfl ?_
    refine ae_eqi e1 ?_
    refine ae_iload_n (q := 15) dX7_isPassed_14 rfl rfl rfl ?_
    refine ae_iadd (q := 16) dX7_isPassed_15 rfl ?_
    obtain ⟨x6, e6⟩ : ∃ z, x1 + 1 = z := ⟨_, rfl⟩
    refine ae_eqi e6 ?_
    have f6 : x6.toInt = x1.toInt + 1 := by rw [← e6]; exact i_add rfl (by decide) (by omega) (by omega)
    refine ae_iald (q := 17) dX7_isPassed_16 (h.s l305 t305) (h.l l305) (vin (by omega) (by omega)) rfl ?_
    obtain ⟨x7, e7⟩ : ∃ x, am_gi H 305 x6.toNatClampNeg = x := ⟨_, rfl⟩
    refine ae_eqi e7 ?_
    refine ae_iconst (v := 2) (q := 18) dX7_isPassed_17 (by decide) rfl ?_
    refine ae_iand (q := 19) dX7_isPassed_18 rfl ?_
    obtain ⟨x8, e8⟩ : ∃ z, x7 &&& 2 = z := ⟨_, rfl⟩
    refine ae_eqi e8 ?_
    refine ae_iconst (v := 2) (q := 20) dX7_isPassed_19 (by decide) rfl ?_
    refine ae_icmp_ne (t := 44) (q := 23) dX7_isPassed_20 (by decide) rfl (fun c9 => ?_) (fun c9 => ?_)
    · have c9 := i_ne (a := x8.toInt) (b := 2) rfl (by decide) c9
      refine ae_iinc (v := 2) (lv' := [(2, .int 2), (0, .ref 288), (1, .int a1)]) (q := 47) dX7_isPassed_44 rfl (by decide) (by decide) rfl rfl ?_
      refine ae_goto (q := 2) dX7_isPassed_47 (by decide) ?_
      refine ae_iload_n (q := 3) dX7_isPassed_2 rfl rfl rfl ?_
      refine ae_iconst (v := 2) (q := 4) dX7_isPassed_3 (by decide) rfl ?_
      refine ae_icmp_ge (t := 50) (q := 7) dX7_isPassed_4 (by decide) rfl (fun _ => ?_) (fun h => absurd h (by decide))
      refine ae_iconst (v := 1) (q := 51) dX7_isPassed_50 (by decide) rfl ?_
      refine ae_iret dX7_isPassed_51 rfl rfl ?_
      exact ⟨⟨_, rfl, (by decide), (by decide)⟩, rfl⟩
    · have c9 := i_eq (a := x8.toInt) (b := 2) rfl (by decide) c9
      refine ae_aload_n (q := 24) dX7_isPassed_23 rfl rfl rfl ?_
      refine ae_getR (q := 27) dX7_isPassed_24 fl_X7_68 rfl (h.s l288 t288) (h.l l288) (h.mr (k := 19) (b := 308) (by decide) rfl) rfl ?_
      refine ae_iload_n (q := 28) dX7_isPassed_27 rfl rfl rfl ?_
      refine ae_iald (q := 29) dX7_isPassed_28 (h.s l308 t308) (h.l l308) (by unfold vp_in; decide) rfl ?_
      refine ae_eqi (show am_gi H 308 (1 : Int32).toNatClampNeg = am_gi H 308 1 from by rw [show (1 : Int32).toNatClampNeg = 1 from by decide]) ?_
      obtain ⟨x10, e10⟩ : ∃ x, am_gi H 308 1 = x := ⟨_, rfl⟩
      refine ae_eqi e10 ?_
      refine ae_aload_n (q := 30) dX7_isPassed_29 rfl rfl rfl ?_
      refine ae_getR (q := 33) dX7_isPassed_30 fl_X7_65 rfl (h.s l288 t288) (h.l l288) (h.mr (k := 18) (b := 307) (by decide) rfl) rfl ?_
      refine ae_iconst (v := 2) (q := 34) dX7_isPassed_33 (by decide) rfl ?_
      refine ae_iload_n (q := 35) dX7_isPassed_34 rfl rfl rfl ?_
      refine ae_imul (q := 36) dX7_isPassed_35 rfl ?_
      refine ae_eqi e1 ?_
      refine ae_iload_n (q := 37) dX7_isPassed_36 rfl rfl rfl ?_
      refine ae_iadd (q := 38) dX7_isPassed_37 rfl ?_
      refine ae_eqi e6 ?_
      refine ae_iald (q := 39) dX7_isPassed_38 (h.s l307 t307) (h.l l307) (vin (by omega) (by omega)) rfl ?_
      obtain ⟨x11, e11⟩ : ∃ x, am_gi H 307 x6.toNatClampNeg = x := ⟨_, rfl⟩
      refine ae_eqi e11 ?_
      refine ae_icmp_gt (t := 44) (q := 42) dX7_isPassed_39 (by decide) rfl (fun c12 => ?_) (fun c12 => ?_)
      · have c12 := i_lt (a := x11.toInt) (b := x10.toInt) rfl rfl c12
        refine ae_iinc (v := 2) (lv' := [(2, .int 2), (0, .ref 288), (1, .int a1)]) (q := 47) dX7_isPassed_44 rfl (by decide) (by decide) rfl rfl ?_
        refine ae_goto (q := 2) dX7_isPassed_47 (by decide) ?_
        refine ae_iload_n (q := 3) dX7_isPassed_2 rfl rfl rfl ?_
        refine ae_iconst (v := 2) (q := 4) dX7_isPassed_3 (by decide) rfl ?_
        refine ae_icmp_ge (t := 50) (q := 7) dX7_isPassed_4 (by decide) rfl (fun _ => ?_) (fun h => absurd h (by decide))
        refine ae_iconst (v := 1) (q := 51) dX7_isPassed_50 (by decide) rfl ?_
        refine ae_iret dX7_isPassed_51 rfl rfl ?_
        exact ⟨⟨_, rfl, (by decide), (by decide)⟩, rfl⟩
      · have c12 := i_nlt (a := x11.toInt) (b := x10.toInt) rfl rfl c12
        refine ae_iconst (v := 0) (q := 43) dX7_isPassed_42 (by decide) rfl ?_
        refine ae_iret dX7_isPassed_43 rfl rfl ?_
        exact ⟨⟨_, rfl, (by decide), (by decide)⟩, rfl⟩
  · have c5 := i_eq (a := x4.toInt) (b := 2) rfl (by decide) c5
    refine ae_aload_n (q := 24) dX7_isPassed_23 rfl rfl rfl ?_
    refine ae_getR (q := 27) dX7_isPassed_24 fl_X7_68 rfl (h.s l288 t288) (h.l l288) (h.mr (k := 19) (b := 308) (by decide) rfl) rfl ?_
    refine ae_iload_n (q := 28) dX7_isPassed_27 rfl rfl rfl ?_
    refine ae_iald (q := 29) dX7_isPassed_28 (h.s l308 t308) (h.l l308) (by unfold vp_in; decide) rfl ?_
    refine ae_eqi (show am_gi H 308 (0 : Int32).toNatClampNeg = am_gi H 308 0 from by rw [show (0 : Int32).toNatClampNeg = 0 from by decide]) ?_
    obtain ⟨x13, e13⟩ : ∃ x, am_gi H 308 0 = x := ⟨_, rfl⟩
    refine ae_eqi e13 ?_
    refine ae_aload_n (q := 30) dX7_isPassed_29 rfl rfl rfl ?_
    refine ae_getR (q := 33) dX7_isPassed_30 fl_X7_65 rfl (h.s l288 t288) (h.l l288) (h.mr (k := 18) (b := 307) (by decide) rfl) rfl ?_
    refine ae_iconst (v := 2) (q := 34) dX7_isPassed_33 (by decide) rfl ?_
    refine ae_iload_n (q := 35) dX7_isPassed_34 rfl rfl rfl ?_
    refine ae_imul (q := 36) dX7_isPassed_35 rfl ?_
    refine ae_eqi e1 ?_
    refine ae_iload_n (q := 37) dX7_isPassed_36 rfl rfl rfl ?_
    refine ae_iadd (q := 38) dX7_isPassed_37 rfl ?_
    refine ae_eqi e2 ?_
    refine ae_iald (q := 39) dX7_isPassed_38 (h.s l307 t307) (h.l l307) (vin (by omega) (by omega)) rfl ?_
    obtain ⟨x14, e14⟩ : ∃ x, am_gi H 307 x2.toNatClampNeg = x := ⟨_, rfl⟩
    refine ae_eqi e14 ?_
    refine ae_icmp_gt (t := 44) (q := 42) dX7_isPassed_39 (by decide) rfl (fun c15 => ?_) (fun c15 => ?_)
    · have c15 := i_lt (a := x14.toInt) (b := x13.toInt) rfl rfl c15
      refine ae_iinc (v := 1) (lv' := [(2, .int 1), (0, .ref 288), (1, .int a1)]) (q := 47) dX7_isPassed_44 rfl (by decide) (by decide) rfl rfl ?_
      refine ae_goto (q := 2) dX7_isPassed_47 (by decide) ?_
      refine ae_iload_n (q := 3) dX7_isPassed_2 rfl rfl rfl ?_
      refine ae_iconst (v := 2) (q := 4) dX7_isPassed_3 (by decide) rfl ?_
      refine ae_icmp_ge (t := 50) (q := 7) dX7_isPassed_4 (by decide) rfl (fun h => absurd h (by decide)) (fun _ => ?_)
      refine ae_aload_n (q := 8) dX7_isPassed_7 rfl rfl rfl ?_
      refine ae_getR (q := 11) dX7_isPassed_8 fl_X7_59 rfl (h.s l288 t288) (h.l l288) (h.mr (k := 16) (b := 305) (by decide) rfl) rfl ?_
      refine ae_iconst (v := 2) (q := 12) dX7_isPassed_11 (by decide) rfl ?_
      refine ae_iload_n (q := 13) dX7_isPassed_12 rfl rfl rfl ?_
      refine ae_imul (q := 14) dX7_isPassed_13 rfl ?_
      refine ae_eqi e1 ?_
      refine ae_iload_n (q := 15) dX7_isPassed_14 rfl rfl rfl ?_
      refine ae_iadd (q := 16) dX7_isPassed_15 rfl ?_
      obtain ⟨x16, e16⟩ : ∃ z, x1 + 1 = z := ⟨_, rfl⟩
      refine ae_eqi e16 ?_
      have f16 : x16.toInt = x1.toInt + 1 := by rw [← e16]; exact i_add rfl (by decide) (by omega) (by omega)
      refine ae_iald (q := 17) dX7_isPassed_16 (h.s l305 t305) (h.l l305) (vin (by omega) (by omega)) rfl ?_
      obtain ⟨x17, e17⟩ : ∃ x, am_gi H 305 x16.toNatClampNeg = x := ⟨_, rfl⟩
      refine ae_eqi e17 ?_
      refine ae_iconst (v := 2) (q := 18) dX7_isPassed_17 (by decide) rfl ?_
      refine ae_iand (q := 19) dX7_isPassed_18 rfl ?_
      obtain ⟨x18, e18⟩ : ∃ z, x17 &&& 2 = z := ⟨_, rfl⟩
      refine ae_eqi e18 ?_
      refine ae_iconst (v := 2) (q := 20) dX7_isPassed_19 (by decide) rfl ?_
      refine ae_icmp_ne (t := 44) (q := 23) dX7_isPassed_20 (by decide) rfl (fun c19 => ?_) (fun c19 => ?_)
      · have c19 := i_ne (a := x18.toInt) (b := 2) rfl (by decide) c19
        refine ae_iinc (v := 2) (lv' := [(2, .int 2), (0, .ref 288), (1, .int a1)]) (q := 47) dX7_isPassed_44 rfl (by decide) (by decide) rfl rfl ?_
        refine ae_goto (q := 2) dX7_isPassed_47 (by decide) ?_
        refine ae_iload_n (q := 3) dX7_isPassed_2 rfl rfl rfl ?_
        refine ae_iconst (v := 2) (q := 4) dX7_isPassed_3 (by decide) rfl ?_
        refine ae_icmp_ge (t := 50) (q := 7) dX7_isPassed_4 (by decide) rfl (fun _ => ?_) (fun h => absurd h (by decide))
        refine ae_iconst (v := 1) (q := 51) dX7_isPassed_50 (by decide) rfl ?_
        refine ae_iret dX7_isPassed_51 rfl rfl ?_
        exact ⟨⟨_, rfl, (by decide), (by decide)⟩, rfl⟩
      · have c19 := i_eq (a := x18.toInt) (b := 2) rfl (by decide) c19
        refine ae_aload_n (q := 24) dX7_isPassed_23 rfl rfl rfl ?_
        refine ae_getR (q := 27) dX7_isPassed_24 fl_X7_68 rfl (h.s l288 t288) (h.l l288) (h.mr (k := 19) (b := 308) (by decide) rfl) rfl ?_
        refine ae_iload_n (q := 28) dX7_isPassed_27 rfl rfl rfl ?_
        refine ae_iald (q := 29) dX7_isPassed_28 (h.s l308 t308) (h.l l308) (by unfold vp_in; decide) rfl ?_
        refine ae_eqi (show am_gi H 308 (1 : Int32).toNatClampNeg = am_gi H 308 1 from by rw [show (1 : Int32).toNatClampNeg = 1 from by decide]) ?_
        obtain ⟨x20, e20⟩ : ∃ x, am_gi H 308 1 = x := ⟨_, rfl⟩
        refine ae_eqi e20 ?_
        refine ae_aload_n (q := 30) dX7_isPassed_29 rfl rfl rfl ?_
        refine ae_getR (q := 33) dX7_isPassed_30 fl_X7_65 rfl (h.s l288 t288) (h.l l288) (h.mr (k := 18) (b := 307) (by decide) rfl) rfl ?_
        refine ae_iconst (v := 2) (q := 34) dX7_isPassed_33 (by decide) rfl ?_
        refine ae_iload_n (q := 35) dX7_isPassed_34 rfl rfl rfl ?_
        refine ae_imul (q := 36) dX7_isPassed_35 rfl ?_
        refine ae_eqi e1 ?_
        refine ae_iload_n (q := 37) dX7_isPassed_36 rfl rfl rfl ?_
        refine ae_iadd (q := 38) dX7_isPassed_37 rfl ?_
        refine ae_eqi e16 ?_
        refine ae_iald (q := 39) dX7_isPassed_38 (h.s l307 t307) (h.l l307) (vin (by omega) (by omega)) rfl ?_
        obtain ⟨x21, e21⟩ : ∃ x, am_gi H 307 x16.toNatClampNeg = x := ⟨_, rfl⟩
        refine ae_eqi e21 ?_
        refine ae_icmp_gt (t := 44) (q := 42) dX7_isPassed_39 (by decide) rfl (fun c22 => ?_) (fun c22 => ?_)
        · have c22 := i_lt (a := x21.toInt) (b := x20.toInt) rfl rfl c22
          refine ae_iinc (v := 2) (lv' := [(2, .int 2), (0, .ref 288), (1, .int a1)]) (q := 47) dX7_isPassed_44 rfl (by decide) (by decide) rfl rfl ?_
          refine ae_goto (q := 2) dX7_isPassed_47 (by decide) ?_
          refine ae_iload_n (q := 3) dX7_isPassed_2 rfl rfl rfl ?_
          refine ae_iconst (v := 2) (q := 4) dX7_isPassed_3 (by decide) rfl ?_
          refine ae_icmp_ge (t := 50) (q := 7) dX7_isPassed_4 (by decide) rfl (fun _ => ?_) (fun h => absurd h (by decide))
          refine ae_iconst (v := 1) (q := 51) dX7_isPassed_50 (by decide) rfl ?_
          refine ae_iret dX7_isPassed_51 rfl rfl ?_
          exact ⟨⟨_, rfl, (by decide), (by decide)⟩, rfl⟩
        · have c22 := i_nlt (a := x21.toInt) (b := x20.toInt) rfl rfl c22
          refine ae_iconst (v := 0) (q := 43) dX7_isPassed_42 (by decide) rfl ?_
          refine ae_iret dX7_isPassed_43 rfl rfl ?_
          exact ⟨⟨_, rfl, (by decide), (by decide)⟩, rfl⟩
    · have c15 := i_nlt (a := x14.toInt) (b := x13.toInt) rfl rfl c15
      refine ae_iconst (v := 0) (q := 43) dX7_isPassed_42 (by decide) rfl ?_
      refine ae_iret dX7_isPassed_43 rfl rfl ?_
      exact ⟨⟨_, rfl, (by decide), (by decide)⟩, rfl⟩
set_option maxRecDepth 100000 in
set_option maxHeartbeats 4000000 in
theorem c_X7_give {ox : List (Nat × (Nat → Int32))} {d N : Nat} {B H : am_H} {a1 : Int32}  (h : jm N B 320 H) (u_1 : 0 ≤ a1.toInt) (v_1 : a1.toInt ≤ 47) : am_DB 0 ox (d + 1) yX7_give mX7_give [.ref 288, .int a1] H (fun o H1 => o = .inl none ∧ jm N B 320 H1 ∧ nd H H1) := by
  refine ae_enter rfl rfl rfl rfl (Nat.le_of_ble_eq_true rfl) ?_
  show am_EB 0 ox (d + 1) mX7_give 0 [(0, .ref 288), (1, .int a1)] [] H _
  have hn : nd H H := nd.rf
  refine ae_aload_n (q := 1) dX7_give_0 rfl rfl rfl ?_
  refine ae_iload_n (q := 2) dX7_give_1 rfl rfl rfl ?_
  refine ae_callV (ci := 7) (as := [.int a1]) (b := 288) (st := []) (q := 5) dX7_give_2 (c_X7_inner (N := N) (d := d) h (by omega) (by omega)) myX7_inner lk_X7_166 im_X7_inner se_X7_inner rfl (by decide) (h.s l288 t288) (h.l l288) rfl rfl (Nat.le_of_ble_eq_true rfl) rfl (fun o H1 hh => ⟨_, hh.1.choose_spec.1⟩) (fun vv G1 hv => ?_)
  obtain ⟨⟨x1, o1, u1, v1⟩, z1⟩ := hv
  cases o1
  have z1 := z1.symm
  subst z1
  refine ⟨Or.inl rfl, ?_⟩
  refine ae_istore_n (lv' := [(2, .int x1), (0, .ref 288), (1, .int a1)]) (q := 6) dX7_give_5 rfl (by decide) rfl rfl ?_
  refine ae_aload_n (q := 7) dX7_give_6 rfl rfl rfl ?_
  refine ae_getR (q := 10) dX7_give_7 fl_X7_22 rfl (h.s l288 t288) (h.l l288) (h.mr (k := 4) (b := 293) (by decide) rfl) rfl ?_
  refine ae_iload_n (q := 11) dX7_give_10 rfl rfl rfl ?_
  refine ae_iald (q := 12) dX7_give_11 (h.s l293 t293) (h.l l293) (vin (by omega) (by omega)) rfl ?_
  obtain ⟨x2, e2⟩ : ∃ x, am_gi H 293 a1.toNatClampNeg = x := ⟨_, rfl⟩
  refine ae_eqi e2 ?_
  refine ae_istore_n (lv' := [(3, .int x2), (2, .int x1), (0, .ref 288), (1, .int a1)]) (q := 13) dX7_give_12 rfl (by decide) rfl rfl ?_
  refine ae_aload_n (q := 14) dX7_give_13 rfl rfl rfl ?_
  refine ae_getR (q := 17) dX7_give_14 fl_X7_77 rfl (h.s l288 t288) (h.l l288) (h.mr (k := 22) (b := 311) (by decide) rfl) rfl ?_
  refine ae_iload_n (q := 18) dX7_give_17 rfl rfl rfl ?_
  refine ae_iald (q := 19) dX7_give_18 (h.s l311 t311) (h.l l311) (vin (by omega) (by omega)) rfl ?_
  obtain ⟨x3, e3⟩ : ∃ x, am_gi H 311 x1.toNatClampNeg = x := ⟨_, rfl⟩
  refine ae_eqi e3 ?_
  refine ae_if_ne (t := 35) (q := 22) dX7_give_19 (by decide) rfl (fun c4 => ?_) (fun c4 => ?_)
  · have c4 := i_ne (a := x3.toInt) (b := 0) rfl (by decide) c4
    refine ae_aload_n (q := 36) dX7_give_35 rfl rfl rfl ?_
    refine ae_getR (q := 39) dX7_give_36 fl_X7_77 rfl (h.s l288 t288) (h.l l288) (h.mr (k := 22) (b := 311) (by decide) rfl) rfl ?_
    refine ae_iload_n (q := 40) dX7_give_39 rfl rfl rfl ?_
    refine ae_iald (q := 41) dX7_give_40 (h.s l311 t311) (h.l l311) (vin (by omega) (by omega)) rfl ?_
    refine ae_eqi e3 ?_
    refine ae_iconst (v := 1) (q := 42) dX7_give_41 (by decide) rfl ?_
    refine ae_icmp_ne (t := 74) (q := 45) dX7_give_42 (by decide) rfl (fun c5 => ?_) (fun c5 => ?_)
    · have c5 := i_ne (a := x3.toInt) (b := 1) rfl (by decide) c5
      refine ae_aload_n (q := 75) dX7_give_74 rfl rfl rfl ?_
      refine ae_getR (q := 78) dX7_give_75 fl_X7_77 rfl (h.s l288 t288) (h.l l288) (h.mr (k := 22) (b := 311) (by decide) rfl) rfl ?_
      refine ae_iload_n (q := 79) dX7_give_78 rfl rfl rfl ?_
      refine ae_iald (q := 80) dX7_give_79 (h.s l311 t311) (h.l l311) (vin (by omega) (by omega)) rfl ?_
      refine ae_eqi e3 ?_
      refine ae_iconst (v := 2) (q := 81) dX7_give_80 (by decide) rfl ?_
      refine ae_icmp_ne (t := 113) (q := 84) dX7_give_81 (by decide) rfl (fun c6 => ?_) (fun c6 => ?_)
      · have c6 := i_ne (a := x3.toInt) (b := 2) rfl (by decide) c6
        refine ae_aload_n (q := 114) dX7_give_113 rfl rfl rfl ?_
        refine ae_getR (q := 117) dX7_give_114 fl_X7_74 rfl (h.s l288 t288) (h.l l288) (h.mr (k := 21) (b := 310) (by decide) rfl) rfl ?_
        refine ae_iload_n (q := 118) dX7_give_117 rfl rfl rfl ?_
        refine ae_dup2 (q := 119) dX7_give_118 rfl rfl rfl ?_
        refine ae_iald (q := 120) dX7_give_119 (h.s l310 t310) (h.l l310) (vin (by omega) (by omega)) rfl ?_
        obtain ⟨x7, e7⟩ : ∃ x, am_gi H 310 x1.toNatClampNeg = x := ⟨_, rfl⟩
        refine ae_eqi e7 ?_
        refine ae_iload_n (q := 121) dX7_give_120 rfl rfl rfl ?_
        refine ae_imul (q := 122) dX7_give_121 rfl ?_
        obtain ⟨x8, e8⟩ : ∃ z, x7 * x2 = z := ⟨_, rfl⟩
        refine ae_eqi e8 ?_
        refine ae_iast (q := 123) dX7_give_122 (h.s l310 t310) (h.l l310) (vin (by omega) (by omega)) rfl ?_
        refine ae_gen (fun G9 g9 => ?_)
        have h : jm N B 320 G9 := by rw [g9]; exact h.w t310 (by decide) (by decide) (by decide) inr_any
        have hn : nd H G9 := by rw [g9]; exact hn.si (by decide)
        refine ae_vret dX7_give_123 rfl ?_
        exact ⟨rfl, ⟨h, hn⟩⟩
      · have c6 := i_eq (a := x3.toInt) (b := 2) rfl (by decide) c6
        refine ae_aload_n (q := 85) dX7_give_84 rfl rfl rfl ?_
        refine ae_getR (q := 88) dX7_give_85 fl_X7_74 rfl (h.s l288 t288) (h.l l288) (h.mr (k := 21) (b := 310) (by decide) rfl) rfl ?_
        refine ae_iload_n (q := 89) dX7_give_88 rfl rfl rfl ?_
        refine ae_iload_n (q := 90) dX7_give_89 rfl rfl rfl ?_
        refine ae_aload_n (q := 91) dX7_give_90 rfl rfl rfl ?_
        refine ae_getR (q := 94) dX7_give_91 fl_X7_74 rfl (h.s l288 t288) (h.l l288) (h.mr (k := 21) (b := 310) (by decide) rfl) rfl ?_
        refine ae_iload_n (q := 95) dX7_give_94 rfl rfl rfl ?_
        refine ae_iald (q := 96) dX7_give_95 (h.s l310 t310) (h.l l310) (vin (by omega) (by omega)) rfl ?_
        obtain ⟨x10, e10⟩ : ∃ x, am_gi H 310 x1.toNatClampNeg = x := ⟨_, rfl⟩
        refine ae_eqi e10 ?_
        refine ae_icmp_le (t := 103) (q := 99) dX7_give_96 (by decide) rfl (fun c11 => ?_) (fun c11 => ?_)
        · have c11 := i_le (a := x2.toInt) (b := x10.toInt) rfl rfl c11
          refine ae_aload_n (q := 104) dX7_give_103 rfl rfl rfl ?_
          refine ae_getR (q := 107) dX7_give_104 fl_X7_74 rfl (h.s l288 t288) (h.l l288) (h.mr (k := 21) (b := 310) (by decide) rfl) rfl ?_
          refine ae_iload_n (q := 108) dX7_give_107 rfl rfl rfl ?_
          refine ae_iald (q := 109) dX7_give_108 (h.s l310 t310) (h.l l310) (vin (by omega) (by omega)) rfl ?_
          refine ae_eqi e10 ?_
          refine ae_iast (q := 110) dX7_give_109 (h.s l310 t310) (h.l l310) (vin (by omega) (by omega)) rfl ?_
          refine ae_gen (fun G12 g12 => ?_)
          have h : jm N B 320 G12 := by rw [g12]; exact h.w t310 (by decide) (by decide) (by decide) inr_any
          have hn : nd H G12 := by rw [g12]; exact hn.si (by decide)
          refine ae_goto (q := 123) dX7_give_110 (by decide) ?_
          refine ae_vret dX7_give_123 rfl ?_
          exact ⟨rfl, ⟨h, hn⟩⟩
        · have c11 := i_nle (a := x2.toInt) (b := x10.toInt) rfl rfl c11
          refine ae_iload_n (q := 100) dX7_give_99 rfl rfl rfl ?_
          refine ae_goto (q := 109) dX7_give_100 (by decide) ?_
          refine ae_iast (q := 110) dX7_give_109 (h.s l310 t310) (h.l l310) (vin (by omega) (by omega)) rfl ?_
          refine ae_gen (fun G13 g13 => ?_)
          have h : jm N B 320 G13 := by rw [g13]; exact h.w t310 (by decide) (by decide) (by decide) inr_any
          have hn : nd H G13 := by rw [g13]; exact hn.si (by decide)
          refine ae_goto (q := 123) dX7_give_110 (by decide) ?_
          refine ae_vret dX7_give_123 rfl ?_
          exact ⟨rfl, ⟨h, hn⟩⟩
    · have c5 := i_eq (a := x3.toInt) (b := 1) rfl (by decide) c5
      refine ae_aload_n (q := 46) dX7_give_45 rfl rfl rfl ?_
      refine ae_getR (q := 49) dX7_give_46 fl_X7_74 rfl (h.s l288 t288) (h.l l288) (h.mr (k := 21) (b := 310) (by decide) rfl) rfl ?_
      refine ae_iload_n (q := 50) dX7_give_49 rfl rfl rfl ?_
      refine ae_iload_n (q := 51) dX7_give_50 rfl rfl rfl ?_
      refine ae_aload_n (q := 52) dX7_give_51 rfl rfl rfl ?_
      refine ae_getR (q := 55) dX7_give_52 fl_X7_74 rfl (h.s l288 t288) (h.l l288) (h.mr (k := 21) (b := 310) (by decide) rfl) rfl ?_
      refine ae_iload_n (q := 56) dX7_give_55 rfl rfl rfl ?_
      refine ae_iald (q := 57) dX7_give_56 (h.s l310 t310) (h.l l310) (vin (by omega) (by omega)) rfl ?_
      obtain ⟨x14, e14⟩ : ∃ x, am_gi H 310 x1.toNatClampNeg = x := ⟨_, rfl⟩
      refine ae_eqi e14 ?_
      refine ae_icmp_ge (t := 64) (q := 60) dX7_give_57 (by decide) rfl (fun c15 => ?_) (fun c15 => ?_)
      · have c15 := i_le (a := x14.toInt) (b := x2.toInt) rfl rfl c15
        refine ae_aload_n (q := 65) dX7_give_64 rfl rfl rfl ?_
        refine ae_getR (q := 68) dX7_give_65 fl_X7_74 rfl (h.s l288 t288) (h.l l288) (h.mr (k := 21) (b := 310) (by decide) rfl) rfl ?_
        refine ae_iload_n (q := 69) dX7_give_68 rfl rfl rfl ?_
        refine ae_iald (q := 70) dX7_give_69 (h.s l310 t310) (h.l l310) (vin (by omega) (by omega)) rfl ?_
        refine ae_eqi e14 ?_
        refine ae_iast (q := 71) dX7_give_70 (h.s l310 t310) (h.l l310) (vin (by omega) (by omega)) rfl ?_
        refine ae_gen (fun G16 g16 => ?_)
        have h : jm N B 320 G16 := by rw [g16]; exact h.w t310 (by decide) (by decide) (by decide) inr_any
        have hn : nd H G16 := by rw [g16]; exact hn.si (by decide)
        refine ae_goto (q := 123) dX7_give_71 (by decide) ?_
        refine ae_vret dX7_give_123 rfl ?_
        exact ⟨rfl, ⟨h, hn⟩⟩
      · have c15 := i_nle (a := x14.toInt) (b := x2.toInt) rfl rfl c15
        refine ae_iload_n (q := 61) dX7_give_60 rfl rfl rfl ?_
        refine ae_goto (q := 70) dX7_give_61 (by decide) ?_
        refine ae_iast (q := 71) dX7_give_70 (h.s l310 t310) (h.l l310) (vin (by omega) (by omega)) rfl ?_
        refine ae_gen (fun G17 g17 => ?_)
        have h : jm N B 320 G17 := by rw [g17]; exact h.w t310 (by decide) (by decide) (by decide) inr_any
        have hn : nd H G17 := by rw [g17]; exact hn.si (by decide)
        refine ae_goto (q := 123) dX7_give_71 (by decide) ?_
        refine ae_vret dX7_give_123 rfl ?_
        exact ⟨rfl, ⟨h, hn⟩⟩
  · have c4 := i_eq (a := x3.toInt) (b := 0) rfl (by decide) c4
    refine ae_aload_n (q := 23) dX7_give_22 rfl rfl rfl ?_
    refine ae_getR (q := 26) dX7_give_23 fl_X7_74 rfl (h.s l288 t288) (h.l l288) (h.mr (k := 21) (b := 310) (by decide) rfl) rfl ?_
    refine ae_iload_n (q := 27) dX7_give_26 rfl rfl rfl ?_
    refine ae_dup2 (q := 28) dX7_give_27 rfl rfl rfl ?_
    refine ae_iald (q := 29) dX7_give_28 (h.s l310 t310) (h.l l310) (vin (by omega) (by omega)) rfl ?_
    obtain ⟨x18, e18⟩ : ∃ x, am_gi H 310 x1.toNatClampNeg = x := ⟨_, rfl⟩
    refine ae_eqi e18 ?_
    refine ae_iload_n (q := 30) dX7_give_29 rfl rfl rfl ?_
    refine ae_iadd (q := 31) dX7_give_30 rfl ?_
    obtain ⟨x19, e19⟩ : ∃ z, x18 + x2 = z := ⟨_, rfl⟩
    refine ae_eqi e19 ?_
    refine ae_iast (q := 32) dX7_give_31 (h.s l310 t310) (h.l l310) (vin (by omega) (by omega)) rfl ?_
    refine ae_gen (fun G20 g20 => ?_)
    have h : jm N B 320 G20 := by rw [g20]; exact h.w t310 (by decide) (by decide) (by decide) inr_any
    have hn : nd H G20 := by rw [g20]; exact hn.si (by decide)
    refine ae_goto (q := 123) dX7_give_32 (by decide) ?_
    refine ae_vret dX7_give_123 rfl ?_
    exact ⟨rfl, ⟨h, hn⟩⟩
set_option maxRecDepth 100000 in
set_option maxHeartbeats 4000000 in
theorem c_X7_set {ox : List (Nat × (Nat → Int32))} {d N : Nat} {B H : am_H} {a1 : Int32} {a2 : Int32}  (h : jm N B 320 H) (u_1 : 0 ≤ a1.toInt) (v_1 : a1.toInt ≤ 47) (u_2 : 1 ≤ a2.toInt) (v_2 : a2.toInt ≤ 4) : am_DB 0 ox d yX7_set mX7_set [.ref 288, .int a1, .int a2] H (fun o H1 => o = .inl none ∧ jm N B 320 H1 ∧ am_gi H1 315 = am_gi H 315 ∧ am_gi H1 288 38 = am_gi H 288 38 ∧ dl H - 1 ≤ dl H1 ∧ am_gi H1 292 a1.toNatClampNeg = 2) := by
  refine ae_enter rfl rfl rfl rfl (Nat.le_of_ble_eq_true rfl) ?_
  show am_EB 0 ox d mX7_set 0 [(0, .ref 288), (1, .int a1), (2, .int a2)] [] H _
  have hd : am_gi H 315 = am_gi H 315 := rfl
  have hf : am_gi H 288 38 = am_gi H 288 38 := rfl
  refine ae_aload_n (q := 1) dX7_set_0 rfl rfl rfl ?_
  refine ae_getR (q := 4) dX7_set_1 fl_X7_19 rfl (h.s l288 t288) (h.l l288) (h.mr (k := 3) (b := 292) (by decide) rfl) rfl ?_
  refine ae_iload_n (q := 5) dX7_set_4 rfl rfl rfl ?_
  refine ae_iconst (v := 2) (q := 6) dX7_set_5 (by decide) rfl ?_
  refine ae_iast (q := 7) dX7_set_6 (h.s l292 t292) (h.l l292) (vin (by omega) (by omega)) rfl ?_
  obtain ⟨x1, e1, u1, v1⟩ := rdi (h.i l292 t292 (k := a1.toNatClampNeg) (p := (0, 3)) rfl)
  refine ae_gen (fun G2 g2 => ?_)
  have h : jm N B 320 G2 := by rw [g2]; exact h.w t292 (by decide) (by decide) (by decide) (mk_inr (lo := 0) (hi := 3) (by decide) (by decide))
  have hd : am_gi G2 315 = am_gi H 315 := by rw [g2]; exact (gi_rowne (by decide)).trans hd
  have hf : am_gi G2 288 38 = am_gi H 288 38 := by rw [g2]; exact gi_si hf (fun q => absurd q.1 (by decide))
  have q2 : dl H - 1 ≤ dl G2 := by rw [g2]; exact dl_state1
  refine ae_aload_n (q := 8) dX7_set_7 rfl rfl rfl ?_
  refine ae_getR (q := 11) dX7_set_8 fl_X7_37 rfl (h.s l288 t288) (h.l l288) (h.mr (k := 9) (b := 298) (by decide) rfl) rfl ?_
  refine ae_iload_n (q := 12) dX7_set_11 rfl rfl rfl ?_
  refine ae_iload_n (q := 13) dX7_set_12 rfl rfl rfl ?_
  refine ae_iast (q := 14) dX7_set_13 (h.s l298 t298) (h.l l298) (vin (by omega) (by omega)) rfl ?_
  refine ae_gen (fun G3 g3 => ?_)
  have h : jm N B 320 G3 := by rw [g3]; exact h.w t298 (by decide) (by decide) (by decide) (mk_inr (lo := 0) (hi := 4) (by omega) (by omega))
  have hd : am_gi G3 315 = am_gi H 315 := by rw [g3]; exact (gi_rowne (by decide)).trans hd
  have hf : am_gi G3 288 38 = am_gi H 288 38 := by rw [g3]; exact gi_si hf (fun q => absurd q.1 (by decide))
  have q3 : dl G3 = dl G2 := by rw [g3]; exact dl_ne (by decide) (by decide) (by decide) (fun q => absurd q.1 (by decide))
  refine ae_vret dX7_set_14 rfl ?_
  have m4 : am_gi G3 292 a1.toNatClampNeg = 2 := by rw [g3]; exact gi_si (show am_gi G2 292 a1.toNatClampNeg = 2 by rw [g2]; exact gi_set) (fun q => absurd q.1 (by decide))
  exact ⟨rfl, ⟨h, hd, hf, by omega, m4⟩⟩
set_option maxRecDepth 100000 in
set_option maxHeartbeats 4000000 in
theorem c_X7_finish {ox : List (Nat × (Nat → Int32))} {d N : Nat} {B H : am_H} {a1 : Int32}  (h : jm N B 320 H) (u_1 : 0 ≤ a1.toInt) (v_1 : a1.toInt ≤ 47) : am_DB 0 ox (d + 1) yX7_finish mX7_finish [.ref 288, .int a1] H (fun o H1 => o = .inl none ∧ jm N B 320 H1 ∧ am_gi H1 315 = am_gi H 315 ∧ am_gi H1 288 38 = am_gi H 288 38 ∧ dl H - 1 ≤ dl H1 ∧ am_gi H1 292 a1.toNatClampNeg = 3) := by
  refine ae_enter rfl rfl rfl rfl (Nat.le_of_ble_eq_true rfl) ?_
  show am_EB 0 ox (d + 1) mX7_finish 0 [(0, .ref 288), (1, .int a1)] [] H _
  have hd : am_gi H 315 = am_gi H 315 := rfl
  have hf : am_gi H 288 38 = am_gi H 288 38 := rfl
  refine ae_aload_n (q := 1) dX7_finish_0 rfl rfl rfl ?_
  refine ae_getR (q := 4) dX7_finish_1 fl_X7_19 rfl (h.s l288 t288) (h.l l288) (h.mr (k := 3) (b := 292) (by decide) rfl) rfl ?_
  refine ae_iload_n (q := 5) dX7_finish_4 rfl rfl rfl ?_
  refine ae_iconst (v := 3) (q := 6) dX7_finish_5 (by decide) rfl ?_
  refine ae_iast (q := 7) dX7_finish_6 (h.s l292 t292) (h.l l292) (vin (by omega) (by omega)) rfl ?_
  obtain ⟨x1, e1, u1, v1⟩ := rdi (h.i l292 t292 (k := a1.toNatClampNeg) (p := (0, 3)) rfl)
  refine ae_gen (fun G2 g2 => ?_)
  have h : jm N B 320 G2 := by rw [g2]; exact h.w t292 (by decide) (by decide) (by decide) (mk_inr (lo := 0) (hi := 3) (by decide) (by decide))
  have hd : am_gi G2 315 = am_gi H 315 := by rw [g2]; exact (gi_rowne (by decide)).trans hd
  have hf : am_gi G2 288 38 = am_gi H 288 38 := by rw [g2]; exact gi_si hf (fun q => absurd q.1 (by decide))
  have q2 : dl H - 1 ≤ dl G2 := by rw [g2]; exact dl_state1
  refine ae_iconst (v := 0) (q := 8) dX7_finish_7 (by decide) rfl ?_
  refine ae_istore_n (lv' := [(2, .int 0), (0, .ref 288), (1, .int a1)]) (q := 9) dX7_finish_8 rfl (by decide) rfl rfl ?_
  refine ae_iload_n (q := 10) dX7_finish_9 rfl rfl rfl ?_
  refine ae_iconst (v := 2) (q := 11) dX7_finish_10 (by decide) rfl ?_
  refine ae_icmp_ge (t := 31) (q := 14) dX7_finish_11 (by decide) rfl (fun h => absurd h (by decide)) (fun _ => ?_)
  refine ae_aload_n (q := 15) dX7_finish_14 rfl rfl rfl ?_
  refine ae_getR (q := 18) dX7_finish_15 fl_X7_59 rfl (h.s l288 t288) (h.l l288) (h.mr (k := 16) (b := 305) (by decide) rfl) rfl ?_
  refine ae_iconst (v := 2) (q := 19) dX7_finish_18 (by decide) rfl ?_
  refine ae_iload_n (q := 20) dX7_finish_19 rfl rfl rfl ?_
  refine ae_imul (q := 21) dX7_finish_20 rfl ?_
  obtain ⟨x3, e3⟩ : ∃ z, 2 * a1 = z := ⟨_, rfl⟩
  refine ae_eqi e3 ?_
  have f3 : x3.toInt = 2 * a1.toInt := by rw [← e3]; exact i_mul (by decide) rfl (by omega) (by omega)
  refine ae_iload_n (q := 22) dX7_finish_21 rfl rfl rfl ?_
  refine ae_iadd (q := 23) dX7_finish_22 rfl ?_
  obtain ⟨x4, e4⟩ : ∃ z, x3 + 0 = z := ⟨_, rfl⟩
  refine ae_eqi e4 ?_
  have f4 : x4.toInt = x3.toInt + 0 := by rw [← e4]; exact i_add rfl (by decide) (by omega) (by omega)
  refine ae_iconst (v := 0) (q := 24) dX7_finish_23 (by decide) rfl ?_
  refine ae_iast (q := 25) dX7_finish_24 (h.s l305 t305) (h.l l305) (vin (by omega) (by omega)) rfl ?_
  refine ae_gen (fun G5 g5 => ?_)
  have h : jm N B 320 G5 := by rw [g5]; exact h.w t305 (by decide) (by decide) (by decide) inr_any
  have hd : am_gi G5 315 = am_gi H 315 := by rw [g5]; exact (gi_rowne (by decide)).trans hd
  have hf : am_gi G5 288 38 = am_gi H 288 38 := by rw [g5]; exact gi_si hf (fun q => absurd q.1 (by decide))
  have q5 : dl G5 = dl G2 := by rw [g5]; exact dl_ne (by decide) (by decide) (by decide) (fun q => absurd q.1 (by decide))
  refine ae_iinc (v := 1) (lv' := [(2, .int 1), (0, .ref 288), (1, .int a1)]) (q := 28) dX7_finish_25 rfl (by decide) (by decide) rfl rfl ?_
  refine ae_goto (q := 9) dX7_finish_28 (by decide) ?_
  refine ae_iload_n (q := 10) dX7_finish_9 rfl rfl rfl ?_
  refine ae_iconst (v := 2) (q := 11) dX7_finish_10 (by decide) rfl ?_
  refine ae_icmp_ge (t := 31) (q := 14) dX7_finish_11 (by decide) rfl (fun h => absurd h (by decide)) (fun _ => ?_)
  refine ae_aload_n (q := 15) dX7_finish_14 rfl rfl rfl ?_
  refine ae_getR (q := 18) dX7_finish_15 fl_X7_59 rfl (h.s l288 t288) (h.l l288) (h.mr (k := 16) (b := 305) (by decide) rfl) rfl ?_
  refine ae_iconst (v := 2) (q := 19) dX7_finish_18 (by decide) rfl ?_
  refine ae_iload_n (q := 20) dX7_finish_19 rfl rfl rfl ?_
  refine ae_imul (q := 21) dX7_finish_20 rfl ?_
  refine ae_eqi e3 ?_
  refine ae_iload_n (q := 22) dX7_finish_21 rfl rfl rfl ?_
  refine ae_iadd (q := 23) dX7_finish_22 rfl ?_
  obtain ⟨x6, e6⟩ : ∃ z, x3 + 1 = z := ⟨_, rfl⟩
  refine ae_eqi e6 ?_
  have f6 : x6.toInt = x3.toInt + 1 := by rw [← e6]; exact i_add rfl (by decide) (by omega) (by omega)
  refine ae_iconst (v := 0) (q := 24) dX7_finish_23 (by decide) rfl ?_
  refine ae_iast (q := 25) dX7_finish_24 (h.s l305 t305) (h.l l305) (vin (by omega) (by omega)) rfl ?_
  refine ae_gen (fun G7 g7 => ?_)
  have h : jm N B 320 G7 := by rw [g7]; exact h.w t305 (by decide) (by decide) (by decide) inr_any
  have hd : am_gi G7 315 = am_gi H 315 := by rw [g7]; exact (gi_rowne (by decide)).trans hd
  have hf : am_gi G7 288 38 = am_gi H 288 38 := by rw [g7]; exact gi_si hf (fun q => absurd q.1 (by decide))
  have q7 : dl G7 = dl G5 := by rw [g7]; exact dl_ne (by decide) (by decide) (by decide) (fun q => absurd q.1 (by decide))
  refine ae_iinc (v := 2) (lv' := [(2, .int 2), (0, .ref 288), (1, .int a1)]) (q := 28) dX7_finish_25 rfl (by decide) (by decide) rfl rfl ?_
  refine ae_goto (q := 9) dX7_finish_28 (by decide) ?_
  refine ae_iload_n (q := 10) dX7_finish_9 rfl rfl rfl ?_
  refine ae_iconst (v := 2) (q := 11) dX7_finish_10 (by decide) rfl ?_
  refine ae_icmp_ge (t := 31) (q := 14) dX7_finish_11 (by decide) rfl (fun _ => ?_) (fun h => absurd h (by decide))
  refine ae_aload_n (q := 32) dX7_finish_31 rfl rfl rfl ?_
  refine ae_callV (ci := 7) (as := []) (b := 288) (st := []) (q := 35) dX7_finish_32 (c_X7_move (N := N) (d := d) h) myX7_move lk_X7_156 im_X7_move se_X7_move rfl (by decide) (h.s l288 t288) (h.l l288) rfl rfl (Nat.le_of_ble_eq_true rfl) rfl (fun o H1 hh => ⟨_, hh.1⟩) (fun vv G8 hv => ?_)
  obtain ⟨o8, z8⟩ := hv
  cases o8
  obtain ⟨z8, w8⟩ := z8
  refine ⟨Or.inl (z8.nx.trans h.nx.symm), ?_⟩
  have h : jm N B 320 G8 := z8
  clear z8
  have hd : am_gi G8 315 = am_gi H 315 := w8.hd.trans hd
  have hf : am_gi G8 288 38 = am_gi H 288 38 := w8.fr.trans hf
  have q8 := w8.dl
  refine ae_aload_n (q := 36) dX7_finish_35 rfl rfl rfl ?_
  refine ae_getR (q := 39) dX7_finish_36 fl_X7_71 rfl (h.s l288 t288) (h.l l288) (h.mr (k := 20) (b := 309) (by decide) rfl) rfl ?_
  refine ae_aload_n (q := 40) dX7_finish_39 rfl rfl rfl ?_
  refine ae_getR (q := 43) dX7_finish_40 fl_X7_31 rfl (h.s l288 t288) (h.l l288) (h.mr (k := 7) (b := 296) (by decide) rfl) rfl ?_
  refine ae_iload_n (q := 44) dX7_finish_43 rfl rfl rfl ?_
  refine ae_iald (q := 45) dX7_finish_44 (h.s l296 t296) (h.l l296) (vin (by omega) (by omega)) rfl ?_
  obtain ⟨x9, e9, u9, v9⟩ := rdi (h.i l296 t296 (k := a1.toNatClampNeg) (p := (0, 144)) rfl)
  refine ae_eqi e9 ?_
  refine ae_dup2 (q := 46) dX7_finish_45 rfl rfl rfl ?_
  refine ae_iald (q := 47) dX7_finish_46 (h.s l309 t309) (h.l l309) (vin (by omega) (by omega)) rfl ?_
  obtain ⟨x10, e10⟩ : ∃ x, am_gi G8 309 x9.toNatClampNeg = x := ⟨_, rfl⟩
  refine ae_eqi e10 ?_
  refine ae_iconst (v := 1) (q := 48) dX7_finish_47 (by decide) rfl ?_
  refine ae_isub (q := 49) dX7_finish_48 rfl ?_
  obtain ⟨x11, e11⟩ : ∃ z, x10 - 1 = z := ⟨_, rfl⟩
  refine ae_eqi e11 ?_
  refine ae_iast (q := 50) dX7_finish_49 (h.s l309 t309) (h.l l309) (vin (by omega) (by omega)) rfl ?_
  refine ae_gen (fun G12 g12 => ?_)
  have h : jm N B 320 G12 := by rw [g12]; exact h.w t309 (by decide) (by decide) (by decide) inr_any
  have hd : am_gi G12 315 = am_gi H 315 := by rw [g12]; exact (gi_rowne (by decide)).trans hd
  have hf : am_gi G12 288 38 = am_gi H 288 38 := by rw [g12]; exact gi_si hf (fun q => absurd q.1 (by decide))
  have q12 : dl G12 = dl G8 := by rw [g12]; exact dl_ne (by decide) (by decide) (by decide) (fun q => absurd q.1 (by decide))
  refine ae_vret dX7_finish_50 rfl ?_
  have m13 : am_gi G5 292 a1.toNatClampNeg = 3 := by rw [g5]; exact gi_si (show am_gi G2 292 a1.toNatClampNeg = 3 by rw [g2]; exact gi_set) (fun q => absurd q.1 (by decide))
  have m14 : am_gi G7 292 a1.toNatClampNeg = 3 := by rw [g7]; exact gi_si m13 (fun q => absurd q.1 (by decide))
  have m15 : am_gi G8 292 a1.toNatClampNeg = 3 := (congrFun w8.2.1 a1.toNatClampNeg).trans m14
  have m16 : am_gi G12 292 a1.toNatClampNeg = 3 := by rw [g12]; exact gi_si m15 (fun q => absurd q.1 (by decide))
  exact ⟨rfl, ⟨h, hd, hf, by omega, m16⟩⟩
set_option maxRecDepth 100000 in
set_option maxHeartbeats 4000000 in
theorem c_X7_raise {ox : List (Nat × (Nat → Int32))} {d N : Nat} {B H : am_H} {a1 : Int32} {a2 : Int32}  (h : jm N B 320 H) (u_1 : 0 ≤ a1.toInt) (v_1 : a1.toInt ≤ 47) : am_DB 0 ox (d + 2) yX7_raise mX7_raise [.ref 288, .int a1, .int a2] H (fun o H1 => o = .inl none ∧ jm N B 320 H1 ∧ ac a1.toNatClampNeg H H1) := by
  refine ae_enter rfl rfl rfl rfl (Nat.le_of_ble_eq_true rfl) ?_
  show am_EB 0 ox (d + 2) mX7_raise 0 [(0, .ref 288), (1, .int a1), (2, .int a2)] [] H _
  have hd : am_gi H 315 = am_gi H 315 := rfl
  have hf : am_gi H 288 38 = am_gi H 288 38 := rfl
  refine ae_aload_n (q := 1) dX7_raise_0 rfl rfl rfl ?_
  refine ae_getR (q := 4) dX7_raise_1 fl_X7_34 rfl (h.s l288 t288) (h.l l288) (h.mr (k := 8) (b := 297) (by decide) rfl) rfl ?_
  refine ae_iload_n (q := 5) dX7_raise_4 rfl rfl rfl ?_
  refine ae_iald (q := 6) dX7_raise_5 (h.s l297 t297) (h.l l297) (vin (by omega) (by omega)) rfl ?_
  obtain ⟨x1, e1, u1, v1⟩ := rdi (h.i l297 t297 (k := a1.toNatClampNeg) (p := (0, 3)) rfl)
  refine ae_eqi e1 ?_
  refine ae_if_le (t := 36) (q := 9) dX7_raise_6 (by decide) rfl (fun c2 => ?_) (fun c2 => ?_)
  · have c2 := i_le (a := x1.toInt) (b := 0) rfl (by decide) c2
    refine ae_aload_n (q := 37) dX7_raise_36 rfl rfl rfl ?_
    refine ae_aload_n (q := 38) dX7_raise_37 rfl rfl rfl ?_
    refine ae_getR (q := 41) dX7_raise_38 fl_X7_31 rfl (h.s l288 t288) (h.l l288) (h.mr (k := 7) (b := 296) (by decide) rfl) rfl ?_
    refine ae_iload_n (q := 42) dX7_raise_41 rfl rfl rfl ?_
    refine ae_iald (q := 43) dX7_raise_42 (h.s l296 t296) (h.l l296) (vin (by omega) (by omega)) rfl ?_
    obtain ⟨x3, e3, u3, v3⟩ := rdi (h.i l296 t296 (k := a1.toNatClampNeg) (p := (0, 144)) rfl)
    refine ae_eqi e3 ?_
    refine ae_iload_n (q := 44) dX7_raise_43 rfl rfl rfl ?_
    refine ae_callV (ci := 7) (as := [.int x3, .int a2]) (b := 288) (st := []) (q := 47) dX7_raise_44 (c_X7_note (N := N) (d := d + 1) h (by omega) (by omega)) myX7_note lk_X7_169 im_X7_note se_X7_note rfl (by decide) (h.s l288 t288) (h.l l288) rfl rfl (Nat.le_of_ble_eq_true rfl) rfl (fun o H1 hh => ⟨_, hh.1⟩) (fun vv G4 hv => ?_)
    obtain ⟨o4, z4⟩ := hv
    cases o4
    obtain ⟨z4, w4⟩ := z4
    refine ⟨Or.inl (z4.nx.trans h.nx.symm), ?_⟩
    have h : jm N B 320 G4 := z4
    clear z4
    have hd : am_gi G4 315 = am_gi H 315 := w4.hd.trans hd
    have hf : am_gi G4 288 38 = am_gi H 288 38 := w4.fr.trans hf
    have q4 := w4.dl
    refine ae_aload_n (q := 48) dX7_raise_47 rfl rfl rfl ?_
    refine ae_iload_n (q := 49) dX7_raise_48 rfl rfl rfl ?_
    refine ae_callV (ci := 7) (as := [.int a1]) (b := 288) (st := []) (q := 52) dX7_raise_49 (c_X7_finish (N := N) (d := d) h (by omega) (by omega)) myX7_finish lk_X7_172 im_X7_finish se_X7_finish rfl (by decide) (h.s l288 t288) (h.l l288) rfl rfl (Nat.le_of_ble_eq_true rfl) rfl (fun o H1 hh => ⟨_, hh.1⟩) (fun vv G5 hv => ?_)
    obtain ⟨o5, z5⟩ := hv
    cases o5
    obtain ⟨z5, w5⟩ := z5
    refine ⟨Or.inl (z5.nx.trans h.nx.symm), ?_⟩
    have h : jm N B 320 G5 := z5
    clear z5
    obtain ⟨wa5, wb5, q5, ws5⟩ := w5
    have hd : am_gi G5 315 = am_gi H 315 := wa5.trans hd
    have hf : am_gi G5 288 38 = am_gi H 288 38 := wb5.trans hf
    refine ae_vret dX7_raise_52 rfl ?_
    exact ⟨rfl, ⟨h, hd, hf, (Or.inr ⟨by omega, by rw [ws5]; decide⟩)⟩⟩
  · have c2 := i_nle (a := x1.toInt) (b := 0) rfl (by decide) c2
    refine ae_aload_n (q := 10) dX7_raise_9 rfl rfl rfl ?_
    refine ae_aload_n (q := 11) dX7_raise_10 rfl rfl rfl ?_
    refine ae_iload_n (q := 12) dX7_raise_11 rfl rfl rfl ?_
    refine ae_callV (ci := 7) (as := [.int a1]) (b := 288) (st := [.ref 288]) (q := 15) dX7_raise_12 (c_X7_inner (N := N) (d := d + 1) h (by omega) (by omega)) myX7_inner lk_X7_166 im_X7_inner se_X7_inner rfl (by decide) (h.s l288 t288) (h.l l288) rfl rfl (Nat.le_of_ble_eq_true rfl) rfl (fun o H1 hh => ⟨_, hh.1.choose_spec.1⟩) (fun vv G6 hv => ?_)
    obtain ⟨⟨x6, o6, u6, v6⟩, z6⟩ := hv
    cases o6
    have z6 := z6.symm
    subst z6
    refine ⟨Or.inl rfl, ?_⟩
    refine ae_iload_n (q := 16) dX7_raise_15 rfl rfl rfl ?_
    refine ae_callV (ci := 7) (as := [.int x6, .int a2]) (b := 288) (st := []) (q := 19) dX7_raise_16 (c_X7_note (N := N) (d := d + 1) h (by omega) (by omega)) myX7_note lk_X7_169 im_X7_note se_X7_note rfl (by decide) (h.s l288 t288) (h.l l288) rfl rfl (Nat.le_of_ble_eq_true rfl) rfl (fun o H1 hh => ⟨_, hh.1⟩) (fun vv G7 hv => ?_)
    obtain ⟨o7, z7⟩ := hv
    cases o7
    obtain ⟨z7, w7⟩ := z7
    refine ⟨Or.inl (z7.nx.trans h.nx.symm), ?_⟩
    have h : jm N B 320 G7 := z7
    clear z7
    have hd : am_gi G7 315 = am_gi H 315 := w7.hd.trans hd
    have hf : am_gi G7 288 38 = am_gi H 288 38 := w7.fr.trans hf
    have q7 := w7.dl
    refine ae_aload_n (q := 20) dX7_raise_19 rfl rfl rfl ?_
    refine ae_getR (q := 23) dX7_raise_20 fl_X7_46 rfl (h.s l288 t288) (h.l l288) (h.mr (k := 12) (b := 301) (by decide) rfl) rfl ?_
    refine ae_iload_n (q := 24) dX7_raise_23 rfl rfl rfl ?_
    refine ae_iconst (v := 1) (q := 25) dX7_raise_24 (by decide) rfl ?_
    refine ae_zast (q := 26) dX7_raise_25 (h.s l301 t301) (h.l l301) (vin (by omega) (by omega)) rfl rfl ?_
    refine ae_gen (fun G8 g8 => ?_)
    have m9 : am_gi G7 297 a1.toNatClampNeg = x1 := (congrFun w7.2.2.1 a1.toNatClampNeg).trans e1
    have h : jm N B 320 G8 := by rw [g8]; exact h.wend1 (by rw [m9]; omega) (mk_inr (by decide) (by decide))
    have hd : am_gi G8 315 = am_gi H 315 := by rw [g8]; exact (gi_rowne (by decide)).trans hd
    have hf : am_gi G8 288 38 = am_gi H 288 38 := by rw [g8]; exact gi_si hf (fun q => absurd q.1 (by decide))
    have q8 : dl G8 = dl G7 := by rw [g8]; exact dl_ne (by decide) (by decide) (by decide) (fun q => absurd q.1 (by decide))
    refine ae_aload_n (q := 27) dX7_raise_26 rfl rfl rfl ?_
    refine ae_getR (q := 30) dX7_raise_27 fl_X7_50 rfl (h.s l288 t288) (h.l l288) (h.mr (k := 13) (b := 302) (by decide) rfl) rfl ?_
    refine ae_iload_n (q := 31) dX7_raise_30 rfl rfl rfl ?_
    refine ae_iconst (v := 0) (q := 32) dX7_raise_31 (by decide) rfl ?_
    refine ae_zast (q := 33) dX7_raise_32 (h.s l302 t302) (h.l l302) (vin (by omega) (by omega)) rfl rfl ?_
    refine ae_gen (fun G10 g10 => ?_)
    have h : jm N B 320 G10 := by rw [g10]; exact h.w t302 (by decide) (by decide) (by decide) (mk_inr (lo := 0) (hi := 1) (by decide) (by decide))
    have hd : am_gi G10 315 = am_gi H 315 := by rw [g10]; exact (gi_rowne (by decide)).trans hd
    have hf : am_gi G10 288 38 = am_gi H 288 38 := by rw [g10]; exact gi_si hf (fun q => absurd q.1 (by decide))
    have q10 : dl G10 = dl G8 := by rw [g10]; exact dl_ne (by decide) (by decide) (by decide) (fun q => absurd q.1 (by decide))
    refine ae_goto (q := 52) dX7_raise_33 (by decide) ?_
    refine ae_vret dX7_raise_52 rfl ?_
    exact ⟨rfl, ⟨h, hd, hf, (Or.inl (by omega))⟩⟩
set_option maxRecDepth 100000 in
set_option maxHeartbeats 4000000 in
theorem c_X7_end {ox : List (Nat × (Nat → Int32))} {d N : Nat} {B H : am_H} {a1 : Int32} (hN : N + 0 ≤ 1000000) (h : jm N B 320 H) (u_1 : 0 ≤ a1.toInt) (v_1 : a1.toInt ≤ 47) {xe : Int32} (e_xe : am_gi H 301 a1.toNatClampNeg = xe) (u_xe : 1 ≤ xe.toInt) (v_xe : xe.toInt ≤ 1) : am_DB 0 ox (d + 3) yX7_end mX7_end [.ref 288, .int a1] H (fun o H1 => o = .inl none ∧ jm (N + 1) B 320 H1 ∧ ac a1.toNatClampNeg H H1) := by
  refine ae_enter rfl rfl rfl rfl (Nat.le_of_ble_eq_true rfl) ?_
  show am_EB 0 ox (d + 3) mX7_end 0 [(0, .ref 288), (1, .int a1)] [] H _
  have hd : am_gi H 315 = am_gi H 315 := rfl
  have hf : am_gi H 288 38 = am_gi H 288 38 := rfl
  refine ae_aload_n (q := 1) dX7_end_0 rfl rfl rfl ?_
  refine ae_iload_n (q := 2) dX7_end_1 rfl rfl rfl ?_
  refine ae_callV (ci := 7) (as := [.int a1]) (b := 288) (st := []) (q := 5) dX7_end_2 (c_X7_inner (N := N) (d := d + 2) h (by omega) (by omega)) myX7_inner lk_X7_166 im_X7_inner se_X7_inner rfl (by decide) (h.s l288 t288) (h.l l288) rfl rfl (Nat.le_of_ble_eq_true rfl) rfl (fun o H1 hh => ⟨_, hh.1.choose_spec.1⟩) (fun vv G1 hv => ?_)
  obtain ⟨⟨x1, o1, u1, v1⟩, z1⟩ := hv
  cases o1
  have z1 := z1.symm
  subst z1
  refine ⟨Or.inl rfl, ?_⟩
  refine ae_istore_n (lv' := [(2, .int x1), (0, .ref 288), (1, .int a1)]) (q := 6) dX7_end_5 rfl (by decide) rfl rfl ?_
  refine ae_aload_n (q := 7) dX7_end_6 rfl rfl rfl ?_
  refine ae_getR (q := 10) dX7_end_7 fl_X7_71 rfl (h.s l288 t288) (h.l l288) (h.mr (k := 20) (b := 309) (by decide) rfl) rfl ?_
  refine ae_iload_n (q := 11) dX7_end_10 rfl rfl rfl ?_
  refine ae_iald (q := 12) dX7_end_11 (h.s l309 t309) (h.l l309) (vin (by omega) (by omega)) rfl ?_
  obtain ⟨x2, e2⟩ : ∃ x, am_gi H 309 x1.toNatClampNeg = x := ⟨_, rfl⟩
  refine ae_eqi e2 ?_
  refine ae_if_le (t := 22) (q := 15) dX7_end_12 (by decide) rfl (fun c3 => ?_) (fun c3 => ?_)
  · have c3 := i_le (a := x2.toInt) (b := 0) rfl (by decide) c3
    obtain ⟨x4, e4, u4, v4⟩ := rdi (h.i l297 t297 (k := a1.toNatClampNeg) (p := (0, 3)) rfl)
    have w5 : 1 ≤ x4.toInt := by rw [← e4]; exact h.own1 (ixn (by omega) (by omega)) (by rw [e_xe]; omega)
    refine ae_aload_n (q := 23) dX7_end_22 rfl rfl rfl ?_
    refine ae_getR (q := 26) dX7_end_23 fl_X7_46 rfl (h.s l288 t288) (h.l l288) (h.mr (k := 12) (b := 301) (by decide) rfl) rfl ?_
    refine ae_iload_n (q := 27) dX7_end_26 rfl rfl rfl ?_
    refine ae_iconst (v := 0) (q := 28) dX7_end_27 (by decide) rfl ?_
    refine ae_zast (q := 29) dX7_end_28 (h.s l301 t301) (h.l l301) (vin (by omega) (by omega)) rfl rfl ?_
    refine ae_gen (fun G6 g6 => ?_)
    have h : jm N B 320 G6 := by rw [g6]; exact h.wend0
    have hd : am_gi G6 315 = am_gi H 315 := by rw [g6]; exact (gi_rowne (by decide)).trans hd
    have hf : am_gi G6 288 38 = am_gi H 288 38 := by rw [g6]; exact gi_si hf (fun q => absurd q.1 (by decide))
    have q6 : dl G6 = dl H := by rw [g6]; exact dl_ne (by decide) (by decide) (by decide) (fun q => absurd q.1 (by decide))
    refine ae_aload_n (q := 30) dX7_end_29 rfl rfl rfl ?_
    refine ae_getR (q := 33) dX7_end_30 fl_X7_34 rfl (h.s l288 t288) (h.l l288) (h.mr (k := 8) (b := 297) (by decide) rfl) rfl ?_
    refine ae_iload_n (q := 34) dX7_end_33 rfl rfl rfl ?_
    refine ae_dup2 (q := 35) dX7_end_34 rfl rfl rfl ?_
    refine ae_iald (q := 36) dX7_end_35 (h.s l297 t297) (h.l l297) (vin (by omega) (by omega)) rfl ?_
    have m7 : am_gi G6 297 a1.toNatClampNeg = x4 := by rw [g6]; exact gi_si e4 (fun q => absurd q.1 (by decide))
    refine ae_eqi m7 ?_
    refine ae_iconst (v := 1) (q := 37) dX7_end_36 (by decide) rfl ?_
    refine ae_isub (q := 38) dX7_end_37 rfl ?_
    obtain ⟨x8, e8⟩ : ∃ z, x4 - 1 = z := ⟨_, rfl⟩
    refine ae_eqi e8 ?_
    have f8 : x8.toInt = x4.toInt - 1 := by rw [← e8]; exact i_sub rfl (by decide) (by omega) (by omega)
    refine ae_iast (q := 39) dX7_end_38 (h.s l297 t297) (h.l l297) (vin (by omega) (by omega)) rfl ?_
    refine ae_gen (fun G9 g9 => ?_)
    have h : jm N B 320 G9 := by rw [g9]; exact h.wownz (by rw [(show am_gi G6 301 a1.toNatClampNeg = 0 by rw [g6]; exact gi_set)]; decide) (mk_inr (by omega) (by omega))
    have hd : am_gi G9 315 = am_gi H 315 := by rw [g9]; exact (gi_rowne (by decide)).trans hd
    have hf : am_gi G9 288 38 = am_gi H 288 38 := by rw [g9]; exact gi_si hf (fun q => absurd q.1 (by decide))
    have q9 : dl G9 = dl G6 := by rw [g9]; exact dl_ne (by decide) (by decide) (by decide) (fun q => absurd q.1 (by decide))
    refine ae_aload_n (q := 40) dX7_end_39 rfl rfl rfl ?_
    refine ae_getR (q := 43) dX7_end_40 fl_X7_83 rfl (h.s l288 t288) (h.l l288) (h.mr (k := 24) (b := 313) (by decide) rfl) rfl ?_
    refine ae_iload_n (q := 44) dX7_end_43 rfl rfl rfl ?_
    refine ae_iald (q := 45) dX7_end_44 (h.s l313 t313) (h.l l313) (vin (by omega) (by omega)) rfl ?_
    obtain ⟨x10, e10⟩ : ∃ x, am_gi G9 313 x1.toNatClampNeg = x := ⟨_, rfl⟩
    refine ae_eqi e10 ?_
    refine ae_if_ne (t := 117) (q := 48) dX7_end_45 (by decide) rfl (fun c11 => ?_) (fun c11 => ?_)
    · have c11 := i_ne (a := x10.toInt) (b := 0) rfl (by decide) c11
      refine ae_aload_n (q := 118) dX7_end_117 rfl rfl rfl ?_
      refine ae_getR (q := 121) dX7_end_118 fl_X7_80 rfl (h.s l288 t288) (h.l l288) (h.mr (k := 23) (b := 312) (by decide) rfl) rfl ?_
      refine ae_iload_n (q := 122) dX7_end_121 rfl rfl rfl ?_
      refine ae_iald (q := 123) dX7_end_122 (h.s l312 t312) (h.l l312) (vin (by omega) (by omega)) rfl ?_
      obtain ⟨x12, e12, u12, v12⟩ := rdi (h.i l312 t312 (k := x1.toNatClampNeg) (p := (0, 15)) rfl)
      refine ae_eqi e12 ?_
      refine ae_if_le (t := 153) (q := 126) dX7_end_123 (by decide) rfl (fun c13 => ?_) (fun c13 => ?_)
      · have c13 := i_le (a := x12.toInt) (b := 0) rfl (by decide) c13
        refine ae_aload_n (q := 154) dX7_end_153 rfl rfl rfl ?_
        refine ae_iload_n (q := 155) dX7_end_154 rfl rfl rfl ?_
        refine ae_aload_n (q := 156) dX7_end_155 rfl rfl rfl ?_
        refine ae_getR (q := 159) dX7_end_156 fl_X7_86 rfl (h.s l288 t288) (h.l l288) (h.mr (k := 25) (b := 314) (by decide) rfl) rfl ?_
        refine ae_iload_n (q := 160) dX7_end_159 rfl rfl rfl ?_
        refine ae_iald (q := 161) dX7_end_160 (h.s l314 t314) (h.l l314) (vin (by omega) (by omega)) rfl ?_
        obtain ⟨x14, e14⟩ : ∃ x, am_gi G9 314 x1.toNatClampNeg = x := ⟨_, rfl⟩
        refine ae_eqi e14 ?_
        refine ae_callV (ci := 7) (as := [.int a1, .int x14]) (b := 288) (st := []) (q := 164) dX7_end_161 (c_X7_raise (N := N) (d := d) h (by omega) (by omega)) myX7_raise lk_X7_176 im_X7_raise se_X7_raise rfl (by decide) (h.s l288 t288) (h.l l288) rfl rfl (Nat.le_of_ble_eq_true rfl) rfl (fun o H1 hh => ⟨_, hh.1⟩) (fun vv G15 hv => ?_)
        obtain ⟨o15, z15⟩ := hv
        cases o15
        obtain ⟨z15, w15⟩ := z15
        refine ⟨Or.inl (z15.nx.trans h.nx.symm), ?_⟩
        have h : jm N B 320 G15 := z15
        clear z15
        obtain ⟨wa15, wb15, q15⟩ := w15
        have hd : am_gi G15 315 = am_gi H 315 := wa15.trans hd
        have hf : am_gi G15 288 38 = am_gi H 288 38 := wb15.trans hf
        refine ae_vret dX7_end_164 rfl ?_
        exact ⟨rfl, ⟨(h.up (by omega)), hd, hf, (q15.elim (fun q => Or.inl (by omega)) (fun q => Or.inr ⟨by omega, q.2⟩))⟩⟩
      · have c13 := i_nle (a := x12.toInt) (b := 0) rfl (by decide) c13
        refine ae_aload_n (q := 127) dX7_end_126 rfl rfl rfl ?_
        refine ae_getR (q := 130) dX7_end_127 fl_X7_25 rfl (h.s l288 t288) (h.l l288) (h.mr (k := 5) (b := 294) (by decide) rfl) rfl ?_
        refine ae_iload_n (q := 131) dX7_end_130 rfl rfl rfl ?_
        refine ae_aload_n (q := 132) dX7_end_131 rfl rfl rfl ?_
        refine ae_getR (q := 135) dX7_end_132 fl_X7_80 rfl (h.s l288 t288) (h.l l288) (h.mr (k := 23) (b := 312) (by decide) rfl) rfl ?_
        refine ae_iload_n (q := 136) dX7_end_135 rfl rfl rfl ?_
        refine ae_iald (q := 137) dX7_end_136 (h.s l312 t312) (h.l l312) (vin (by omega) (by omega)) rfl ?_
        refine ae_eqi e12 ?_
        refine ae_iast (q := 138) dX7_end_137 (h.s l294 t294) (h.l l294) (vin (by omega) (by omega)) rfl ?_
        refine ae_gen (fun G16 g16 => ?_)
        have h : jm N B 320 G16 := by rw [g16]; exact h.w t294 (by decide) (by decide) (by decide) (mk_inr (lo := 0) (hi := 16 + ((N : Nat) : Int)) (by omega) (by omega))
        have hd : am_gi G16 315 = am_gi H 315 := by rw [g16]; exact (gi_rowne (by decide)).trans hd
        have hf : am_gi G16 288 38 = am_gi H 288 38 := by rw [g16]; exact gi_si hf (fun q => absurd q.1 (by decide))
        have q16 : dl G16 = dl G9 := by rw [g16]; exact dl_ne (by decide) (by decide) (by decide) (fun q => absurd q.1 (by decide))
        refine ae_aload_n (q := 139) dX7_end_138 rfl rfl rfl ?_
        refine ae_getR (q := 142) dX7_end_139 fl_X7_22 rfl (h.s l288 t288) (h.l l288) (h.mr (k := 4) (b := 293) (by decide) rfl) rfl ?_
        refine ae_iload_n (q := 143) dX7_end_142 rfl rfl rfl ?_
        refine ae_aload_n (q := 144) dX7_end_143 rfl rfl rfl ?_
        refine ae_getR (q := 147) dX7_end_144 fl_X7_86 rfl (h.s l288 t288) (h.l l288) (h.mr (k := 25) (b := 314) (by decide) rfl) rfl ?_
        refine ae_iload_n (q := 148) dX7_end_147 rfl rfl rfl ?_
        refine ae_iald (q := 149) dX7_end_148 (h.s l314 t314) (h.l l314) (vin (by omega) (by omega)) rfl ?_
        obtain ⟨x17, e17⟩ : ∃ x, am_gi G16 314 x1.toNatClampNeg = x := ⟨_, rfl⟩
        refine ae_eqi e17 ?_
        refine ae_iast (q := 150) dX7_end_149 (h.s l293 t293) (h.l l293) (vin (by omega) (by omega)) rfl ?_
        refine ae_gen (fun G18 g18 => ?_)
        have h : jm N B 320 G18 := by rw [g18]; exact h.w t293 (by decide) (by decide) (by decide) inr_any
        have hd : am_gi G18 315 = am_gi H 315 := by rw [g18]; exact (gi_rowne (by decide)).trans hd
        have hf : am_gi G18 288 38 = am_gi H 288 38 := by rw [g18]; exact gi_si hf (fun q => absurd q.1 (by decide))
        have q18 : dl G18 = dl G16 := by rw [g18]; exact dl_ne (by decide) (by decide) (by decide) (fun q => absurd q.1 (by decide))
        refine ae_goto (q := 164) dX7_end_150 (by decide) ?_
        refine ae_vret dX7_end_164 rfl ?_
        exact ⟨rfl, ⟨(h.up (by omega)), hd, hf, (Or.inl (by omega))⟩⟩
    · have c11 := i_eq (a := x10.toInt) (b := 0) rfl (by decide) c11
      refine ae_aload_n (q := 49) dX7_end_48 rfl rfl rfl ?_
      refine ae_getR (q := 52) dX7_end_49 fl_X7_22 rfl (h.s l288 t288) (h.l l288) (h.mr (k := 4) (b := 293) (by decide) rfl) rfl ?_
      refine ae_iload_n (q := 53) dX7_end_52 rfl rfl rfl ?_
      refine ae_aload_n (q := 54) dX7_end_53 rfl rfl rfl ?_
      refine ae_getR (q := 57) dX7_end_54 fl_X7_77 rfl (h.s l288 t288) (h.l l288) (h.mr (k := 22) (b := 311) (by decide) rfl) rfl ?_
      refine ae_iload_n (q := 58) dX7_end_57 rfl rfl rfl ?_
      refine ae_iald (q := 59) dX7_end_58 (h.s l311 t311) (h.l l311) (vin (by omega) (by omega)) rfl ?_
      obtain ⟨x19, e19⟩ : ∃ x, am_gi G9 311 x1.toNatClampNeg = x := ⟨_, rfl⟩
      refine ae_eqi e19 ?_
      refine ae_if_eq (t := 72) (q := 62) dX7_end_59 (by decide) rfl (fun c20 => ?_) (fun c20 => ?_)
      · have c20 := i_eq (a := x19.toInt) (b := 0) rfl (by decide) c20
        refine ae_aload_n (q := 73) dX7_end_72 rfl rfl rfl ?_
        refine ae_getR (q := 76) dX7_end_73 fl_X7_22 rfl (h.s l288 t288) (h.l l288) (h.mr (k := 4) (b := 293) (by decide) rfl) rfl ?_
        refine ae_iload_n (q := 77) dX7_end_76 rfl rfl rfl ?_
        refine ae_iald (q := 78) dX7_end_77 (h.s l293 t293) (h.l l293) (vin (by omega) (by omega)) rfl ?_
        obtain ⟨x21, e21⟩ : ∃ x, am_gi G9 293 a1.toNatClampNeg = x := ⟨_, rfl⟩
        refine ae_eqi e21 ?_
        refine ae_aload_n (q := 79) dX7_end_78 rfl rfl rfl ?_
        refine ae_getR (q := 82) dX7_end_79 fl_X7_74 rfl (h.s l288 t288) (h.l l288) (h.mr (k := 21) (b := 310) (by decide) rfl) rfl ?_
        refine ae_iload_n (q := 83) dX7_end_82 rfl rfl rfl ?_
        refine ae_iald (q := 84) dX7_end_83 (h.s l310 t310) (h.l l310) (vin (by omega) (by omega)) rfl ?_
        obtain ⟨x22, e22⟩ : ∃ x, am_gi G9 310 x1.toNatClampNeg = x := ⟨_, rfl⟩
        refine ae_eqi e22 ?_
        refine ae_iadd (q := 85) dX7_end_84 rfl ?_
        obtain ⟨x23, e23⟩ : ∃ z, x21 + x22 = z := ⟨_, rfl⟩
        refine ae_eqi e23 ?_
        refine ae_goto (q := 94) dX7_end_85 (by decide) ?_
        refine ae_iast (q := 95) dX7_end_94 (h.s l293 t293) (h.l l293) (vin (by omega) (by omega)) rfl ?_
        refine ae_gen (fun G24 g24 => ?_)
        have h : jm N B 320 G24 := by rw [g24]; exact h.w t293 (by decide) (by decide) (by decide) inr_any
        have hd : am_gi G24 315 = am_gi H 315 := by rw [g24]; exact (gi_rowne (by decide)).trans hd
        have hf : am_gi G24 288 38 = am_gi H 288 38 := by rw [g24]; exact gi_si hf (fun q => absurd q.1 (by decide))
        have q24 : dl G24 = dl G9 := by rw [g24]; exact dl_ne (by decide) (by decide) (by decide) (fun q => absurd q.1 (by decide))
        refine ae_aload_n (q := 96) dX7_end_95 rfl rfl rfl ?_
        refine ae_getR (q := 99) dX7_end_96 fl_X7_50 rfl (h.s l288 t288) (h.l l288) (h.mr (k := 13) (b := 302) (by decide) rfl) rfl ?_
        refine ae_iload_n (q := 100) dX7_end_99 rfl rfl rfl ?_
        refine ae_zald (q := 101) dX7_end_100 (h.s l302 t302) (h.l l302) (vin (by omega) (by omega)) rfl ?_
        obtain ⟨x25, e25, u25, v25⟩ := rdi (h.i l302 t302 (k := a1.toNatClampNeg) (p := (0, 1)) rfl)
        refine ae_eqi e25 ?_
        refine ae_if_eq (t := 164) (q := 104) dX7_end_101 (by decide) rfl (fun c26 => ?_) (fun c26 => ?_)
        · have c26 := i_eq (a := x25.toInt) (b := 0) rfl (by decide) c26
          refine ae_vret dX7_end_164 rfl ?_
          exact ⟨rfl, ⟨(h.up (by omega)), hd, hf, (Or.inl (by omega))⟩⟩
        · have c26 := i_ne (a := x25.toInt) (b := 0) rfl (by decide) c26
          refine ae_aload_n (q := 105) dX7_end_104 rfl rfl rfl ?_
          refine ae_getR (q := 108) dX7_end_105 fl_X7_25 rfl (h.s l288 t288) (h.l l288) (h.mr (k := 5) (b := 294) (by decide) rfl) rfl ?_
          refine ae_iload_n (q := 109) dX7_end_108 rfl rfl rfl ?_
          refine ae_dup2 (q := 110) dX7_end_109 rfl rfl rfl ?_
          refine ae_iald (q := 111) dX7_end_110 (h.s l294 t294) (h.l l294) (vin (by omega) (by omega)) rfl ?_
          obtain ⟨x27, e27, u27, v27⟩ := rdi (h.i l294 t294 (k := a1.toNatClampNeg) (p := (0, 16 + ((N : Nat) : Int))) rfl)
          refine ae_eqi e27 ?_
          refine ae_iconst (v := 1) (q := 112) dX7_end_111 (by decide) rfl ?_
          refine ae_iadd (q := 113) dX7_end_112 rfl ?_
          obtain ⟨x28, e28⟩ : ∃ z, x27 + 1 = z := ⟨_, rfl⟩
          refine ae_eqi e28 ?_
          have f28 : x28.toInt = x27.toInt + 1 := by rw [← e28]; exact i_add rfl (by decide) (by omega) (by omega)
          have h : jm (N + 1) B 320 G24 := h.up (by omega)
          refine ae_iast (q := 114) dX7_end_113 (h.s l294 t294) (h.l l294) (vin (by omega) (by omega)) rfl ?_
          refine ae_gen (fun G29 g29 => ?_)
          have h : jm (N + 1) B 320 G29 := by rw [g29]; exact h.w t294 (by decide) (by decide) (by decide) (mk_inr (lo := 0) (hi := 16 + (((N + 1) : Nat) : Int)) (by omega) (by omega))
          have hd : am_gi G29 315 = am_gi H 315 := by rw [g29]; exact (gi_rowne (by decide)).trans hd
          have hf : am_gi G29 288 38 = am_gi H 288 38 := by rw [g29]; exact gi_si hf (fun q => absurd q.1 (by decide))
          have q29 : dl G29 = dl G24 := by rw [g29]; exact dl_ne (by decide) (by decide) (by decide) (fun q => absurd q.1 (by decide))
          refine ae_goto (q := 164) dX7_end_114 (by decide) ?_
          refine ae_vret dX7_end_164 rfl ?_
          exact ⟨rfl, ⟨h, hd, hf, (Or.inl (by omega))⟩⟩
      · have c20 := i_ne (a := x19.toInt) (b := 0) rfl (by decide) c20
        refine ae_aload_n (q := 63) dX7_end_62 rfl rfl rfl ?_
        refine ae_getR (q := 66) dX7_end_63 fl_X7_77 rfl (h.s l288 t288) (h.l l288) (h.mr (k := 22) (b := 311) (by decide) rfl) rfl ?_
        refine ae_iload_n (q := 67) dX7_end_66 rfl rfl rfl ?_
        refine ae_iald (q := 68) dX7_end_67 (h.s l311 t311) (h.l l311) (vin (by omega) (by omega)) rfl ?_
        refine ae_eqi e19 ?_
        refine ae_iconst (v := 3) (q := 69) dX7_end_68 (by decide) rfl ?_
        refine ae_icmp_ne (t := 88) (q := 72) dX7_end_69 (by decide) rfl (fun c30 => ?_) (fun c30 => ?_)
        · have c30 := i_ne (a := x19.toInt) (b := 3) rfl (by decide) c30
          refine ae_aload_n (q := 89) dX7_end_88 rfl rfl rfl ?_
          refine ae_getR (q := 92) dX7_end_89 fl_X7_74 rfl (h.s l288 t288) (h.l l288) (h.mr (k := 21) (b := 310) (by decide) rfl) rfl ?_
          refine ae_iload_n (q := 93) dX7_end_92 rfl rfl rfl ?_
          refine ae_iald (q := 94) dX7_end_93 (h.s l310 t310) (h.l l310) (vin (by omega) (by omega)) rfl ?_
          obtain ⟨x31, e31⟩ : ∃ x, am_gi G9 310 x1.toNatClampNeg = x := ⟨_, rfl⟩
          refine ae_eqi e31 ?_
          refine ae_iast (q := 95) dX7_end_94 (h.s l293 t293) (h.l l293) (vin (by omega) (by omega)) rfl ?_
          refine ae_gen (fun G32 g32 => ?_)
          have h : jm N B 320 G32 := by rw [g32]; exact h.w t293 (by decide) (by decide) (by decide) inr_any
          have hd : am_gi G32 315 = am_gi H 315 := by rw [g32]; exact (gi_rowne (by decide)).trans hd
          have hf : am_gi G32 288 38 = am_gi H 288 38 := by rw [g32]; exact gi_si hf (fun q => absurd q.1 (by decide))
          have q32 : dl G32 = dl G9 := by rw [g32]; exact dl_ne (by decide) (by decide) (by decide) (fun q => absurd q.1 (by decide))
          refine ae_aload_n (q := 96) dX7_end_95 rfl rfl rfl ?_
          refine ae_getR (q := 99) dX7_end_96 fl_X7_50 rfl (h.s l288 t288) (h.l l288) (h.mr (k := 13) (b := 302) (by decide) rfl) rfl ?_
          refine ae_iload_n (q := 100) dX7_end_99 rfl rfl rfl ?_
          refine ae_zald (q := 101) dX7_end_100 (h.s l302 t302) (h.l l302) (vin (by omega) (by omega)) rfl ?_
          obtain ⟨x33, e33, u33, v33⟩ := rdi (h.i l302 t302 (k := a1.toNatClampNeg) (p := (0, 1)) rfl)
          refine ae_eqi e33 ?_
          refine ae_if_eq (t := 164) (q := 104) dX7_end_101 (by decide) rfl (fun c34 => ?_) (fun c34 => ?_)
          · have c34 := i_eq (a := x33.toInt) (b := 0) rfl (by decide) c34
            refine ae_vret dX7_end_164 rfl ?_
            exact ⟨rfl, ⟨(h.up (by omega)), hd, hf, (Or.inl (by omega))⟩⟩
          · have c34 := i_ne (a := x33.toInt) (b := 0) rfl (by decide) c34
            refine ae_aload_n (q := 105) dX7_end_104 rfl rfl rfl ?_
            refine ae_getR (q := 108) dX7_end_105 fl_X7_25 rfl (h.s l288 t288) (h.l l288) (h.mr (k := 5) (b := 294) (by decide) rfl) rfl ?_
            refine ae_iload_n (q := 109) dX7_end_108 rfl rfl rfl ?_
            refine ae_dup2 (q := 110) dX7_end_109 rfl rfl rfl ?_
            refine ae_iald (q := 111) dX7_end_110 (h.s l294 t294) (h.l l294) (vin (by omega) (by omega)) rfl ?_
            obtain ⟨x35, e35, u35, v35⟩ := rdi (h.i l294 t294 (k := a1.toNatClampNeg) (p := (0, 16 + ((N : Nat) : Int))) rfl)
            refine ae_eqi e35 ?_
            refine ae_iconst (v := 1) (q := 112) dX7_end_111 (by decide) rfl ?_
            refine ae_iadd (q := 113) dX7_end_112 rfl ?_
            obtain ⟨x36, e36⟩ : ∃ z, x35 + 1 = z := ⟨_, rfl⟩
            refine ae_eqi e36 ?_
            have f36 : x36.toInt = x35.toInt + 1 := by rw [← e36]; exact i_add rfl (by decide) (by omega) (by omega)
            have h : jm (N + 1) B 320 G32 := h.up (by omega)
            refine ae_iast (q := 114) dX7_end_113 (h.s l294 t294) (h.l l294) (vin (by omega) (by omega)) rfl ?_
            refine ae_gen (fun G37 g37 => ?_)
            have h : jm (N + 1) B 320 G37 := by rw [g37]; exact h.w t294 (by decide) (by decide) (by decide) (mk_inr (lo := 0) (hi := 16 + (((N + 1) : Nat) : Int)) (by omega) (by omega))
            have hd : am_gi G37 315 = am_gi H 315 := by rw [g37]; exact (gi_rowne (by decide)).trans hd
            have hf : am_gi G37 288 38 = am_gi H 288 38 := by rw [g37]; exact gi_si hf (fun q => absurd q.1 (by decide))
            have q37 : dl G37 = dl G32 := by rw [g37]; exact dl_ne (by decide) (by decide) (by decide) (fun q => absurd q.1 (by decide))
            refine ae_goto (q := 164) dX7_end_114 (by decide) ?_
            refine ae_vret dX7_end_164 rfl ?_
            exact ⟨rfl, ⟨h, hd, hf, (Or.inl (by omega))⟩⟩
        · have c30 := i_eq (a := x19.toInt) (b := 3) rfl (by decide) c30
          refine ae_aload_n (q := 73) dX7_end_72 rfl rfl rfl ?_
          refine ae_getR (q := 76) dX7_end_73 fl_X7_22 rfl (h.s l288 t288) (h.l l288) (h.mr (k := 4) (b := 293) (by decide) rfl) rfl ?_
          refine ae_iload_n (q := 77) dX7_end_76 rfl rfl rfl ?_
          refine ae_iald (q := 78) dX7_end_77 (h.s l293 t293) (h.l l293) (vin (by omega) (by omega)) rfl ?_
          obtain ⟨x38, e38⟩ : ∃ x, am_gi G9 293 a1.toNatClampNeg = x := ⟨_, rfl⟩
          refine ae_eqi e38 ?_
          refine ae_aload_n (q := 79) dX7_end_78 rfl rfl rfl ?_
          refine ae_getR (q := 82) dX7_end_79 fl_X7_74 rfl (h.s l288 t288) (h.l l288) (h.mr (k := 21) (b := 310) (by decide) rfl) rfl ?_
          refine ae_iload_n (q := 83) dX7_end_82 rfl rfl rfl ?_
          refine ae_iald (q := 84) dX7_end_83 (h.s l310 t310) (h.l l310) (vin (by omega) (by omega)) rfl ?_
          obtain ⟨x39, e39⟩ : ∃ x, am_gi G9 310 x1.toNatClampNeg = x := ⟨_, rfl⟩
          refine ae_eqi e39 ?_
          refine ae_iadd (q := 85) dX7_end_84 rfl ?_
          obtain ⟨x40, e40⟩ : ∃ z, x38 + x39 = z := ⟨_, rfl⟩
          refine ae_eqi e40 ?_
          refine ae_goto (q := 94) dX7_end_85 (by decide) ?_
          refine ae_iast (q := 95) dX7_end_94 (h.s l293 t293) (h.l l293) (vin (by omega) (by omega)) rfl ?_
          refine ae_gen (fun G41 g41 => ?_)
          have h : jm N B 320 G41 := by rw [g41]; exact h.w t293 (by decide) (by decide) (by decide) inr_any
          have hd : am_gi G41 315 = am_gi H 315 := by rw [g41]; exact (gi_rowne (by decide)).trans hd
          have hf : am_gi G41 288 38 = am_gi H 288 38 := by rw [g41]; exact gi_si hf (fun q => absurd q.1 (by decide))
          have q41 : dl G41 = dl G9 := by rw [g41]; exact dl_ne (by decide) (by decide) (by decide) (fun q => absurd q.1 (by decide))
          refine ae_aload_n (q := 96) dX7_end_95 rfl rfl rfl ?_
          refine ae_getR (q := 99) dX7_end_96 fl_X7_50 rfl (h.s l288 t288) (h.l l288) (h.mr (k := 13) (b := 302) (by decide) rfl) rfl ?_
          refine ae_iload_n (q := 100) dX7_end_99 rfl rfl rfl ?_
          refine ae_zald (q := 101) dX7_end_100 (h.s l302 t302) (h.l l302) (vin (by omega) (by omega)) rfl ?_
          obtain ⟨x42, e42, u42, v42⟩ := rdi (h.i l302 t302 (k := a1.toNatClampNeg) (p := (0, 1)) rfl)
          refine ae_eqi e42 ?_
          refine ae_if_eq (t := 164) (q := 104) dX7_end_101 (by decide) rfl (fun c43 => ?_) (fun c43 => ?_)
          · have c43 := i_eq (a := x42.toInt) (b := 0) rfl (by decide) c43
            refine ae_vret dX7_end_164 rfl ?_
            exact ⟨rfl, ⟨(h.up (by omega)), hd, hf, (Or.inl (by omega))⟩⟩
          · have c43 := i_ne (a := x42.toInt) (b := 0) rfl (by decide) c43
            refine ae_aload_n (q := 105) dX7_end_104 rfl rfl rfl ?_
            refine ae_getR (q := 108) dX7_end_105 fl_X7_25 rfl (h.s l288 t288) (h.l l288) (h.mr (k := 5) (b := 294) (by decide) rfl) rfl ?_
            refine ae_iload_n (q := 109) dX7_end_108 rfl rfl rfl ?_
            refine ae_dup2 (q := 110) dX7_end_109 rfl rfl rfl ?_
            refine ae_iald (q := 111) dX7_end_110 (h.s l294 t294) (h.l l294) (vin (by omega) (by omega)) rfl ?_
            obtain ⟨x44, e44, u44, v44⟩ := rdi (h.i l294 t294 (k := a1.toNatClampNeg) (p := (0, 16 + ((N : Nat) : Int))) rfl)
            refine ae_eqi e44 ?_
            refine ae_iconst (v := 1) (q := 112) dX7_end_111 (by decide) rfl ?_
            refine ae_iadd (q := 113) dX7_end_112 rfl ?_
            obtain ⟨x45, e45⟩ : ∃ z, x44 + 1 = z := ⟨_, rfl⟩
            refine ae_eqi e45 ?_
            have f45 : x45.toInt = x44.toInt + 1 := by rw [← e45]; exact i_add rfl (by decide) (by omega) (by omega)
            have h : jm (N + 1) B 320 G41 := h.up (by omega)
            refine ae_iast (q := 114) dX7_end_113 (h.s l294 t294) (h.l l294) (vin (by omega) (by omega)) rfl ?_
            refine ae_gen (fun G46 g46 => ?_)
            have h : jm (N + 1) B 320 G46 := by rw [g46]; exact h.w t294 (by decide) (by decide) (by decide) (mk_inr (lo := 0) (hi := 16 + (((N + 1) : Nat) : Int)) (by omega) (by omega))
            have hd : am_gi G46 315 = am_gi H 315 := by rw [g46]; exact (gi_rowne (by decide)).trans hd
            have hf : am_gi G46 288 38 = am_gi H 288 38 := by rw [g46]; exact gi_si hf (fun q => absurd q.1 (by decide))
            have q46 : dl G46 = dl G41 := by rw [g46]; exact dl_ne (by decide) (by decide) (by decide) (fun q => absurd q.1 (by decide))
            refine ae_goto (q := 164) dX7_end_114 (by decide) ?_
            refine ae_vret dX7_end_164 rfl ?_
            exact ⟨rfl, ⟨h, hd, hf, (Or.inl (by omega))⟩⟩
  · have c3 := i_nle (a := x2.toInt) (b := 0) rfl (by decide) c3
    refine ae_aload_n (q := 16) dX7_end_15 rfl rfl rfl ?_
    refine ae_iload_n (q := 17) dX7_end_16 rfl rfl rfl ?_
    refine ae_iconst (v := 3) (q := 18) dX7_end_17 (by decide) rfl ?_
    refine ae_callV (ci := 7) (as := [.int a1, .int 3]) (b := 288) (st := []) (q := 21) dX7_end_18 (c_X7_set (N := N) (d := d + 2) h (by omega) (by omega) (by decide) (by decide)) myX7_set lk_X7_163 im_X7_set se_X7_set rfl (by decide) (h.s l288 t288) (h.l l288) rfl rfl (Nat.le_of_ble_eq_true rfl) rfl (fun o H1 hh => ⟨_, hh.1⟩) (fun vv G47 hv => ?_)
    obtain ⟨o47, z47⟩ := hv
    cases o47
    obtain ⟨z47, w47⟩ := z47
    refine ⟨Or.inl (z47.nx.trans h.nx.symm), ?_⟩
    have h : jm N B 320 G47 := z47
    clear z47
    obtain ⟨wa47, wb47, q47, ws47⟩ := w47
    have hd : am_gi G47 315 = am_gi H 315 := wa47.trans hd
    have hf : am_gi G47 288 38 = am_gi H 288 38 := wb47.trans hf
    refine ae_vret dX7_end_21 rfl ?_
    exact ⟨rfl, ⟨(h.up (by omega)), hd, hf, (Or.inr ⟨by omega, by rw [ws47]; decide⟩)⟩⟩
set_option maxRecDepth 100000 in
set_option maxHeartbeats 4000000 in
theorem c_X7_next {ox : List (Nat × (Nat → Int32))} {d N : Nat} {B H : am_H} {a1 : Int32} (hN : N + 0 ≤ 1000000) (h : jm N B 320 H) (u_1 : 0 ≤ a1.toInt) (v_1 : a1.toInt ≤ 47) : am_DB 0 ox (d + 1) yX7_next mX7_next [.ref 288, .int a1] H (fun o H1 => o = .inl none ∧ jm (N + 1) B 320 H1 ∧ ac a1.toNatClampNeg H H1) := by
  refine ae_enter rfl rfl rfl rfl (Nat.le_of_ble_eq_true rfl) ?_
  show am_EB 0 ox (d + 1) mX7_next 0 [(0, .ref 288), (1, .int a1)] [] H _
  have hd : am_gi H 315 = am_gi H 315 := rfl
  have hf : am_gi H 288 38 = am_gi H 288 38 := rfl
  have lab52 : ∀ (K1 : am_H), jm N B 320 K1 → am_gi K1 315 = am_gi H 315 → am_gi K1 288 38 = am_gi H 288 38 → dl K1 = dl H → am_EB 0 ox (d + 1) mX7_next 52 [(0, .ref 288), (1, .int a1)] [] K1 (fun o H1 => o = .inl none ∧ jm (N + 1) B 320 H1 ∧ ac a1.toNatClampNeg H H1) := by
    intro K1 h hd hf ql1
    refine ae_aload_n (q := 53) dX7_next_52 rfl rfl rfl ?_
    refine ae_getR (q := 56) dX7_next_53 fl_X7_53 rfl (h.s l288 t288) (h.l l288) (h.mr (k := 14) (b := 303) (by decide) rfl) rfl ?_
    refine ae_iload_n (q := 57) dX7_next_56 rfl rfl rfl ?_
    refine ae_iconst (v := 1) (q := 58) dX7_next_57 (by decide) rfl ?_
    refine ae_zast (q := 59) dX7_next_58 (h.s l303 t303) (h.l l303) (vin (by omega) (by omega)) rfl rfl ?_
    refine ae_gen (fun G2 g2 => ?_)
    have h : jm N B 320 G2 := by rw [g2]; exact h.w t303 (by decide) (by decide) (by decide) (mk_inr (lo := 0) (hi := 1) (by decide) (by decide))
    have hd : am_gi G2 315 = am_gi H 315 := by rw [g2]; exact (gi_rowne (by decide)).trans hd
    have hf : am_gi G2 288 38 = am_gi H 288 38 := by rw [g2]; exact gi_si hf (fun q => absurd q.1 (by decide))
    have q2 : dl G2 = dl K1 := by rw [g2]; exact dl_ne (by decide) (by decide) (by decide) (fun q => absurd q.1 (by decide))
    refine ae_aload_n (q := 60) dX7_next_59 rfl rfl rfl ?_
    refine ae_callV (ci := 7) (as := []) (b := 288) (st := []) (q := 63) dX7_next_60 (c_X7_move (N := N) (d := d) h) myX7_move lk_X7_156 im_X7_move se_X7_move rfl (by decide) (h.s l288 t288) (h.l l288) rfl rfl (Nat.le_of_ble_eq_true rfl) rfl (fun o H1 hh => ⟨_, hh.1⟩) (fun vv G3 hv => ?_)
    obtain ⟨o3, z3⟩ := hv
    cases o3
    obtain ⟨z3, w3⟩ := z3
    refine ⟨Or.inl (z3.nx.trans h.nx.symm), ?_⟩
    have h : jm N B 320 G3 := z3
    clear z3
    have hd : am_gi G3 315 = am_gi H 315 := w3.hd.trans hd
    have hf : am_gi G3 288 38 = am_gi H 288 38 := w3.fr.trans hf
    have q3 := w3.dl
    refine ae_aload_n (q := 64) dX7_next_63 rfl rfl rfl ?_
    refine ae_iload_n (q := 65) dX7_next_64 rfl rfl rfl ?_
    refine ae_callV (ci := 7) (as := [.int a1]) (b := 288) (st := []) (q := 68) dX7_next_65 (c_X7_isPassed (N := N) (d := d) h (by omega) (by omega)) myX7_isPassed lk_X7_159 im_X7_isPassed se_X7_isPassed rfl (by decide) (h.s l288 t288) (h.l l288) rfl rfl (Nat.le_of_ble_eq_true rfl) rfl (fun o H1 hh => ⟨_, hh.1.choose_spec.1⟩) (fun vv G4 hv => ?_)
    obtain ⟨⟨x4, o4, u4, v4⟩, z4⟩ := hv
    cases o4
    have z4 := z4.symm
    subst z4
    refine ⟨Or.inl rfl, ?_⟩
    refine ae_istore_n (lv' := [(2, .int x4), (0, .ref 288), (1, .int a1)]) (q := 69) dX7_next_68 rfl (by decide) rfl rfl ?_
    refine ae_iload_n (q := 70) dX7_next_69 rfl rfl rfl ?_
    refine ae_if_ne (t := 80) (q := 73) dX7_next_70 (by decide) rfl (fun c5 => ?_) (fun c5 => ?_)
    · have c5 := i_ne (a := x4.toInt) (b := 0) rfl (by decide) c5
      have lab123 : ∀ (K6 : am_H), jm N B 320 K6 → am_gi K6 315 = am_gi H 315 → am_gi K6 288 38 = am_gi H 288 38 → dl K6 = dl H → am_EB 0 ox (d + 1) mX7_next 123 [(2, .int x4), (0, .ref 288), (1, .int a1)] [] K6 (fun o H1 => o = .inl none ∧ jm (N + 1) B 320 H1 ∧ ac a1.toNatClampNeg H H1) := by
        intro K6 h hd hf ql6
        refine ae_aload_n (q := 124) dX7_next_123 rfl rfl rfl ?_
        refine ae_getR (q := 127) dX7_next_124 fl_X7_53 rfl (h.s l288 t288) (h.l l288) (h.mr (k := 14) (b := 303) (by decide) rfl) rfl ?_
        refine ae_iload_n (q := 128) dX7_next_127 rfl rfl rfl ?_
        refine ae_iconst (v := 0) (q := 129) dX7_next_128 (by decide) rfl ?_
        refine ae_zast (q := 130) dX7_next_129 (h.s l303 t303) (h.l l303) (vin (by omega) (by omega)) rfl rfl ?_
        refine ae_gen (fun G7 g7 => ?_)
        have h : jm N B 320 G7 := by rw [g7]; exact h.w t303 (by decide) (by decide) (by decide) (mk_inr (lo := 0) (hi := 1) (by decide) (by decide))
        have hd : am_gi G7 315 = am_gi H 315 := by rw [g7]; exact (gi_rowne (by decide)).trans hd
        have hf : am_gi G7 288 38 = am_gi H 288 38 := by rw [g7]; exact gi_si hf (fun q => absurd q.1 (by decide))
        have q7 : dl G7 = dl K6 := by rw [g7]; exact dl_ne (by decide) (by decide) (by decide) (fun q => absurd q.1 (by decide))
        refine ae_aload_n (q := 131) dX7_next_130 rfl rfl rfl ?_
        refine ae_getR (q := 134) dX7_next_131 fl_X7_25 rfl (h.s l288 t288) (h.l l288) (h.mr (k := 5) (b := 294) (by decide) rfl) rfl ?_
        refine ae_iload_n (q := 135) dX7_next_134 rfl rfl rfl ?_
        refine ae_dup2 (q := 136) dX7_next_135 rfl rfl rfl ?_
        refine ae_iald (q := 137) dX7_next_136 (h.s l294 t294) (h.l l294) (vin (by omega) (by omega)) rfl ?_
        obtain ⟨x8, e8, u8, v8⟩ := rdi (h.i l294 t294 (k := a1.toNatClampNeg) (p := (0, 16 + ((N : Nat) : Int))) rfl)
        refine ae_eqi e8 ?_
        refine ae_iconst (v := 1) (q := 138) dX7_next_137 (by decide) rfl ?_
        refine ae_iadd (q := 139) dX7_next_138 rfl ?_
        obtain ⟨x9, e9⟩ : ∃ z, x8 + 1 = z := ⟨_, rfl⟩
        refine ae_eqi e9 ?_
        have f9 : x9.toInt = x8.toInt + 1 := by rw [← e9]; exact i_add rfl (by decide) (by omega) (by omega)
        have h : jm (N + 1) B 320 G7 := h.up (by omega)
        refine ae_iast (q := 140) dX7_next_139 (h.s l294 t294) (h.l l294) (vin (by omega) (by omega)) rfl ?_
        refine ae_gen (fun G10 g10 => ?_)
        have h : jm (N + 1) B 320 G10 := by rw [g10]; exact h.w t294 (by decide) (by decide) (by decide) (mk_inr (lo := 0) (hi := 16 + (((N + 1) : Nat) : Int)) (by omega) (by omega))
        have hd : am_gi G10 315 = am_gi H 315 := by rw [g10]; exact (gi_rowne (by decide)).trans hd
        have hf : am_gi G10 288 38 = am_gi H 288 38 := by rw [g10]; exact gi_si hf (fun q => absurd q.1 (by decide))
        have q10 : dl G10 = dl G7 := by rw [g10]; exact dl_ne (by decide) (by decide) (by decide) (fun q => absurd q.1 (by decide))
        refine ae_vret dX7_next_140 rfl ?_
        exact ⟨rfl, ⟨h, hd, hf, (Or.inl (by omega))⟩⟩
      refine ae_iconst (v := 0) (q := 81) dX7_next_80 (by decide) rfl ?_
      refine ae_istore_n (lv' := [(3, .int 0), (2, .int x4), (0, .ref 288), (1, .int a1)]) (q := 82) dX7_next_81 rfl (by decide) rfl rfl ?_
      refine ae_iload_n (q := 83) dX7_next_82 rfl rfl rfl ?_
      refine ae_iconst (v := 2) (q := 84) dX7_next_83 (by decide) rfl ?_
      refine ae_icmp_ge (t := 123) (q := 87) dX7_next_84 (by decide) rfl (fun h => absurd h (by decide)) (fun _ => ?_)
      refine ae_aload_n (q := 88) dX7_next_87 rfl rfl rfl ?_
      refine ae_getR (q := 91) dX7_next_88 fl_X7_59 rfl (h.s l288 t288) (h.l l288) (h.mr (k := 16) (b := 305) (by decide) rfl) rfl ?_
      refine ae_iconst (v := 2) (q := 92) dX7_next_91 (by decide) rfl ?_
      refine ae_iload_n (q := 93) dX7_next_92 rfl rfl rfl ?_
      refine ae_imul (q := 94) dX7_next_93 rfl ?_
      obtain ⟨x11, e11⟩ : ∃ z, 2 * a1 = z := ⟨_, rfl⟩
      refine ae_eqi e11 ?_
      have f11 : x11.toInt = 2 * a1.toInt := by rw [← e11]; exact i_mul (by decide) rfl (by omega) (by omega)
      refine ae_iload_n (q := 95) dX7_next_94 rfl rfl rfl ?_
      refine ae_iadd (q := 96) dX7_next_95 rfl ?_
      obtain ⟨x12, e12⟩ : ∃ z, x11 + 0 = z := ⟨_, rfl⟩
      refine ae_eqi e12 ?_
      have f12 : x12.toInt = x11.toInt + 0 := by rw [← e12]; exact i_add rfl (by decide) (by omega) (by omega)
      refine ae_iald (q := 97) dX7_next_96 (h.s l305 t305) (h.l l305) (vin (by omega) (by omega)) rfl ?_
      obtain ⟨x13, e13⟩ : ∃ x, am_gi G3 305 x12.toNatClampNeg = x := ⟨_, rfl⟩
      refine ae_eqi e13 ?_
      refine ae_iconst (v := 2) (q := 98) dX7_next_97 (by decide) rfl ?_
      refine ae_iand (q := 99) dX7_next_98 rfl ?_
      obtain ⟨x14, e14⟩ : ∃ z, x13 &&& 2 = z := ⟨_, rfl⟩
      refine ae_eqi e14 ?_
      refine ae_iconst (v := 2) (q := 100) dX7_next_99 (by decide) rfl ?_
      refine ae_icmp_ne (t := 117) (q := 103) dX7_next_100 (by decide) rfl (fun c15 => ?_) (fun c15 => ?_)
      · have c15 := i_ne (a := x14.toInt) (b := 2) rfl (by decide) c15
        refine ae_iinc (v := 1) (lv' := [(3, .int 1), (2, .int x4), (0, .ref 288), (1, .int a1)]) (q := 120) dX7_next_117 rfl (by decide) (by decide) rfl rfl ?_
        refine ae_goto (q := 82) dX7_next_120 (by decide) ?_
        refine ae_iload_n (q := 83) dX7_next_82 rfl rfl rfl ?_
        refine ae_iconst (v := 2) (q := 84) dX7_next_83 (by decide) rfl ?_
        refine ae_icmp_ge (t := 123) (q := 87) dX7_next_84 (by decide) rfl (fun h => absurd h (by decide)) (fun _ => ?_)
        refine ae_aload_n (q := 88) dX7_next_87 rfl rfl rfl ?_
        refine ae_getR (q := 91) dX7_next_88 fl_X7_59 rfl (h.s l288 t288) (h.l l288) (h.mr (k := 16) (b := 305) (by decide) rfl) rfl ?_
        refine ae_iconst (v := 2) (q := 92) dX7_next_91 (by decide) rfl ?_
        refine ae_iload_n (q := 93) dX7_next_92 rfl rfl rfl ?_
        refine ae_imul (q := 94) dX7_next_93 rfl ?_
        refine ae_eqi e11 ?_
        refine ae_iload_n (q := 95) dX7_next_94 rfl rfl rfl ?_
        refine ae_iadd (q := 96) dX7_next_95 rfl ?_
        obtain ⟨x16, e16⟩ : ∃ z, x11 + 1 = z := ⟨_, rfl⟩
        refine ae_eqi e16 ?_
        have f16 : x16.toInt = x11.toInt + 1 := by rw [← e16]; exact i_add rfl (by decide) (by omega) (by omega)
        refine ae_iald (q := 97) dX7_next_96 (h.s l305 t305) (h.l l305) (vin (by omega) (by omega)) rfl ?_
        obtain ⟨x17, e17⟩ : ∃ x, am_gi G3 305 x16.toNatClampNeg = x := ⟨_, rfl⟩
        refine ae_eqi e17 ?_
        refine ae_iconst (v := 2) (q := 98) dX7_next_97 (by decide) rfl ?_
        refine ae_iand (q := 99) dX7_next_98 rfl ?_
        obtain ⟨x18, e18⟩ : ∃ z, x17 &&& 2 = z := ⟨_, rfl⟩
        refine ae_eqi e18 ?_
        refine ae_iconst (v := 2) (q := 100) dX7_next_99 (by decide) rfl ?_
        refine ae_icmp_ne (t := 117) (q := 103) dX7_next_100 (by decide) rfl (fun c19 => ?_) (fun c19 => ?_)
        · have c19 := i_ne (a := x18.toInt) (b := 2) rfl (by decide) c19
          refine ae_iinc (v := 2) (lv' := [(3, .int 2), (2, .int x4), (0, .ref 288), (1, .int a1)]) (q := 120) dX7_next_117 rfl (by decide) (by decide) rfl rfl ?_
          refine ae_goto (q := 82) dX7_next_120 (by decide) ?_
          refine ae_iload_n (q := 83) dX7_next_82 rfl rfl rfl ?_
          refine ae_iconst (v := 2) (q := 84) dX7_next_83 (by decide) rfl ?_
          refine ae_icmp_ge (t := 123) (q := 87) dX7_next_84 (by decide) rfl (fun _ => ?_) (fun h => absurd h (by decide))
          exact ae_lv (lv' := [(2, .int x4), (0, .ref 288), (1, .int a1)]) ⟨rfl, rfl, rfl, trivial⟩ (lab123 _ h hd hf (by omega))
        · have c19 := i_eq (a := x18.toInt) (b := 2) rfl (by decide) c19
          refine ae_aload_n (q := 104) dX7_next_103 rfl rfl rfl ?_
          refine ae_getR (q := 107) dX7_next_104 fl_X7_65 rfl (h.s l288 t288) (h.l l288) (h.mr (k := 18) (b := 307) (by decide) rfl) rfl ?_
          refine ae_iconst (v := 2) (q := 108) dX7_next_107 (by decide) rfl ?_
          refine ae_iload_n (q := 109) dX7_next_108 rfl rfl rfl ?_
          refine ae_imul (q := 110) dX7_next_109 rfl ?_
          refine ae_eqi e11 ?_
          refine ae_iload_n (q := 111) dX7_next_110 rfl rfl rfl ?_
          refine ae_iadd (q := 112) dX7_next_111 rfl ?_
          refine ae_eqi e16 ?_
          refine ae_dup2 (q := 113) dX7_next_112 rfl rfl rfl ?_
          refine ae_iald (q := 114) dX7_next_113 (h.s l307 t307) (h.l l307) (vin (by omega) (by omega)) rfl ?_
          obtain ⟨x20, e20⟩ : ∃ x, am_gi G3 307 x16.toNatClampNeg = x := ⟨_, rfl⟩
          refine ae_eqi e20 ?_
          refine ae_iconst (v := 1) (q := 115) dX7_next_114 (by decide) rfl ?_
          refine ae_iadd (q := 116) dX7_next_115 rfl ?_
          obtain ⟨x21, e21⟩ : ∃ z, x20 + 1 = z := ⟨_, rfl⟩
          refine ae_eqi e21 ?_
          refine ae_iast (q := 117) dX7_next_116 (h.s l307 t307) (h.l l307) (vin (by omega) (by omega)) rfl ?_
          refine ae_gen (fun G22 g22 => ?_)
          have h : jm N B 320 G22 := by rw [g22]; exact h.w t307 (by decide) (by decide) (by decide) inr_any
          have hd : am_gi G22 315 = am_gi H 315 := by rw [g22]; exact (gi_rowne (by decide)).trans hd
          have hf : am_gi G22 288 38 = am_gi H 288 38 := by rw [g22]; exact gi_si hf (fun q => absurd q.1 (by decide))
          have q22 : dl G22 = dl G3 := by rw [g22]; exact dl_ne (by decide) (by decide) (by decide) (fun q => absurd q.1 (by decide))
          refine ae_iinc (v := 2) (lv' := [(3, .int 2), (2, .int x4), (0, .ref 288), (1, .int a1)]) (q := 120) dX7_next_117 rfl (by decide) (by decide) rfl rfl ?_
          refine ae_goto (q := 82) dX7_next_120 (by decide) ?_
          refine ae_iload_n (q := 83) dX7_next_82 rfl rfl rfl ?_
          refine ae_iconst (v := 2) (q := 84) dX7_next_83 (by decide) rfl ?_
          refine ae_icmp_ge (t := 123) (q := 87) dX7_next_84 (by decide) rfl (fun _ => ?_) (fun h => absurd h (by decide))
          exact ae_lv (lv' := [(2, .int x4), (0, .ref 288), (1, .int a1)]) ⟨rfl, rfl, rfl, trivial⟩ (lab123 _ h hd hf (by omega))
      · have c15 := i_eq (a := x14.toInt) (b := 2) rfl (by decide) c15
        refine ae_aload_n (q := 104) dX7_next_103 rfl rfl rfl ?_
        refine ae_getR (q := 107) dX7_next_104 fl_X7_65 rfl (h.s l288 t288) (h.l l288) (h.mr (k := 18) (b := 307) (by decide) rfl) rfl ?_
        refine ae_iconst (v := 2) (q := 108) dX7_next_107 (by decide) rfl ?_
        refine ae_iload_n (q := 109) dX7_next_108 rfl rfl rfl ?_
        refine ae_imul (q := 110) dX7_next_109 rfl ?_
        refine ae_eqi e11 ?_
        refine ae_iload_n (q := 111) dX7_next_110 rfl rfl rfl ?_
        refine ae_iadd (q := 112) dX7_next_111 rfl ?_
        refine ae_eqi e12 ?_
        refine ae_dup2 (q := 113) dX7_next_112 rfl rfl rfl ?_
        refine ae_iald (q := 114) dX7_next_113 (h.s l307 t307) (h.l l307) (vin (by omega) (by omega)) rfl ?_
        obtain ⟨x23, e23⟩ : ∃ x, am_gi G3 307 x12.toNatClampNeg = x := ⟨_, rfl⟩
        refine ae_eqi e23 ?_
        refine ae_iconst (v := 1) (q := 115) dX7_next_114 (by decide) rfl ?_
        refine ae_iadd (q := 116) dX7_next_115 rfl ?_
        obtain ⟨x24, e24⟩ : ∃ z, x23 + 1 = z := ⟨_, rfl⟩
        refine ae_eqi e24 ?_
        refine ae_iast (q := 117) dX7_next_116 (h.s l307 t307) (h.l l307) (vin (by omega) (by omega)) rfl ?_
        refine ae_gen (fun G25 g25 => ?_)
        have h : jm N B 320 G25 := by rw [g25]; exact h.w t307 (by decide) (by decide) (by decide) inr_any
        have hd : am_gi G25 315 = am_gi H 315 := by rw [g25]; exact (gi_rowne (by decide)).trans hd
        have hf : am_gi G25 288 38 = am_gi H 288 38 := by rw [g25]; exact gi_si hf (fun q => absurd q.1 (by decide))
        have q25 : dl G25 = dl G3 := by rw [g25]; exact dl_ne (by decide) (by decide) (by decide) (fun q => absurd q.1 (by decide))
        refine ae_iinc (v := 1) (lv' := [(3, .int 1), (2, .int x4), (0, .ref 288), (1, .int a1)]) (q := 120) dX7_next_117 rfl (by decide) (by decide) rfl rfl ?_
        refine ae_goto (q := 82) dX7_next_120 (by decide) ?_
        refine ae_iload_n (q := 83) dX7_next_82 rfl rfl rfl ?_
        refine ae_iconst (v := 2) (q := 84) dX7_next_83 (by decide) rfl ?_
        refine ae_icmp_ge (t := 123) (q := 87) dX7_next_84 (by decide) rfl (fun h => absurd h (by decide)) (fun _ => ?_)
        refine ae_aload_n (q := 88) dX7_next_87 rfl rfl rfl ?_
        refine ae_getR (q := 91) dX7_next_88 fl_X7_59 rfl (h.s l288 t288) (h.l l288) (h.mr (k := 16) (b := 305) (by decide) rfl) rfl ?_
        refine ae_iconst (v := 2) (q := 92) dX7_next_91 (by decide) rfl ?_
        refine ae_iload_n (q := 93) dX7_next_92 rfl rfl rfl ?_
        refine ae_imul (q := 94) dX7_next_93 rfl ?_
        refine ae_eqi e11 ?_
        refine ae_iload_n (q := 95) dX7_next_94 rfl rfl rfl ?_
        refine ae_iadd (q := 96) dX7_next_95 rfl ?_
        obtain ⟨x26, e26⟩ : ∃ z, x11 + 1 = z := ⟨_, rfl⟩
        refine ae_eqi e26 ?_
        have f26 : x26.toInt = x11.toInt + 1 := by rw [← e26]; exact i_add rfl (by decide) (by omega) (by omega)
        refine ae_iald (q := 97) dX7_next_96 (h.s l305 t305) (h.l l305) (vin (by omega) (by omega)) rfl ?_
        obtain ⟨x27, e27⟩ : ∃ x, am_gi G25 305 x26.toNatClampNeg = x := ⟨_, rfl⟩
        refine ae_eqi e27 ?_
        refine ae_iconst (v := 2) (q := 98) dX7_next_97 (by decide) rfl ?_
        refine ae_iand (q := 99) dX7_next_98 rfl ?_
        obtain ⟨x28, e28⟩ : ∃ z, x27 &&& 2 = z := ⟨_, rfl⟩
        refine ae_eqi e28 ?_
        refine ae_iconst (v := 2) (q := 100) dX7_next_99 (by decide) rfl ?_
        refine ae_icmp_ne (t := 117) (q := 103) dX7_next_100 (by decide) rfl (fun c29 => ?_) (fun c29 => ?_)
        · have c29 := i_ne (a := x28.toInt) (b := 2) rfl (by decide) c29
          refine ae_iinc (v := 2) (lv' := [(3, .int 2), (2, .int x4), (0, .ref 288), (1, .int a1)]) (q := 120) dX7_next_117 rfl (by decide) (by decide) rfl rfl ?_
          refine ae_goto (q := 82) dX7_next_120 (by decide) ?_
          refine ae_iload_n (q := 83) dX7_next_82 rfl rfl rfl ?_
          refine ae_iconst (v := 2) (q := 84) dX7_next_83 (by decide) rfl ?_
          refine ae_icmp_ge (t := 123) (q := 87) dX7_next_84 (by decide) rfl (fun _ => ?_) (fun h => absurd h (by decide))
          exact ae_lv (lv' := [(2, .int x4), (0, .ref 288), (1, .int a1)]) ⟨rfl, rfl, rfl, trivial⟩ (lab123 _ h hd hf (by omega))
        · have c29 := i_eq (a := x28.toInt) (b := 2) rfl (by decide) c29
          refine ae_aload_n (q := 104) dX7_next_103 rfl rfl rfl ?_
          refine ae_getR (q := 107) dX7_next_104 fl_X7_65 rfl (h.s l288 t288) (h.l l288) (h.mr (k := 18) (b := 307) (by decide) rfl) rfl ?_
          refine ae_iconst (v := 2) (q := 108) dX7_next_107 (by decide) rfl ?_
          refine ae_iload_n (q := 109) dX7_next_108 rfl rfl rfl ?_
          refine ae_imul (q := 110) dX7_next_109 rfl ?_
          refine ae_eqi e11 ?_
          refine ae_iload_n (q := 111) dX7_next_110 rfl rfl rfl ?_
          refine ae_iadd (q := 112) dX7_next_111 rfl ?_
          refine ae_eqi e26 ?_
          refine ae_dup2 (q := 113) dX7_next_112 rfl rfl rfl ?_
          refine ae_iald (q := 114) dX7_next_113 (h.s l307 t307) (h.l l307) (vin (by omega) (by omega)) rfl ?_
          obtain ⟨x30, e30⟩ : ∃ x, am_gi G25 307 x26.toNatClampNeg = x := ⟨_, rfl⟩
          refine ae_eqi e30 ?_
          refine ae_iconst (v := 1) (q := 115) dX7_next_114 (by decide) rfl ?_
          refine ae_iadd (q := 116) dX7_next_115 rfl ?_
          obtain ⟨x31, e31⟩ : ∃ z, x30 + 1 = z := ⟨_, rfl⟩
          refine ae_eqi e31 ?_
          refine ae_iast (q := 117) dX7_next_116 (h.s l307 t307) (h.l l307) (vin (by omega) (by omega)) rfl ?_
          refine ae_gen (fun G32 g32 => ?_)
          have h : jm N B 320 G32 := by rw [g32]; exact h.w t307 (by decide) (by decide) (by decide) inr_any
          have hd : am_gi G32 315 = am_gi H 315 := by rw [g32]; exact (gi_rowne (by decide)).trans hd
          have hf : am_gi G32 288 38 = am_gi H 288 38 := by rw [g32]; exact gi_si hf (fun q => absurd q.1 (by decide))
          have q32 : dl G32 = dl G25 := by rw [g32]; exact dl_ne (by decide) (by decide) (by decide) (fun q => absurd q.1 (by decide))
          refine ae_iinc (v := 2) (lv' := [(3, .int 2), (2, .int x4), (0, .ref 288), (1, .int a1)]) (q := 120) dX7_next_117 rfl (by decide) (by decide) rfl rfl ?_
          refine ae_goto (q := 82) dX7_next_120 (by decide) ?_
          refine ae_iload_n (q := 83) dX7_next_82 rfl rfl rfl ?_
          refine ae_iconst (v := 2) (q := 84) dX7_next_83 (by decide) rfl ?_
          refine ae_icmp_ge (t := 123) (q := 87) dX7_next_84 (by decide) rfl (fun _ => ?_) (fun h => absurd h (by decide))
          exact ae_lv (lv' := [(2, .int x4), (0, .ref 288), (1, .int a1)]) ⟨rfl, rfl, rfl, trivial⟩ (lab123 _ h hd hf (by omega))
    · have c5 := i_eq (a := x4.toInt) (b := 0) rfl (by decide) c5
      refine ae_aload_n (q := 74) dX7_next_73 rfl rfl rfl ?_
      refine ae_iload_n (q := 75) dX7_next_74 rfl rfl rfl ?_
      refine ae_iconst (v := 2) (q := 76) dX7_next_75 (by decide) rfl ?_
      refine ae_callV (ci := 7) (as := [.int a1, .int 2]) (b := 288) (st := []) (q := 79) dX7_next_76 (c_X7_set (N := N) (d := d) h (by omega) (by omega) (by decide) (by decide)) myX7_set lk_X7_163 im_X7_set se_X7_set rfl (by decide) (h.s l288 t288) (h.l l288) rfl rfl (Nat.le_of_ble_eq_true rfl) rfl (fun o H1 hh => ⟨_, hh.1⟩) (fun vv G33 hv => ?_)
      obtain ⟨o33, z33⟩ := hv
      cases o33
      obtain ⟨z33, w33⟩ := z33
      refine ⟨Or.inl (z33.nx.trans h.nx.symm), ?_⟩
      have h : jm N B 320 G33 := z33
      clear z33
      obtain ⟨wa33, wb33, q33, ws33⟩ := w33
      have hd : am_gi G33 315 = am_gi H 315 := wa33.trans hd
      have hf : am_gi G33 288 38 = am_gi H 288 38 := wb33.trans hf
      refine ae_vret dX7_next_79 rfl ?_
      exact ⟨rfl, ⟨(h.up (by omega)), hd, hf, (Or.inr ⟨by omega, by rw [ws33]; decide⟩)⟩⟩
  refine ae_iconst (v := 0) (q := 1) dX7_next_0 (by decide) rfl ?_
  refine ae_istore_n (lv' := [(2, .int 0), (0, .ref 288), (1, .int a1)]) (q := 2) dX7_next_1 rfl (by decide) rfl rfl ?_
  refine ae_iload_n (q := 3) dX7_next_2 rfl rfl rfl ?_
  refine ae_iconst (v := 2) (q := 4) dX7_next_3 (by decide) rfl ?_
  refine ae_icmp_ge (t := 52) (q := 7) dX7_next_4 (by decide) rfl (fun h => absurd h (by decide)) (fun _ => ?_)
  refine ae_aload_n (q := 8) dX7_next_7 rfl rfl rfl ?_
  refine ae_getR (q := 11) dX7_next_8 fl_X7_53 rfl (h.s l288 t288) (h.l l288) (h.mr (k := 14) (b := 303) (by decide) rfl) rfl ?_
  refine ae_iload_n (q := 12) dX7_next_11 rfl rfl rfl ?_
  refine ae_zald (q := 13) dX7_next_12 (h.s l303 t303) (h.l l303) (vin (by omega) (by omega)) rfl ?_
  obtain ⟨x34, e34, u34, v34⟩ := rdi (h.i l303 t303 (k := a1.toNatClampNeg) (p := (0, 1)) rfl)
  refine ae_eqi e34 ?_
  refine ae_if_ne (t := 52) (q := 16) dX7_next_13 (by decide) rfl (fun c35 => ?_) (fun c35 => ?_)
  · have c35 := i_ne (a := x34.toInt) (b := 0) rfl (by decide) c35
    exact ae_lv (lv' := [(0, .ref 288), (1, .int a1)]) ⟨rfl, rfl, trivial⟩ (lab52 _ h hd hf (by omega))
  · have c35 := i_eq (a := x34.toInt) (b := 0) rfl (by decide) c35
    refine ae_aload_n (q := 17) dX7_next_16 rfl rfl rfl ?_
    refine ae_getR (q := 20) dX7_next_17 fl_X7_59 rfl (h.s l288 t288) (h.l l288) (h.mr (k := 16) (b := 305) (by decide) rfl) rfl ?_
    refine ae_iconst (v := 2) (q := 21) dX7_next_20 (by decide) rfl ?_
    refine ae_iload_n (q := 22) dX7_next_21 rfl rfl rfl ?_
    refine ae_imul (q := 23) dX7_next_22 rfl ?_
    obtain ⟨x36, e36⟩ : ∃ z, 2 * a1 = z := ⟨_, rfl⟩
    refine ae_eqi e36 ?_
    have f36 : x36.toInt = 2 * a1.toInt := by rw [← e36]; exact i_mul (by decide) rfl (by omega) (by omega)
    refine ae_iload_n (q := 24) dX7_next_23 rfl rfl rfl ?_
    refine ae_iadd (q := 25) dX7_next_24 rfl ?_
    obtain ⟨x37, e37⟩ : ∃ z, x36 + 0 = z := ⟨_, rfl⟩
    refine ae_eqi e37 ?_
    have f37 : x37.toInt = x36.toInt + 0 := by rw [← e37]; exact i_add rfl (by decide) (by omega) (by omega)
    refine ae_iald (q := 26) dX7_next_25 (h.s l305 t305) (h.l l305) (vin (by omega) (by omega)) rfl ?_
    obtain ⟨x38, e38⟩ : ∃ x, am_gi H 305 x37.toNatClampNeg = x := ⟨_, rfl⟩
    refine ae_eqi e38 ?_
    refine ae_iconst (v := 1) (q := 27) dX7_next_26 (by decide) rfl ?_
    refine ae_iand (q := 28) dX7_next_27 rfl ?_
    obtain ⟨x39, e39⟩ : ∃ z, x38 &&& 1 = z := ⟨_, rfl⟩
    refine ae_eqi e39 ?_
    refine ae_iconst (v := 1) (q := 29) dX7_next_28 (by decide) rfl ?_
    refine ae_icmp_ne (t := 46) (q := 32) dX7_next_29 (by decide) rfl (fun c40 => ?_) (fun c40 => ?_)
    · have c40 := i_ne (a := x39.toInt) (b := 1) rfl (by decide) c40
      refine ae_iinc (v := 1) (lv' := [(2, .int 1), (0, .ref 288), (1, .int a1)]) (q := 49) dX7_next_46 rfl (by decide) (by decide) rfl rfl ?_
      refine ae_goto (q := 2) dX7_next_49 (by decide) ?_
      refine ae_iload_n (q := 3) dX7_next_2 rfl rfl rfl ?_
      refine ae_iconst (v := 2) (q := 4) dX7_next_3 (by decide) rfl ?_
      refine ae_icmp_ge (t := 52) (q := 7) dX7_next_4 (by decide) rfl (fun h => absurd h (by decide)) (fun _ => ?_)
      refine ae_aload_n (q := 8) dX7_next_7 rfl rfl rfl ?_
      refine ae_getR (q := 11) dX7_next_8 fl_X7_53 rfl (h.s l288 t288) (h.l l288) (h.mr (k := 14) (b := 303) (by decide) rfl) rfl ?_
      refine ae_iload_n (q := 12) dX7_next_11 rfl rfl rfl ?_
      refine ae_zald (q := 13) dX7_next_12 (h.s l303 t303) (h.l l303) (vin (by omega) (by omega)) rfl ?_
      refine ae_eqi e34 ?_
      refine ae_if_ne (t := 52) (q := 16) dX7_next_13 (by decide) rfl (fun c41 => ?_) (fun c41 => ?_)
      · have c41 := i_ne (a := x34.toInt) (b := 0) rfl (by decide) c41
        exfalso; omega
      · have c41 := i_eq (a := x34.toInt) (b := 0) rfl (by decide) c41
        refine ae_aload_n (q := 17) dX7_next_16 rfl rfl rfl ?_
        refine ae_getR (q := 20) dX7_next_17 fl_X7_59 rfl (h.s l288 t288) (h.l l288) (h.mr (k := 16) (b := 305) (by decide) rfl) rfl ?_
        refine ae_iconst (v := 2) (q := 21) dX7_next_20 (by decide) rfl ?_
        refine ae_iload_n (q := 22) dX7_next_21 rfl rfl rfl ?_
        refine ae_imul (q := 23) dX7_next_22 rfl ?_
        refine ae_eqi e36 ?_
        refine ae_iload_n (q := 24) dX7_next_23 rfl rfl rfl ?_
        refine ae_iadd (q := 25) dX7_next_24 rfl ?_
        obtain ⟨x42, e42⟩ : ∃ z, x36 + 1 = z := ⟨_, rfl⟩
        refine ae_eqi e42 ?_
        have f42 : x42.toInt = x36.toInt + 1 := by rw [← e42]; exact i_add rfl (by decide) (by omega) (by omega)
        refine ae_iald (q := 26) dX7_next_25 (h.s l305 t305) (h.l l305) (vin (by omega) (by omega)) rfl ?_
        obtain ⟨x43, e43⟩ : ∃ x, am_gi H 305 x42.toNatClampNeg = x := ⟨_, rfl⟩
        refine ae_eqi e43 ?_
        refine ae_iconst (v := 1) (q := 27) dX7_next_26 (by decide) rfl ?_
        refine ae_iand (q := 28) dX7_next_27 rfl ?_
        obtain ⟨x44, e44⟩ : ∃ z, x43 &&& 1 = z := ⟨_, rfl⟩
        refine ae_eqi e44 ?_
        refine ae_iconst (v := 1) (q := 29) dX7_next_28 (by decide) rfl ?_
        refine ae_icmp_ne (t := 46) (q := 32) dX7_next_29 (by decide) rfl (fun c45 => ?_) (fun c45 => ?_)
        · have c45 := i_ne (a := x44.toInt) (b := 1) rfl (by decide) c45
          refine ae_iinc (v := 2) (lv' := [(2, .int 2), (0, .ref 288), (1, .int a1)]) (q := 49) dX7_next_46 rfl (by decide) (by decide) rfl rfl ?_
          refine ae_goto (q := 2) dX7_next_49 (by decide) ?_
          refine ae_iload_n (q := 3) dX7_next_2 rfl rfl rfl ?_
          refine ae_iconst (v := 2) (q := 4) dX7_next_3 (by decide) rfl ?_
          refine ae_icmp_ge (t := 52) (q := 7) dX7_next_4 (by decide) rfl (fun _ => ?_) (fun h => absurd h (by decide))
          exact ae_lv (lv' := [(0, .ref 288), (1, .int a1)]) ⟨rfl, rfl, trivial⟩ (lab52 _ h hd hf (by omega))
        · have c45 := i_eq (a := x44.toInt) (b := 1) rfl (by decide) c45
          refine ae_aload_n (q := 33) dX7_next_32 rfl rfl rfl ?_
          refine ae_getR (q := 36) dX7_next_33 fl_X7_62 rfl (h.s l288 t288) (h.l l288) (h.mr (k := 17) (b := 306) (by decide) rfl) rfl ?_
          refine ae_iconst (v := 2) (q := 37) dX7_next_36 (by decide) rfl ?_
          refine ae_iload_n (q := 38) dX7_next_37 rfl rfl rfl ?_
          refine ae_imul (q := 39) dX7_next_38 rfl ?_
          refine ae_eqi e36 ?_
          refine ae_iload_n (q := 40) dX7_next_39 rfl rfl rfl ?_
          refine ae_iadd (q := 41) dX7_next_40 rfl ?_
          refine ae_eqi e42 ?_
          refine ae_dup2 (q := 42) dX7_next_41 rfl rfl rfl ?_
          refine ae_iald (q := 43) dX7_next_42 (h.s l306 t306) (h.l l306) (vin (by omega) (by omega)) rfl ?_
          obtain ⟨x46, e46⟩ : ∃ x, am_gi H 306 x42.toNatClampNeg = x := ⟨_, rfl⟩
          refine ae_eqi e46 ?_
          refine ae_iconst (v := 1) (q := 44) dX7_next_43 (by decide) rfl ?_
          refine ae_iadd (q := 45) dX7_next_44 rfl ?_
          obtain ⟨x47, e47⟩ : ∃ z, x46 + 1 = z := ⟨_, rfl⟩
          refine ae_eqi e47 ?_
          refine ae_iast (q := 46) dX7_next_45 (h.s l306 t306) (h.l l306) (vin (by omega) (by omega)) rfl ?_
          refine ae_gen (fun G48 g48 => ?_)
          have h : jm N B 320 G48 := by rw [g48]; exact h.w t306 (by decide) (by decide) (by decide) inr_any
          have hd : am_gi G48 315 = am_gi H 315 := by rw [g48]; exact (gi_rowne (by decide)).trans hd
          have hf : am_gi G48 288 38 = am_gi H 288 38 := by rw [g48]; exact gi_si hf (fun q => absurd q.1 (by decide))
          have q48 : dl G48 = dl H := by rw [g48]; exact dl_ne (by decide) (by decide) (by decide) (fun q => absurd q.1 (by decide))
          refine ae_iinc (v := 2) (lv' := [(2, .int 2), (0, .ref 288), (1, .int a1)]) (q := 49) dX7_next_46 rfl (by decide) (by decide) rfl rfl ?_
          refine ae_goto (q := 2) dX7_next_49 (by decide) ?_
          refine ae_iload_n (q := 3) dX7_next_2 rfl rfl rfl ?_
          refine ae_iconst (v := 2) (q := 4) dX7_next_3 (by decide) rfl ?_
          refine ae_icmp_ge (t := 52) (q := 7) dX7_next_4 (by decide) rfl (fun _ => ?_) (fun h => absurd h (by decide))
          exact ae_lv (lv' := [(0, .ref 288), (1, .int a1)]) ⟨rfl, rfl, trivial⟩ (lab52 _ h hd hf (by omega))
    · have c40 := i_eq (a := x39.toInt) (b := 1) rfl (by decide) c40
      refine ae_aload_n (q := 33) dX7_next_32 rfl rfl rfl ?_
      refine ae_getR (q := 36) dX7_next_33 fl_X7_62 rfl (h.s l288 t288) (h.l l288) (h.mr (k := 17) (b := 306) (by decide) rfl) rfl ?_
      refine ae_iconst (v := 2) (q := 37) dX7_next_36 (by decide) rfl ?_
      refine ae_iload_n (q := 38) dX7_next_37 rfl rfl rfl ?_
      refine ae_imul (q := 39) dX7_next_38 rfl ?_
      refine ae_eqi e36 ?_
      refine ae_iload_n (q := 40) dX7_next_39 rfl rfl rfl ?_
      refine ae_iadd (q := 41) dX7_next_40 rfl ?_
      refine ae_eqi e37 ?_
      refine ae_dup2 (q := 42) dX7_next_41 rfl rfl rfl ?_
      refine ae_iald (q := 43) dX7_next_42 (h.s l306 t306) (h.l l306) (vin (by omega) (by omega)) rfl ?_
      obtain ⟨x49, e49⟩ : ∃ x, am_gi H 306 x37.toNatClampNeg = x := ⟨_, rfl⟩
      refine ae_eqi e49 ?_
      refine ae_iconst (v := 1) (q := 44) dX7_next_43 (by decide) rfl ?_
      refine ae_iadd (q := 45) dX7_next_44 rfl ?_
      obtain ⟨x50, e50⟩ : ∃ z, x49 + 1 = z := ⟨_, rfl⟩
      refine ae_eqi e50 ?_
      refine ae_iast (q := 46) dX7_next_45 (h.s l306 t306) (h.l l306) (vin (by omega) (by omega)) rfl ?_
      refine ae_gen (fun G51 g51 => ?_)
      have h : jm N B 320 G51 := by rw [g51]; exact h.w t306 (by decide) (by decide) (by decide) inr_any
      have hd : am_gi G51 315 = am_gi H 315 := by rw [g51]; exact (gi_rowne (by decide)).trans hd
      have hf : am_gi G51 288 38 = am_gi H 288 38 := by rw [g51]; exact gi_si hf (fun q => absurd q.1 (by decide))
      have q51 : dl G51 = dl H := by rw [g51]; exact dl_ne (by decide) (by decide) (by decide) (fun q => absurd q.1 (by decide))
      refine ae_iinc (v := 1) (lv' := [(2, .int 1), (0, .ref 288), (1, .int a1)]) (q := 49) dX7_next_46 rfl (by decide) (by decide) rfl rfl ?_
      refine ae_goto (q := 2) dX7_next_49 (by decide) ?_
      refine ae_iload_n (q := 3) dX7_next_2 rfl rfl rfl ?_
      refine ae_iconst (v := 2) (q := 4) dX7_next_3 (by decide) rfl ?_
      refine ae_icmp_ge (t := 52) (q := 7) dX7_next_4 (by decide) rfl (fun h => absurd h (by decide)) (fun _ => ?_)
      refine ae_aload_n (q := 8) dX7_next_7 rfl rfl rfl ?_
      refine ae_getR (q := 11) dX7_next_8 fl_X7_53 rfl (h.s l288 t288) (h.l l288) (h.mr (k := 14) (b := 303) (by decide) rfl) rfl ?_
      refine ae_iload_n (q := 12) dX7_next_11 rfl rfl rfl ?_
      refine ae_zald (q := 13) dX7_next_12 (h.s l303 t303) (h.l l303) (vin (by omega) (by omega)) rfl ?_
      have m52 : am_gi G51 303 a1.toNatClampNeg = x34 := by rw [g51]; exact gi_si e34 (fun q => absurd q.1 (by decide))
      refine ae_eqi m52 ?_
      refine ae_if_ne (t := 52) (q := 16) dX7_next_13 (by decide) rfl (fun c53 => ?_) (fun c53 => ?_)
      · have c53 := i_ne (a := x34.toInt) (b := 0) rfl (by decide) c53
        exfalso; omega
      · have c53 := i_eq (a := x34.toInt) (b := 0) rfl (by decide) c53
        refine ae_aload_n (q := 17) dX7_next_16 rfl rfl rfl ?_
        refine ae_getR (q := 20) dX7_next_17 fl_X7_59 rfl (h.s l288 t288) (h.l l288) (h.mr (k := 16) (b := 305) (by decide) rfl) rfl ?_
        refine ae_iconst (v := 2) (q := 21) dX7_next_20 (by decide) rfl ?_
        refine ae_iload_n (q := 22) dX7_next_21 rfl rfl rfl ?_
        refine ae_imul (q := 23) dX7_next_22 rfl ?_
        refine ae_eqi e36 ?_
        refine ae_iload_n (q := 24) dX7_next_23 rfl rfl rfl ?_
        refine ae_iadd (q := 25) dX7_next_24 rfl ?_
        obtain ⟨x54, e54⟩ : ∃ z, x36 + 1 = z := ⟨_, rfl⟩
        refine ae_eqi e54 ?_
        have f54 : x54.toInt = x36.toInt + 1 := by rw [← e54]; exact i_add rfl (by decide) (by omega) (by omega)
        refine ae_iald (q := 26) dX7_next_25 (h.s l305 t305) (h.l l305) (vin (by omega) (by omega)) rfl ?_
        obtain ⟨x55, e55⟩ : ∃ x, am_gi G51 305 x54.toNatClampNeg = x := ⟨_, rfl⟩
        refine ae_eqi e55 ?_
        refine ae_iconst (v := 1) (q := 27) dX7_next_26 (by decide) rfl ?_
        refine ae_iand (q := 28) dX7_next_27 rfl ?_
        obtain ⟨x56, e56⟩ : ∃ z, x55 &&& 1 = z := ⟨_, rfl⟩
        refine ae_eqi e56 ?_
        refine ae_iconst (v := 1) (q := 29) dX7_next_28 (by decide) rfl ?_
        refine ae_icmp_ne (t := 46) (q := 32) dX7_next_29 (by decide) rfl (fun c57 => ?_) (fun c57 => ?_)
        · have c57 := i_ne (a := x56.toInt) (b := 1) rfl (by decide) c57
          refine ae_iinc (v := 2) (lv' := [(2, .int 2), (0, .ref 288), (1, .int a1)]) (q := 49) dX7_next_46 rfl (by decide) (by decide) rfl rfl ?_
          refine ae_goto (q := 2) dX7_next_49 (by decide) ?_
          refine ae_iload_n (q := 3) dX7_next_2 rfl rfl rfl ?_
          refine ae_iconst (v := 2) (q := 4) dX7_next_3 (by decide) rfl ?_
          refine ae_icmp_ge (t := 52) (q := 7) dX7_next_4 (by decide) rfl (fun _ => ?_) (fun h => absurd h (by decide))
          exact ae_lv (lv' := [(0, .ref 288), (1, .int a1)]) ⟨rfl, rfl, trivial⟩ (lab52 _ h hd hf (by omega))
        · have c57 := i_eq (a := x56.toInt) (b := 1) rfl (by decide) c57
          refine ae_aload_n (q := 33) dX7_next_32 rfl rfl rfl ?_
          refine ae_getR (q := 36) dX7_next_33 fl_X7_62 rfl (h.s l288 t288) (h.l l288) (h.mr (k := 17) (b := 306) (by decide) rfl) rfl ?_
          refine ae_iconst (v := 2) (q := 37) dX7_next_36 (by decide) rfl ?_
          refine ae_iload_n (q := 38) dX7_next_37 rfl rfl rfl ?_
          refine ae_imul (q := 39) dX7_next_38 rfl ?_
          refine ae_eqi e36 ?_
          refine ae_iload_n (q := 40) dX7_next_39 rfl rfl rfl ?_
          refine ae_iadd (q := 41) dX7_next_40 rfl ?_
          refine ae_eqi e54 ?_
          refine ae_dup2 (q := 42) dX7_next_41 rfl rfl rfl ?_
          refine ae_iald (q := 43) dX7_next_42 (h.s l306 t306) (h.l l306) (vin (by omega) (by omega)) rfl ?_
          obtain ⟨x58, e58⟩ : ∃ x, am_gi G51 306 x54.toNatClampNeg = x := ⟨_, rfl⟩
          refine ae_eqi e58 ?_
          refine ae_iconst (v := 1) (q := 44) dX7_next_43 (by decide) rfl ?_
          refine ae_iadd (q := 45) dX7_next_44 rfl ?_
          obtain ⟨x59, e59⟩ : ∃ z, x58 + 1 = z := ⟨_, rfl⟩
          refine ae_eqi e59 ?_
          refine ae_iast (q := 46) dX7_next_45 (h.s l306 t306) (h.l l306) (vin (by omega) (by omega)) rfl ?_
          refine ae_gen (fun G60 g60 => ?_)
          have h : jm N B 320 G60 := by rw [g60]; exact h.w t306 (by decide) (by decide) (by decide) inr_any
          have hd : am_gi G60 315 = am_gi H 315 := by rw [g60]; exact (gi_rowne (by decide)).trans hd
          have hf : am_gi G60 288 38 = am_gi H 288 38 := by rw [g60]; exact gi_si hf (fun q => absurd q.1 (by decide))
          have q60 : dl G60 = dl G51 := by rw [g60]; exact dl_ne (by decide) (by decide) (by decide) (fun q => absurd q.1 (by decide))
          refine ae_iinc (v := 2) (lv' := [(2, .int 2), (0, .ref 288), (1, .int a1)]) (q := 49) dX7_next_46 rfl (by decide) (by decide) rfl rfl ?_
          refine ae_goto (q := 2) dX7_next_49 (by decide) ?_
          refine ae_iload_n (q := 3) dX7_next_2 rfl rfl rfl ?_
          refine ae_iconst (v := 2) (q := 4) dX7_next_3 (by decide) rfl ?_
          refine ae_icmp_ge (t := 52) (q := 7) dX7_next_4 (by decide) rfl (fun _ => ?_) (fun h => absurd h (by decide))
          exact ae_lv (lv' := [(0, .ref 288), (1, .int a1)]) ⟨rfl, rfl, trivial⟩ (lab52 _ h hd hf (by omega))
set_option maxRecDepth 100000 in
set_option maxHeartbeats 4000000 in
theorem c_X7_join_10 {ox : List (Nat × (Nat → Int32))} {d N : Nat} {B H : am_H} {a1 : Int32} {a3 : Int32} (hN : N + 0 ≤ 1000000) (h : jm N B 320 H) (u_1 : 0 ≤ a1.toInt) (v_1 : a1.toInt ≤ 47) (u_3 : 0 ≤ a3.toInt) (v_3 : a3.toInt ≤ 7) : am_DB 0 ox (d + 3) yX7_join mX7_join [.ref 288, .int a1, .int 10, .int a3] H (fun o H1 => o = .inl none ∧ jm (N + 1) B 320 H1 ∧ ac a1.toNatClampNeg H H1) := by
  refine ae_enter rfl rfl rfl rfl (Nat.le_of_ble_eq_true rfl) ?_
  show am_EB 0 ox (d + 3) mX7_join 0 [(0, .ref 288), (1, .int a1), (2, .int 10), (3, .int a3)] [] H _
  have hd : am_gi H 315 = am_gi H 315 := rfl
  have hf : am_gi H 288 38 = am_gi H 288 38 := rfl
  refine ae_iload_n (q := 1) dX7_join_0 rfl rfl rfl ?_
  refine ae_bipush (v := 10) (q := 3) dX7_join_1 (by decide) rfl ?_
  refine ae_icmp_ne (t := 12) (q := 6) dX7_join_3 (by decide) rfl (fun h => absurd h (by decide)) (fun _ => ?_)
  refine ae_iload_n (q := 7) dX7_join_6 rfl rfl rfl ?_
  refine ae_iconst (v := 4) (q := 8) dX7_join_7 (by decide) rfl ?_
  refine ae_idiv (q := 9) dX7_join_8 (by decide) rfl ?_
  obtain ⟨x1, e1⟩ : ∃ z, a3 / 4 = z := ⟨_, rfl⟩
  refine ae_eqi e1 ?_
  have f1 : x1.toInt = a3.toInt / 4 := by rw [← e1]; exact i_div rfl (by decide) (by omega) (by omega)
  refine ae_goto (q := 13) dX7_join_9 (by decide) ?_
  refine ae_istore (lv' := [(4, .int x1), (0, .ref 288), (1, .int a1), (2, .int 10), (3, .int a3)]) (q := 15) dX7_join_13 (by decide) rfl rfl ?_
  refine ae_iload_n (q := 16) dX7_join_15 rfl rfl rfl ?_
  refine ae_bipush (v := 10) (q := 18) dX7_join_16 (by decide) rfl ?_
  refine ae_icmp_ne (t := 27) (q := 21) dX7_join_18 (by decide) rfl (fun h => absurd h (by decide)) (fun _ => ?_)
  refine ae_iload_n (q := 22) dX7_join_21 rfl rfl rfl ?_
  refine ae_iconst (v := 4) (q := 23) dX7_join_22 (by decide) rfl ?_
  refine ae_irem (q := 24) dX7_join_23 (by decide) rfl ?_
  obtain ⟨x2, e2⟩ : ∃ z, a3 - a3 / 4 * 4 = z := ⟨_, rfl⟩
  refine ae_eqi e2 ?_
  have f2 : x2.toInt = a3.toInt % 4 ∧ 0 ≤ a3.toInt % 4 ∧ a3.toInt % 4 < 4 := by rw [← e2]; exact i_rem rfl (by decide) (by omega) (by omega)
  obtain ⟨f2, g2, k2⟩ := f2
  have a2 : 0 ≤ x2.toInt := by rw [f2]; exact g2
  have b2 : x2.toInt < 4 := by rw [f2]; exact k2
  clear g2 k2
  refine ae_goto (q := 28) dX7_join_24 (by decide) ?_
  refine ae_istore (lv' := [(5, .int x2), (4, .int x1), (0, .ref 288), (1, .int a1), (2, .int 10), (3, .int a3)]) (q := 30) dX7_join_28 (by decide) rfl rfl ?_
  refine ae_iconst (v := 2) (q := 31) dX7_join_30 (by decide) rfl ?_
  refine ae_iload_n (q := 32) dX7_join_31 rfl rfl rfl ?_
  refine ae_imul (q := 33) dX7_join_32 rfl ?_
  obtain ⟨x3, e3⟩ : ∃ z, 2 * a1 = z := ⟨_, rfl⟩
  refine ae_eqi e3 ?_
  have f3 : x3.toInt = 2 * a1.toInt := by rw [← e3]; exact i_mul (by decide) rfl (by omega) (by omega)
  refine ae_iload (q := 35) dX7_join_33 rfl rfl ?_
  refine ae_iadd (q := 36) dX7_join_35 rfl ?_
  obtain ⟨x4, e4⟩ : ∃ z, x3 + x1 = z := ⟨_, rfl⟩
  refine ae_eqi e4 ?_
  have f4 : x4.toInt = x3.toInt + x1.toInt := by rw [← e4]; exact i_add rfl rfl (by omega) (by omega)
  refine ae_istore (lv' := [(6, .int x4), (5, .int x2), (4, .int x1), (0, .ref 288), (1, .int a1), (2, .int 10), (3, .int a3)]) (q := 38) dX7_join_36 (by decide) rfl rfl ?_
  refine ae_iload_n (q := 39) dX7_join_38 rfl rfl rfl ?_
  refine ae_bipush (v := 10) (q := 41) dX7_join_39 (by decide) rfl ?_
  refine ae_icmp_ne (t := 62) (q := 44) dX7_join_41 (by decide) rfl (fun h => absurd h (by decide)) (fun _ => ?_)
  refine ae_aload_n (q := 45) dX7_join_44 rfl rfl rfl ?_
  refine ae_getR (q := 48) dX7_join_45 fl_X7_59 rfl (h.s l288 t288) (h.l l288) (h.mr (k := 16) (b := 305) (by decide) rfl) rfl ?_
  refine ae_iload (q := 50) dX7_join_48 rfl rfl ?_
  refine ae_iald (q := 51) dX7_join_50 (h.s l305 t305) (h.l l305) (vin (by omega) (by omega)) rfl ?_
  obtain ⟨x5, e5⟩ : ∃ x, am_gi H 305 x4.toNatClampNeg = x := ⟨_, rfl⟩
  refine ae_eqi e5 ?_
  refine ae_if_gt (t := 72) (q := 54) dX7_join_51 (by decide) rfl (fun c6 => ?_) (fun c6 => ?_)
  · have c6 := i_lt (a := 0) (b := x5.toInt) (by decide) rfl c6
    refine ae_aload_n (q := 73) dX7_join_72 rfl rfl rfl ?_
    refine ae_iload_n (q := 74) dX7_join_73 rfl rfl rfl ?_
    refine ae_iconst (v := 3) (q := 75) dX7_join_74 (by decide) rfl ?_
    refine ae_callV (ci := 7) (as := [.int a1, .int 3]) (b := 288) (st := []) (q := 78) dX7_join_75 (c_X7_raise (N := N) (d := d) h (by omega) (by omega)) myX7_raise lk_X7_176 im_X7_raise se_X7_raise rfl (by decide) (h.s l288 t288) (h.l l288) rfl rfl (Nat.le_of_ble_eq_true rfl) rfl (fun o H1 hh => ⟨_, hh.1⟩) (fun vv G7 hv => ?_)
    obtain ⟨o7, z7⟩ := hv
    cases o7
    obtain ⟨z7, w7⟩ := z7
    refine ⟨Or.inl (z7.nx.trans h.nx.symm), ?_⟩
    have h : jm N B 320 G7 := z7
    clear z7
    obtain ⟨wa7, wb7, q7⟩ := w7
    have hd : am_gi G7 315 = am_gi H 315 := wa7.trans hd
    have hf : am_gi G7 288 38 = am_gi H 288 38 := wb7.trans hf
    refine ae_vret dX7_join_78 rfl ?_
    exact ⟨rfl, ⟨(h.up (by omega)), hd, hf, (q7.elim (fun q => Or.inl (by omega)) (fun q => Or.inr ⟨by omega, q.2⟩))⟩⟩
  · have c6 := i_nlt (a := 0) (b := x5.toInt) (by decide) rfl c6
    refine ae_iload (q := 56) dX7_join_54 rfl rfl ?_
    refine ae_if_ne (t := 79) (q := 59) dX7_join_56 (by decide) rfl (fun c8 => ?_) (fun c8 => ?_)
    · have c8 := i_ne (a := x2.toInt) (b := 0) rfl (by decide) c8
      refine ae_aload_n (q := 80) dX7_join_79 rfl rfl rfl ?_
      refine ae_getR (q := 83) dX7_join_80 fl_X7_59 rfl (h.s l288 t288) (h.l l288) (h.mr (k := 16) (b := 305) (by decide) rfl) rfl ?_
      refine ae_iload (q := 85) dX7_join_83 rfl rfl ?_
      refine ae_iload (q := 87) dX7_join_85 rfl rfl ?_
      refine ae_iast (q := 88) dX7_join_87 (h.s l305 t305) (h.l l305) (vin (by omega) (by omega)) rfl ?_
      refine ae_gen (fun G9 g9 => ?_)
      have h : jm N B 320 G9 := by rw [g9]; exact h.w t305 (by decide) (by decide) (by decide) inr_any
      have hd : am_gi G9 315 = am_gi H 315 := by rw [g9]; exact (gi_rowne (by decide)).trans hd
      have hf : am_gi G9 288 38 = am_gi H 288 38 := by rw [g9]; exact gi_si hf (fun q => absurd q.1 (by decide))
      have q9 : dl G9 = dl H := by rw [g9]; exact dl_ne (by decide) (by decide) (by decide) (fun q => absurd q.1 (by decide))
      refine ae_aload_n (q := 89) dX7_join_88 rfl rfl rfl ?_
      refine ae_getR (q := 92) dX7_join_89 fl_X7_62 rfl (h.s l288 t288) (h.l l288) (h.mr (k := 17) (b := 306) (by decide) rfl) rfl ?_
      refine ae_iload (q := 94) dX7_join_92 rfl rfl ?_
      refine ae_aload_n (q := 95) dX7_join_94 rfl rfl rfl ?_
      refine ae_getR (q := 98) dX7_join_95 fl_X7_68 rfl (h.s l288 t288) (h.l l288) (h.mr (k := 19) (b := 308) (by decide) rfl) rfl ?_
      refine ae_iload (q := 100) dX7_join_98 rfl rfl ?_
      refine ae_iald (q := 101) dX7_join_100 (h.s l308 t308) (h.l l308) (vin (by omega) (by omega)) rfl ?_
      obtain ⟨x10, e10⟩ : ∃ x, am_gi G9 308 x1.toNatClampNeg = x := ⟨_, rfl⟩
      refine ae_eqi e10 ?_
      refine ae_iast (q := 102) dX7_join_101 (h.s l306 t306) (h.l l306) (vin (by omega) (by omega)) rfl ?_
      refine ae_gen (fun G11 g11 => ?_)
      have h : jm N B 320 G11 := by rw [g11]; exact h.w t306 (by decide) (by decide) (by decide) inr_any
      have hd : am_gi G11 315 = am_gi H 315 := by rw [g11]; exact (gi_rowne (by decide)).trans hd
      have hf : am_gi G11 288 38 = am_gi H 288 38 := by rw [g11]; exact gi_si hf (fun q => absurd q.1 (by decide))
      have q11 : dl G11 = dl G9 := by rw [g11]; exact dl_ne (by decide) (by decide) (by decide) (fun q => absurd q.1 (by decide))
      refine ae_aload_n (q := 103) dX7_join_102 rfl rfl rfl ?_
      refine ae_getR (q := 106) dX7_join_103 fl_X7_65 rfl (h.s l288 t288) (h.l l288) (h.mr (k := 18) (b := 307) (by decide) rfl) rfl ?_
      refine ae_iload (q := 108) dX7_join_106 rfl rfl ?_
      refine ae_aload_n (q := 109) dX7_join_108 rfl rfl rfl ?_
      refine ae_getR (q := 112) dX7_join_109 fl_X7_68 rfl (h.s l288 t288) (h.l l288) (h.mr (k := 19) (b := 308) (by decide) rfl) rfl ?_
      refine ae_iload (q := 114) dX7_join_112 rfl rfl ?_
      refine ae_iald (q := 115) dX7_join_114 (h.s l308 t308) (h.l l308) (vin (by omega) (by omega)) rfl ?_
      have m12 : am_gi G11 308 x1.toNatClampNeg = x10 := by rw [g11]; exact gi_si e10 (fun q => absurd q.1 (by decide))
      refine ae_eqi m12 ?_
      refine ae_iast (q := 116) dX7_join_115 (h.s l307 t307) (h.l l307) (vin (by omega) (by omega)) rfl ?_
      refine ae_gen (fun G13 g13 => ?_)
      have h : jm N B 320 G13 := by rw [g13]; exact h.w t307 (by decide) (by decide) (by decide) inr_any
      have hd : am_gi G13 315 = am_gi H 315 := by rw [g13]; exact (gi_rowne (by decide)).trans hd
      have hf : am_gi G13 288 38 = am_gi H 288 38 := by rw [g13]; exact gi_si hf (fun q => absurd q.1 (by decide))
      have q13 : dl G13 = dl G11 := by rw [g13]; exact dl_ne (by decide) (by decide) (by decide) (fun q => absurd q.1 (by decide))
      refine ae_aload_n (q := 117) dX7_join_116 rfl rfl rfl ?_
      refine ae_callV (ci := 7) (as := []) (b := 288) (st := []) (q := 120) dX7_join_117 (c_X7_move (N := N) (d := d + 2) h) myX7_move lk_X7_156 im_X7_move se_X7_move rfl (by decide) (h.s l288 t288) (h.l l288) rfl rfl (Nat.le_of_ble_eq_true rfl) rfl (fun o H1 hh => ⟨_, hh.1⟩) (fun vv G14 hv => ?_)
      obtain ⟨o14, z14⟩ := hv
      cases o14
      obtain ⟨z14, w14⟩ := z14
      refine ⟨Or.inl (z14.nx.trans h.nx.symm), ?_⟩
      have h : jm N B 320 G14 := z14
      clear z14
      have hd : am_gi G14 315 = am_gi H 315 := w14.hd.trans hd
      have hf : am_gi G14 288 38 = am_gi H 288 38 := w14.fr.trans hf
      have q14 := w14.dl
      refine ae_aload_n (q := 121) dX7_join_120 rfl rfl rfl ?_
      refine ae_getR (q := 124) dX7_join_121 fl_X7_25 rfl (h.s l288 t288) (h.l l288) (h.mr (k := 5) (b := 294) (by decide) rfl) rfl ?_
      refine ae_iload_n (q := 125) dX7_join_124 rfl rfl rfl ?_
      refine ae_dup2 (q := 126) dX7_join_125 rfl rfl rfl ?_
      refine ae_iald (q := 127) dX7_join_126 (h.s l294 t294) (h.l l294) (vin (by omega) (by omega)) rfl ?_
      obtain ⟨x15, e15, u15, v15⟩ := rdi (h.i l294 t294 (k := a1.toNatClampNeg) (p := (0, 16 + ((N : Nat) : Int))) rfl)
      refine ae_eqi e15 ?_
      refine ae_iconst (v := 1) (q := 128) dX7_join_127 (by decide) rfl ?_
      refine ae_iadd (q := 129) dX7_join_128 rfl ?_
      obtain ⟨x16, e16⟩ : ∃ z, x15 + 1 = z := ⟨_, rfl⟩
      refine ae_eqi e16 ?_
      have f16 : x16.toInt = x15.toInt + 1 := by rw [← e16]; exact i_add rfl (by decide) (by omega) (by omega)
      have h : jm (N + 1) B 320 G14 := h.up (by omega)
      refine ae_iast (q := 130) dX7_join_129 (h.s l294 t294) (h.l l294) (vin (by omega) (by omega)) rfl ?_
      refine ae_gen (fun G17 g17 => ?_)
      have h : jm (N + 1) B 320 G17 := by rw [g17]; exact h.w t294 (by decide) (by decide) (by decide) (mk_inr (lo := 0) (hi := 16 + (((N + 1) : Nat) : Int)) (by omega) (by omega))
      have hd : am_gi G17 315 = am_gi H 315 := by rw [g17]; exact (gi_rowne (by decide)).trans hd
      have hf : am_gi G17 288 38 = am_gi H 288 38 := by rw [g17]; exact gi_si hf (fun q => absurd q.1 (by decide))
      have q17 : dl G17 = dl G14 := by rw [g17]; exact dl_ne (by decide) (by decide) (by decide) (fun q => absurd q.1 (by decide))
      refine ae_vret dX7_join_130 rfl ?_
      exact ⟨rfl, ⟨h, hd, hf, (Or.inl (by omega))⟩⟩
    · have c8 := i_eq (a := x2.toInt) (b := 0) rfl (by decide) c8
      refine ae_goto (q := 72) dX7_join_59 (by decide) ?_
      refine ae_aload_n (q := 73) dX7_join_72 rfl rfl rfl ?_
      refine ae_iload_n (q := 74) dX7_join_73 rfl rfl rfl ?_
      refine ae_iconst (v := 3) (q := 75) dX7_join_74 (by decide) rfl ?_
      refine ae_callV (ci := 7) (as := [.int a1, .int 3]) (b := 288) (st := []) (q := 78) dX7_join_75 (c_X7_raise (N := N) (d := d) h (by omega) (by omega)) myX7_raise lk_X7_176 im_X7_raise se_X7_raise rfl (by decide) (h.s l288 t288) (h.l l288) rfl rfl (Nat.le_of_ble_eq_true rfl) rfl (fun o H1 hh => ⟨_, hh.1⟩) (fun vv G18 hv => ?_)
      obtain ⟨o18, z18⟩ := hv
      cases o18
      obtain ⟨z18, w18⟩ := z18
      refine ⟨Or.inl (z18.nx.trans h.nx.symm), ?_⟩
      have h : jm N B 320 G18 := z18
      clear z18
      obtain ⟨wa18, wb18, q18⟩ := w18
      have hd : am_gi G18 315 = am_gi H 315 := wa18.trans hd
      have hf : am_gi G18 288 38 = am_gi H 288 38 := wb18.trans hf
      refine ae_vret dX7_join_78 rfl ?_
      exact ⟨rfl, ⟨(h.up (by omega)), hd, hf, (q18.elim (fun q => Or.inl (by omega)) (fun q => Or.inr ⟨by omega, q.2⟩))⟩⟩
set_option maxRecDepth 100000 in
set_option maxHeartbeats 4000000 in
theorem c_X7_join_11 {ox : List (Nat × (Nat → Int32))} {d N : Nat} {B H : am_H} {a1 : Int32} {a3 : Int32} (hN : N + 0 ≤ 1000000) (h : jm N B 320 H) (u_1 : 0 ≤ a1.toInt) (v_1 : a1.toInt ≤ 47) (u_3 : 0 ≤ a3.toInt) (v_3 : a3.toInt ≤ 1) : am_DB 0 ox (d + 3) yX7_join mX7_join [.ref 288, .int a1, .int 11, .int a3] H (fun o H1 => o = .inl none ∧ jm (N + 1) B 320 H1 ∧ ac a1.toNatClampNeg H H1) := by
  refine ae_enter rfl rfl rfl rfl (Nat.le_of_ble_eq_true rfl) ?_
  show am_EB 0 ox (d + 3) mX7_join 0 [(0, .ref 288), (1, .int a1), (2, .int 11), (3, .int a3)] [] H _
  have hd : am_gi H 315 = am_gi H 315 := rfl
  have hf : am_gi H 288 38 = am_gi H 288 38 := rfl
  refine ae_iload_n (q := 1) dX7_join_0 rfl rfl rfl ?_
  refine ae_bipush (v := 10) (q := 3) dX7_join_1 (by decide) rfl ?_
  refine ae_icmp_ne (t := 12) (q := 6) dX7_join_3 (by decide) rfl (fun _ => ?_) (fun h => absurd h (by decide))
  refine ae_iload_n (q := 13) dX7_join_12 rfl rfl rfl ?_
  refine ae_istore (lv' := [(4, .int a3), (0, .ref 288), (1, .int a1), (2, .int 11), (3, .int a3)]) (q := 15) dX7_join_13 (by decide) rfl rfl ?_
  refine ae_iload_n (q := 16) dX7_join_15 rfl rfl rfl ?_
  refine ae_bipush (v := 10) (q := 18) dX7_join_16 (by decide) rfl ?_
  refine ae_icmp_ne (t := 27) (q := 21) dX7_join_18 (by decide) rfl (fun _ => ?_) (fun h => absurd h (by decide))
  refine ae_iconst (v := 0) (q := 28) dX7_join_27 (by decide) rfl ?_
  refine ae_istore (lv' := [(5, .int 0), (4, .int a3), (0, .ref 288), (1, .int a1), (2, .int 11), (3, .int a3)]) (q := 30) dX7_join_28 (by decide) rfl rfl ?_
  refine ae_iconst (v := 2) (q := 31) dX7_join_30 (by decide) rfl ?_
  refine ae_iload_n (q := 32) dX7_join_31 rfl rfl rfl ?_
  refine ae_imul (q := 33) dX7_join_32 rfl ?_
  obtain ⟨x1, e1⟩ : ∃ z, 2 * a1 = z := ⟨_, rfl⟩
  refine ae_eqi e1 ?_
  have f1 : x1.toInt = 2 * a1.toInt := by rw [← e1]; exact i_mul (by decide) rfl (by omega) (by omega)
  refine ae_iload (q := 35) dX7_join_33 rfl rfl ?_
  refine ae_iadd (q := 36) dX7_join_35 rfl ?_
  obtain ⟨x2, e2⟩ : ∃ z, x1 + a3 = z := ⟨_, rfl⟩
  refine ae_eqi e2 ?_
  have f2 : x2.toInt = x1.toInt + a3.toInt := by rw [← e2]; exact i_add rfl rfl (by omega) (by omega)
  refine ae_istore (lv' := [(6, .int x2), (5, .int 0), (4, .int a3), (0, .ref 288), (1, .int a1), (2, .int 11), (3, .int a3)]) (q := 38) dX7_join_36 (by decide) rfl rfl ?_
  refine ae_iload_n (q := 39) dX7_join_38 rfl rfl rfl ?_
  refine ae_bipush (v := 10) (q := 41) dX7_join_39 (by decide) rfl ?_
  refine ae_icmp_ne (t := 62) (q := 44) dX7_join_41 (by decide) rfl (fun _ => ?_) (fun h => absurd h (by decide))
  refine ae_aload_n (q := 63) dX7_join_62 rfl rfl rfl ?_
  refine ae_getR (q := 66) dX7_join_63 fl_X7_59 rfl (h.s l288 t288) (h.l l288) (h.mr (k := 16) (b := 305) (by decide) rfl) rfl ?_
  refine ae_iload (q := 68) dX7_join_66 rfl rfl ?_
  refine ae_iald (q := 69) dX7_join_68 (h.s l305 t305) (h.l l305) (vin (by omega) (by omega)) rfl ?_
  obtain ⟨x3, e3⟩ : ∃ x, am_gi H 305 x2.toNatClampNeg = x := ⟨_, rfl⟩
  refine ae_eqi e3 ?_
  refine ae_if_ne (t := 79) (q := 72) dX7_join_69 (by decide) rfl (fun c4 => ?_) (fun c4 => ?_)
  · have c4 := i_ne (a := x3.toInt) (b := 0) rfl (by decide) c4
    refine ae_aload_n (q := 80) dX7_join_79 rfl rfl rfl ?_
    refine ae_getR (q := 83) dX7_join_80 fl_X7_59 rfl (h.s l288 t288) (h.l l288) (h.mr (k := 16) (b := 305) (by decide) rfl) rfl ?_
    refine ae_iload (q := 85) dX7_join_83 rfl rfl ?_
    refine ae_iload (q := 87) dX7_join_85 rfl rfl ?_
    refine ae_iast (q := 88) dX7_join_87 (h.s l305 t305) (h.l l305) (vin (by omega) (by omega)) rfl ?_
    refine ae_gen (fun G5 g5 => ?_)
    have h : jm N B 320 G5 := by rw [g5]; exact h.w t305 (by decide) (by decide) (by decide) inr_any
    have hd : am_gi G5 315 = am_gi H 315 := by rw [g5]; exact (gi_rowne (by decide)).trans hd
    have hf : am_gi G5 288 38 = am_gi H 288 38 := by rw [g5]; exact gi_si hf (fun q => absurd q.1 (by decide))
    have q5 : dl G5 = dl H := by rw [g5]; exact dl_ne (by decide) (by decide) (by decide) (fun q => absurd q.1 (by decide))
    refine ae_aload_n (q := 89) dX7_join_88 rfl rfl rfl ?_
    refine ae_getR (q := 92) dX7_join_89 fl_X7_62 rfl (h.s l288 t288) (h.l l288) (h.mr (k := 17) (b := 306) (by decide) rfl) rfl ?_
    refine ae_iload (q := 94) dX7_join_92 rfl rfl ?_
    refine ae_aload_n (q := 95) dX7_join_94 rfl rfl rfl ?_
    refine ae_getR (q := 98) dX7_join_95 fl_X7_68 rfl (h.s l288 t288) (h.l l288) (h.mr (k := 19) (b := 308) (by decide) rfl) rfl ?_
    refine ae_iload (q := 100) dX7_join_98 rfl rfl ?_
    refine ae_iald (q := 101) dX7_join_100 (h.s l308 t308) (h.l l308) (vin (by omega) (by omega)) rfl ?_
    obtain ⟨x6, e6⟩ : ∃ x, am_gi G5 308 a3.toNatClampNeg = x := ⟨_, rfl⟩
    refine ae_eqi e6 ?_
    refine ae_iast (q := 102) dX7_join_101 (h.s l306 t306) (h.l l306) (vin (by omega) (by omega)) rfl ?_
    refine ae_gen (fun G7 g7 => ?_)
    have h : jm N B 320 G7 := by rw [g7]; exact h.w t306 (by decide) (by decide) (by decide) inr_any
    have hd : am_gi G7 315 = am_gi H 315 := by rw [g7]; exact (gi_rowne (by decide)).trans hd
    have hf : am_gi G7 288 38 = am_gi H 288 38 := by rw [g7]; exact gi_si hf (fun q => absurd q.1 (by decide))
    have q7 : dl G7 = dl G5 := by rw [g7]; exact dl_ne (by decide) (by decide) (by decide) (fun q => absurd q.1 (by decide))
    refine ae_aload_n (q := 103) dX7_join_102 rfl rfl rfl ?_
    refine ae_getR (q := 106) dX7_join_103 fl_X7_65 rfl (h.s l288 t288) (h.l l288) (h.mr (k := 18) (b := 307) (by decide) rfl) rfl ?_
    refine ae_iload (q := 108) dX7_join_106 rfl rfl ?_
    refine ae_aload_n (q := 109) dX7_join_108 rfl rfl rfl ?_
    refine ae_getR (q := 112) dX7_join_109 fl_X7_68 rfl (h.s l288 t288) (h.l l288) (h.mr (k := 19) (b := 308) (by decide) rfl) rfl ?_
    refine ae_iload (q := 114) dX7_join_112 rfl rfl ?_
    refine ae_iald (q := 115) dX7_join_114 (h.s l308 t308) (h.l l308) (vin (by omega) (by omega)) rfl ?_
    have m8 : am_gi G7 308 a3.toNatClampNeg = x6 := by rw [g7]; exact gi_si e6 (fun q => absurd q.1 (by decide))
    refine ae_eqi m8 ?_
    refine ae_iast (q := 116) dX7_join_115 (h.s l307 t307) (h.l l307) (vin (by omega) (by omega)) rfl ?_
    refine ae_gen (fun G9 g9 => ?_)
    have h : jm N B 320 G9 := by rw [g9]; exact h.w t307 (by decide) (by decide) (by decide) inr_any
    have hd : am_gi G9 315 = am_gi H 315 := by rw [g9]; exact (gi_rowne (by decide)).trans hd
    have hf : am_gi G9 288 38 = am_gi H 288 38 := by rw [g9]; exact gi_si hf (fun q => absurd q.1 (by decide))
    have q9 : dl G9 = dl G7 := by rw [g9]; exact dl_ne (by decide) (by decide) (by decide) (fun q => absurd q.1 (by decide))
    refine ae_aload_n (q := 117) dX7_join_116 rfl rfl rfl ?_
    refine ae_callV (ci := 7) (as := []) (b := 288) (st := []) (q := 120) dX7_join_117 (c_X7_move (N := N) (d := d + 2) h) myX7_move lk_X7_156 im_X7_move se_X7_move rfl (by decide) (h.s l288 t288) (h.l l288) rfl rfl (Nat.le_of_ble_eq_true rfl) rfl (fun o H1 hh => ⟨_, hh.1⟩) (fun vv G10 hv => ?_)
    obtain ⟨o10, z10⟩ := hv
    cases o10
    obtain ⟨z10, w10⟩ := z10
    refine ⟨Or.inl (z10.nx.trans h.nx.symm), ?_⟩
    have h : jm N B 320 G10 := z10
    clear z10
    have hd : am_gi G10 315 = am_gi H 315 := w10.hd.trans hd
    have hf : am_gi G10 288 38 = am_gi H 288 38 := w10.fr.trans hf
    have q10 := w10.dl
    refine ae_aload_n (q := 121) dX7_join_120 rfl rfl rfl ?_
    refine ae_getR (q := 124) dX7_join_121 fl_X7_25 rfl (h.s l288 t288) (h.l l288) (h.mr (k := 5) (b := 294) (by decide) rfl) rfl ?_
    refine ae_iload_n (q := 125) dX7_join_124 rfl rfl rfl ?_
    refine ae_dup2 (q := 126) dX7_join_125 rfl rfl rfl ?_
    refine ae_iald (q := 127) dX7_join_126 (h.s l294 t294) (h.l l294) (vin (by omega) (by omega)) rfl ?_
    obtain ⟨x11, e11, u11, v11⟩ := rdi (h.i l294 t294 (k := a1.toNatClampNeg) (p := (0, 16 + ((N : Nat) : Int))) rfl)
    refine ae_eqi e11 ?_
    refine ae_iconst (v := 1) (q := 128) dX7_join_127 (by decide) rfl ?_
    refine ae_iadd (q := 129) dX7_join_128 rfl ?_
    obtain ⟨x12, e12⟩ : ∃ z, x11 + 1 = z := ⟨_, rfl⟩
    refine ae_eqi e12 ?_
    have f12 : x12.toInt = x11.toInt + 1 := by rw [← e12]; exact i_add rfl (by decide) (by omega) (by omega)
    have h : jm (N + 1) B 320 G10 := h.up (by omega)
    refine ae_iast (q := 130) dX7_join_129 (h.s l294 t294) (h.l l294) (vin (by omega) (by omega)) rfl ?_
    refine ae_gen (fun G13 g13 => ?_)
    have h : jm (N + 1) B 320 G13 := by rw [g13]; exact h.w t294 (by decide) (by decide) (by decide) (mk_inr (lo := 0) (hi := 16 + (((N + 1) : Nat) : Int)) (by omega) (by omega))
    have hd : am_gi G13 315 = am_gi H 315 := by rw [g13]; exact (gi_rowne (by decide)).trans hd
    have hf : am_gi G13 288 38 = am_gi H 288 38 := by rw [g13]; exact gi_si hf (fun q => absurd q.1 (by decide))
    have q13 : dl G13 = dl G10 := by rw [g13]; exact dl_ne (by decide) (by decide) (by decide) (fun q => absurd q.1 (by decide))
    refine ae_vret dX7_join_130 rfl ?_
    exact ⟨rfl, ⟨h, hd, hf, (Or.inl (by omega))⟩⟩
  · have c4 := i_eq (a := x3.toInt) (b := 0) rfl (by decide) c4
    refine ae_aload_n (q := 73) dX7_join_72 rfl rfl rfl ?_
    refine ae_iload_n (q := 74) dX7_join_73 rfl rfl rfl ?_
    refine ae_iconst (v := 3) (q := 75) dX7_join_74 (by decide) rfl ?_
    refine ae_callV (ci := 7) (as := [.int a1, .int 3]) (b := 288) (st := []) (q := 78) dX7_join_75 (c_X7_raise (N := N) (d := d) h (by omega) (by omega)) myX7_raise lk_X7_176 im_X7_raise se_X7_raise rfl (by decide) (h.s l288 t288) (h.l l288) rfl rfl (Nat.le_of_ble_eq_true rfl) rfl (fun o H1 hh => ⟨_, hh.1⟩) (fun vv G14 hv => ?_)
    obtain ⟨o14, z14⟩ := hv
    cases o14
    obtain ⟨z14, w14⟩ := z14
    refine ⟨Or.inl (z14.nx.trans h.nx.symm), ?_⟩
    have h : jm N B 320 G14 := z14
    clear z14
    obtain ⟨wa14, wb14, q14⟩ := w14
    have hd : am_gi G14 315 = am_gi H 315 := wa14.trans hd
    have hf : am_gi G14 288 38 = am_gi H 288 38 := wb14.trans hf
    refine ae_vret dX7_join_78 rfl ?_
    exact ⟨rfl, ⟨(h.up (by omega)), hd, hf, (q14.elim (fun q => Or.inl (by omega)) (fun q => Or.inr ⟨by omega, q.2⟩))⟩⟩
set_option maxRecDepth 100000 in
set_option maxHeartbeats 4000000 in
theorem c_X7_onFuture_7 {ox : List (Nat × (Nat → Int32))} {d N : Nat} {B H : am_H} {a1 : Int32} {a3 : Int32} (hN : N + 0 ≤ 1000000) (h : jm N B 320 H) (u_1 : 0 ≤ a1.toInt) (v_1 : a1.toInt ≤ 47) (u_3 : 0 ≤ a3.toInt) (v_3 : a3.toInt ≤ 3) : am_DB 0 ox (d + 3) yX7_onFuture mX7_onFuture [.ref 288, .int a1, .int 7, .int a3] H (fun o H1 => o = .inl none ∧ jm (N + 1) B 320 H1 ∧ ac a1.toNatClampNeg H H1) := by
  refine ae_enter rfl rfl rfl rfl (Nat.le_of_ble_eq_true rfl) ?_
  show am_EB 0 ox (d + 3) mX7_onFuture 0 [(0, .ref 288), (1, .int a1), (2, .int 7), (3, .int a3)] [] H _
  have hd : am_gi H 315 = am_gi H 315 := rfl
  have hf : am_gi H 288 38 = am_gi H 288 38 := rfl
  refine ae_iload_n (q := 1) dX7_onFuture_0 rfl rfl rfl ?_
  refine ae_bipush (v := 7) (q := 3) dX7_onFuture_1 (by decide) rfl ?_
  refine ae_icmp_ne (t := 24) (q := 6) dX7_onFuture_3 (by decide) rfl (fun h => absurd h (by decide)) (fun _ => ?_)
  refine ae_aload_n (q := 7) dX7_onFuture_6 rfl rfl rfl ?_
  refine ae_getR (q := 10) dX7_onFuture_7 fl_X7_56 rfl (h.s l288 t288) (h.l l288) (h.mr (k := 15) (b := 304) (by decide) rfl) rfl ?_
  refine ae_iload_n (q := 11) dX7_onFuture_10 rfl rfl rfl ?_
  refine ae_zald (q := 12) dX7_onFuture_11 (h.s l304 t304) (h.l l304) (vin (by omega) (by omega)) rfl ?_
  obtain ⟨x1, e1, u1, v1⟩ := rdi (h.i l304 t304 (k := a3.toNatClampNeg) (p := (0, 1)) rfl)
  refine ae_eqi e1 ?_
  refine ae_if_eq (t := 24) (q := 15) dX7_onFuture_12 (by decide) rfl (fun c2 => ?_) (fun c2 => ?_)
  · have c2 := i_eq (a := x1.toInt) (b := 0) rfl (by decide) c2
    refine ae_iload_n (q := 25) dX7_onFuture_24 rfl rfl rfl ?_
    refine ae_bipush (v := 8) (q := 27) dX7_onFuture_25 (by decide) rfl ?_
    refine ae_icmp_ne (t := 55) (q := 30) dX7_onFuture_27 (by decide) rfl (fun _ => ?_) (fun h => absurd h (by decide))
    refine ae_iload_n (q := 56) dX7_onFuture_55 rfl rfl rfl ?_
    refine ae_bipush (v := 7) (q := 58) dX7_onFuture_56 (by decide) rfl ?_
    refine ae_icmp_ne (t := 76) (q := 61) dX7_onFuture_58 (by decide) rfl (fun h => absurd h (by decide)) (fun _ => ?_)
    refine ae_aload_n (q := 62) dX7_onFuture_61 rfl rfl rfl ?_
    refine ae_getR (q := 65) dX7_onFuture_62 fl_X7_43 rfl (h.s l288 t288) (h.l l288) (h.mr (k := 11) (b := 300) (by decide) rfl) rfl ?_
    refine ae_iload_n (q := 66) dX7_onFuture_65 rfl rfl rfl ?_
    refine ae_aload_n (q := 67) dX7_onFuture_66 rfl rfl rfl ?_
    refine ae_getR (q := 70) dX7_onFuture_67 fl_X7_22 rfl (h.s l288 t288) (h.l l288) (h.mr (k := 4) (b := 293) (by decide) rfl) rfl ?_
    refine ae_iload_n (q := 71) dX7_onFuture_70 rfl rfl rfl ?_
    refine ae_iald (q := 72) dX7_onFuture_71 (h.s l293 t293) (h.l l293) (vin (by omega) (by omega)) rfl ?_
    obtain ⟨x3, e3⟩ : ∃ x, am_gi H 293 a1.toNatClampNeg = x := ⟨_, rfl⟩
    refine ae_eqi e3 ?_
    refine ae_iast (q := 73) dX7_onFuture_72 (h.s l300 t300) (h.l l300) (vin (by omega) (by omega)) rfl ?_
    refine ae_gen (fun G4 g4 => ?_)
    have h : jm N B 320 G4 := by rw [g4]; exact h.w t300 (by decide) (by decide) (by decide) inr_any
    have hd : am_gi G4 315 = am_gi H 315 := by rw [g4]; exact (gi_rowne (by decide)).trans hd
    have hf : am_gi G4 288 38 = am_gi H 288 38 := by rw [g4]; exact gi_si hf (fun q => absurd q.1 (by decide))
    have q4 : dl G4 = dl H := by rw [g4]; exact dl_ne (by decide) (by decide) (by decide) (fun q => absurd q.1 (by decide))
    refine ae_goto (q := 91) dX7_onFuture_73 (by decide) ?_
    refine ae_aload_n (q := 92) dX7_onFuture_91 rfl rfl rfl ?_
    refine ae_getR (q := 95) dX7_onFuture_92 fl_X7_56 rfl (h.s l288 t288) (h.l l288) (h.mr (k := 15) (b := 304) (by decide) rfl) rfl ?_
    refine ae_iload_n (q := 96) dX7_onFuture_95 rfl rfl rfl ?_
    refine ae_iconst (v := 1) (q := 97) dX7_onFuture_96 (by decide) rfl ?_
    refine ae_zast (q := 98) dX7_onFuture_97 (h.s l304 t304) (h.l l304) (vin (by omega) (by omega)) rfl rfl ?_
    refine ae_gen (fun G5 g5 => ?_)
    have h : jm N B 320 G5 := by rw [g5]; exact h.w t304 (by decide) (by decide) (by decide) (mk_inr (lo := 0) (hi := 1) (by decide) (by decide))
    have hd : am_gi G5 315 = am_gi H 315 := by rw [g5]; exact (gi_rowne (by decide)).trans hd
    have hf : am_gi G5 288 38 = am_gi H 288 38 := by rw [g5]; exact gi_si hf (fun q => absurd q.1 (by decide))
    have q5 : dl G5 = dl G4 := by rw [g5]; exact dl_ne (by decide) (by decide) (by decide) (fun q => absurd q.1 (by decide))
    refine ae_aload_n (q := 99) dX7_onFuture_98 rfl rfl rfl ?_
    refine ae_getR (q := 102) dX7_onFuture_99 fl_X7_25 rfl (h.s l288 t288) (h.l l288) (h.mr (k := 5) (b := 294) (by decide) rfl) rfl ?_
    refine ae_iload_n (q := 103) dX7_onFuture_102 rfl rfl rfl ?_
    refine ae_dup2 (q := 104) dX7_onFuture_103 rfl rfl rfl ?_
    refine ae_iald (q := 105) dX7_onFuture_104 (h.s l294 t294) (h.l l294) (vin (by omega) (by omega)) rfl ?_
    obtain ⟨x6, e6, u6, v6⟩ := rdi (h.i l294 t294 (k := a1.toNatClampNeg) (p := (0, 16 + ((N : Nat) : Int))) rfl)
    refine ae_eqi e6 ?_
    refine ae_iconst (v := 1) (q := 106) dX7_onFuture_105 (by decide) rfl ?_
    refine ae_iadd (q := 107) dX7_onFuture_106 rfl ?_
    obtain ⟨x7, e7⟩ : ∃ z, x6 + 1 = z := ⟨_, rfl⟩
    refine ae_eqi e7 ?_
    have f7 : x7.toInt = x6.toInt + 1 := by rw [← e7]; exact i_add rfl (by decide) (by omega) (by omega)
    have h : jm (N + 1) B 320 G5 := h.up (by omega)
    refine ae_iast (q := 108) dX7_onFuture_107 (h.s l294 t294) (h.l l294) (vin (by omega) (by omega)) rfl ?_
    refine ae_gen (fun G8 g8 => ?_)
    have h : jm (N + 1) B 320 G8 := by rw [g8]; exact h.w t294 (by decide) (by decide) (by decide) (mk_inr (lo := 0) (hi := 16 + (((N + 1) : Nat) : Int)) (by omega) (by omega))
    have hd : am_gi G8 315 = am_gi H 315 := by rw [g8]; exact (gi_rowne (by decide)).trans hd
    have hf : am_gi G8 288 38 = am_gi H 288 38 := by rw [g8]; exact gi_si hf (fun q => absurd q.1 (by decide))
    have q8 : dl G8 = dl G5 := by rw [g8]; exact dl_ne (by decide) (by decide) (by decide) (fun q => absurd q.1 (by decide))
    refine ae_vret dX7_onFuture_108 rfl ?_
    exact ⟨rfl, ⟨h, hd, hf, (Or.inl (by omega))⟩⟩
  · have c2 := i_ne (a := x1.toInt) (b := 0) rfl (by decide) c2
    refine ae_aload_n (q := 16) dX7_onFuture_15 rfl rfl rfl ?_
    refine ae_iload_n (q := 17) dX7_onFuture_16 rfl rfl rfl ?_
    refine ae_iconst (v := 2) (q := 18) dX7_onFuture_17 (by decide) rfl ?_
    refine ae_callV (ci := 7) (as := [.int a1, .int 2]) (b := 288) (st := []) (q := 21) dX7_onFuture_18 (c_X7_raise (N := N) (d := d) h (by omega) (by omega)) myX7_raise lk_X7_176 im_X7_raise se_X7_raise rfl (by decide) (h.s l288 t288) (h.l l288) rfl rfl (Nat.le_of_ble_eq_true rfl) rfl (fun o H1 hh => ⟨_, hh.1⟩) (fun vv G9 hv => ?_)
    obtain ⟨o9, z9⟩ := hv
    cases o9
    obtain ⟨z9, w9⟩ := z9
    refine ⟨Or.inl (z9.nx.trans h.nx.symm), ?_⟩
    have h : jm N B 320 G9 := z9
    clear z9
    obtain ⟨wa9, wb9, q9⟩ := w9
    have hd : am_gi G9 315 = am_gi H 315 := wa9.trans hd
    have hf : am_gi G9 288 38 = am_gi H 288 38 := wb9.trans hf
    refine ae_goto (q := 108) dX7_onFuture_21 (by decide) ?_
    refine ae_vret dX7_onFuture_108 rfl ?_
    exact ⟨rfl, ⟨(h.up (by omega)), hd, hf, (q9.elim (fun q => Or.inl (by omega)) (fun q => Or.inr ⟨by omega, q.2⟩))⟩⟩
set_option maxRecDepth 100000 in
set_option maxHeartbeats 4000000 in
theorem c_X7_onFuture_8 {ox : List (Nat × (Nat → Int32))} {d N : Nat} {B H : am_H} {a1 : Int32} {a3 : Int32} (hN : N + 0 ≤ 1000000) (h : jm N B 320 H) (u_1 : 0 ≤ a1.toInt) (v_1 : a1.toInt ≤ 47) (u_3 : 0 ≤ a3.toInt) (v_3 : a3.toInt ≤ 3) : am_DB 0 ox (d + 3) yX7_onFuture mX7_onFuture [.ref 288, .int a1, .int 8, .int a3] H (fun o H1 => o = .inl none ∧ jm (N + 1) B 320 H1 ∧ ac a1.toNatClampNeg H H1) := by
  refine ae_enter rfl rfl rfl rfl (Nat.le_of_ble_eq_true rfl) ?_
  show am_EB 0 ox (d + 3) mX7_onFuture 0 [(0, .ref 288), (1, .int a1), (2, .int 8), (3, .int a3)] [] H _
  have hd : am_gi H 315 = am_gi H 315 := rfl
  have hf : am_gi H 288 38 = am_gi H 288 38 := rfl
  refine ae_iload_n (q := 1) dX7_onFuture_0 rfl rfl rfl ?_
  refine ae_bipush (v := 7) (q := 3) dX7_onFuture_1 (by decide) rfl ?_
  refine ae_icmp_ne (t := 24) (q := 6) dX7_onFuture_3 (by decide) rfl (fun _ => ?_) (fun h => absurd h (by decide))
  refine ae_iload_n (q := 25) dX7_onFuture_24 rfl rfl rfl ?_
  refine ae_bipush (v := 8) (q := 27) dX7_onFuture_25 (by decide) rfl ?_
  refine ae_icmp_ne (t := 55) (q := 30) dX7_onFuture_27 (by decide) rfl (fun h => absurd h (by decide)) (fun _ => ?_)
  refine ae_aload_n (q := 31) dX7_onFuture_30 rfl rfl rfl ?_
  refine ae_getR (q := 34) dX7_onFuture_31 fl_X7_56 rfl (h.s l288 t288) (h.l l288) (h.mr (k := 15) (b := 304) (by decide) rfl) rfl ?_
  refine ae_iload_n (q := 35) dX7_onFuture_34 rfl rfl rfl ?_
  refine ae_zald (q := 36) dX7_onFuture_35 (h.s l304 t304) (h.l l304) (vin (by omega) (by omega)) rfl ?_
  obtain ⟨x1, e1, u1, v1⟩ := rdi (h.i l304 t304 (k := a3.toNatClampNeg) (p := (0, 1)) rfl)
  refine ae_eqi e1 ?_
  refine ae_if_ne (t := 55) (q := 39) dX7_onFuture_36 (by decide) rfl (fun c2 => ?_) (fun c2 => ?_)
  · have c2 := i_ne (a := x1.toInt) (b := 0) rfl (by decide) c2
    refine ae_iload_n (q := 56) dX7_onFuture_55 rfl rfl rfl ?_
    refine ae_bipush (v := 7) (q := 58) dX7_onFuture_56 (by decide) rfl ?_
    refine ae_icmp_ne (t := 76) (q := 61) dX7_onFuture_58 (by decide) rfl (fun _ => ?_) (fun h => absurd h (by decide))
    refine ae_aload_n (q := 77) dX7_onFuture_76 rfl rfl rfl ?_
    refine ae_getR (q := 80) dX7_onFuture_77 fl_X7_22 rfl (h.s l288 t288) (h.l l288) (h.mr (k := 4) (b := 293) (by decide) rfl) rfl ?_
    refine ae_iload_n (q := 81) dX7_onFuture_80 rfl rfl rfl ?_
    refine ae_dup2 (q := 82) dX7_onFuture_81 rfl rfl rfl ?_
    refine ae_iald (q := 83) dX7_onFuture_82 (h.s l293 t293) (h.l l293) (vin (by omega) (by omega)) rfl ?_
    obtain ⟨x3, e3⟩ : ∃ x, am_gi H 293 a1.toNatClampNeg = x := ⟨_, rfl⟩
    refine ae_eqi e3 ?_
    refine ae_aload_n (q := 84) dX7_onFuture_83 rfl rfl rfl ?_
    refine ae_getR (q := 87) dX7_onFuture_84 fl_X7_43 rfl (h.s l288 t288) (h.l l288) (h.mr (k := 11) (b := 300) (by decide) rfl) rfl ?_
    refine ae_iload_n (q := 88) dX7_onFuture_87 rfl rfl rfl ?_
    refine ae_iald (q := 89) dX7_onFuture_88 (h.s l300 t300) (h.l l300) (vin (by omega) (by omega)) rfl ?_
    obtain ⟨x4, e4⟩ : ∃ x, am_gi H 300 a3.toNatClampNeg = x := ⟨_, rfl⟩
    refine ae_eqi e4 ?_
    refine ae_iadd (q := 90) dX7_onFuture_89 rfl ?_
    obtain ⟨x5, e5⟩ : ∃ z, x3 + x4 = z := ⟨_, rfl⟩
    refine ae_eqi e5 ?_
    refine ae_iast (q := 91) dX7_onFuture_90 (h.s l293 t293) (h.l l293) (vin (by omega) (by omega)) rfl ?_
    refine ae_gen (fun G6 g6 => ?_)
    have h : jm N B 320 G6 := by rw [g6]; exact h.w t293 (by decide) (by decide) (by decide) inr_any
    have hd : am_gi G6 315 = am_gi H 315 := by rw [g6]; exact (gi_rowne (by decide)).trans hd
    have hf : am_gi G6 288 38 = am_gi H 288 38 := by rw [g6]; exact gi_si hf (fun q => absurd q.1 (by decide))
    have q6 : dl G6 = dl H := by rw [g6]; exact dl_ne (by decide) (by decide) (by decide) (fun q => absurd q.1 (by decide))
    refine ae_aload_n (q := 92) dX7_onFuture_91 rfl rfl rfl ?_
    refine ae_getR (q := 95) dX7_onFuture_92 fl_X7_56 rfl (h.s l288 t288) (h.l l288) (h.mr (k := 15) (b := 304) (by decide) rfl) rfl ?_
    refine ae_iload_n (q := 96) dX7_onFuture_95 rfl rfl rfl ?_
    refine ae_iconst (v := 1) (q := 97) dX7_onFuture_96 (by decide) rfl ?_
    refine ae_zast (q := 98) dX7_onFuture_97 (h.s l304 t304) (h.l l304) (vin (by omega) (by omega)) rfl rfl ?_
    refine ae_gen (fun G7 g7 => ?_)
    have h : jm N B 320 G7 := by rw [g7]; exact h.w t304 (by decide) (by decide) (by decide) (mk_inr (lo := 0) (hi := 1) (by decide) (by decide))
    have hd : am_gi G7 315 = am_gi H 315 := by rw [g7]; exact (gi_rowne (by decide)).trans hd
    have hf : am_gi G7 288 38 = am_gi H 288 38 := by rw [g7]; exact gi_si hf (fun q => absurd q.1 (by decide))
    have q7 : dl G7 = dl G6 := by rw [g7]; exact dl_ne (by decide) (by decide) (by decide) (fun q => absurd q.1 (by decide))
    refine ae_aload_n (q := 99) dX7_onFuture_98 rfl rfl rfl ?_
    refine ae_getR (q := 102) dX7_onFuture_99 fl_X7_25 rfl (h.s l288 t288) (h.l l288) (h.mr (k := 5) (b := 294) (by decide) rfl) rfl ?_
    refine ae_iload_n (q := 103) dX7_onFuture_102 rfl rfl rfl ?_
    refine ae_dup2 (q := 104) dX7_onFuture_103 rfl rfl rfl ?_
    refine ae_iald (q := 105) dX7_onFuture_104 (h.s l294 t294) (h.l l294) (vin (by omega) (by omega)) rfl ?_
    obtain ⟨x8, e8, u8, v8⟩ := rdi (h.i l294 t294 (k := a1.toNatClampNeg) (p := (0, 16 + ((N : Nat) : Int))) rfl)
    refine ae_eqi e8 ?_
    refine ae_iconst (v := 1) (q := 106) dX7_onFuture_105 (by decide) rfl ?_
    refine ae_iadd (q := 107) dX7_onFuture_106 rfl ?_
    obtain ⟨x9, e9⟩ : ∃ z, x8 + 1 = z := ⟨_, rfl⟩
    refine ae_eqi e9 ?_
    have f9 : x9.toInt = x8.toInt + 1 := by rw [← e9]; exact i_add rfl (by decide) (by omega) (by omega)
    have h : jm (N + 1) B 320 G7 := h.up (by omega)
    refine ae_iast (q := 108) dX7_onFuture_107 (h.s l294 t294) (h.l l294) (vin (by omega) (by omega)) rfl ?_
    refine ae_gen (fun G10 g10 => ?_)
    have h : jm (N + 1) B 320 G10 := by rw [g10]; exact h.w t294 (by decide) (by decide) (by decide) (mk_inr (lo := 0) (hi := 16 + (((N + 1) : Nat) : Int)) (by omega) (by omega))
    have hd : am_gi G10 315 = am_gi H 315 := by rw [g10]; exact (gi_rowne (by decide)).trans hd
    have hf : am_gi G10 288 38 = am_gi H 288 38 := by rw [g10]; exact gi_si hf (fun q => absurd q.1 (by decide))
    have q10 : dl G10 = dl G7 := by rw [g10]; exact dl_ne (by decide) (by decide) (by decide) (fun q => absurd q.1 (by decide))
    refine ae_vret dX7_onFuture_108 rfl ?_
    exact ⟨rfl, ⟨h, hd, hf, (Or.inl (by omega))⟩⟩
  · have c2 := i_eq (a := x1.toInt) (b := 0) rfl (by decide) c2
    refine ae_aload_n (q := 40) dX7_onFuture_39 rfl rfl rfl ?_
    refine ae_iload_n (q := 41) dX7_onFuture_40 rfl rfl rfl ?_
    refine ae_iconst (v := 1) (q := 42) dX7_onFuture_41 (by decide) rfl ?_
    refine ae_callV (ci := 7) (as := [.int a1, .int 1]) (b := 288) (st := []) (q := 45) dX7_onFuture_42 (c_X7_set (N := N) (d := d + 2) h (by omega) (by omega) (by decide) (by decide)) myX7_set lk_X7_163 im_X7_set se_X7_set rfl (by decide) (h.s l288 t288) (h.l l288) rfl rfl (Nat.le_of_ble_eq_true rfl) rfl (fun o H1 hh => ⟨_, hh.1⟩) (fun vv G11 hv => ?_)
    obtain ⟨o11, z11⟩ := hv
    cases o11
    obtain ⟨z11, w11⟩ := z11
    refine ⟨Or.inl (z11.nx.trans h.nx.symm), ?_⟩
    have h : jm N B 320 G11 := z11
    clear z11
    obtain ⟨wa11, wb11, q11, ws11⟩ := w11
    have hd : am_gi G11 315 = am_gi H 315 := wa11.trans hd
    have hf : am_gi G11 288 38 = am_gi H 288 38 := wb11.trans hf
    refine ae_aload_n (q := 46) dX7_onFuture_45 rfl rfl rfl ?_
    refine ae_getR (q := 49) dX7_onFuture_46 fl_X7_40 rfl (h.s l288 t288) (h.l l288) (h.mr (k := 10) (b := 299) (by decide) rfl) rfl ?_
    refine ae_iload_n (q := 50) dX7_onFuture_49 rfl rfl rfl ?_
    refine ae_iload_n (q := 51) dX7_onFuture_50 rfl rfl rfl ?_
    refine ae_iast (q := 52) dX7_onFuture_51 (h.s l299 t299) (h.l l299) (vin (by omega) (by omega)) rfl ?_
    refine ae_gen (fun G12 g12 => ?_)
    have h : jm N B 320 G12 := by rw [g12]; exact h.w t299 (by decide) (by decide) (by decide) (mk_inr (lo := 0) (hi := 3) (by omega) (by omega))
    have hd : am_gi G12 315 = am_gi H 315 := by rw [g12]; exact (gi_rowne (by decide)).trans hd
    have hf : am_gi G12 288 38 = am_gi H 288 38 := by rw [g12]; exact gi_si hf (fun q => absurd q.1 (by decide))
    have q12 : dl G12 = dl G11 := by rw [g12]; exact dl_ne (by decide) (by decide) (by decide) (fun q => absurd q.1 (by decide))
    refine ae_goto (q := 108) dX7_onFuture_52 (by decide) ?_
    refine ae_vret dX7_onFuture_108 rfl ?_
    have m13 : am_gi G12 292 a1.toNatClampNeg = 2 := by rw [g12]; exact gi_si ws11 (fun q => absurd q.1 (by decide))
    exact ⟨rfl, ⟨(h.up (by omega)), hd, hf, (Or.inr ⟨by omega, by rw [m13]; decide⟩)⟩⟩
set_option maxRecDepth 100000 in
set_option maxHeartbeats 4000000 in
theorem c_X7_onScope_4 {ox : List (Nat × (Nat → Int32))} {d N : Nat} {B H : am_H} {a1 : Int32} {a3 : Int32} (hN : N + 0 ≤ 1000000) (h : jm N B 320 H) (u_1 : 0 ≤ a1.toInt) (v_1 : a1.toInt ≤ 47) (u_3 : 0 ≤ a3.toInt) (v_3 : a3.toInt ≤ 63) : am_DB 0 ox (d + 3) yX7_onScope mX7_onScope [.ref 288, .int a1, .int 4, .int a3] H (fun o H1 => o = .inl none ∧ jm (N + 1) B 320 H1 ∧ ac a1.toNatClampNeg H H1) := by
  refine ae_enter rfl rfl rfl rfl (Nat.le_of_ble_eq_true rfl) ?_
  show am_EB 0 ox (d + 3) mX7_onScope 0 [(0, .ref 288), (1, .int a1), (2, .int 4), (3, .int a3)] [] H _
  have hd : am_gi H 315 = am_gi H 315 := rfl
  have hf : am_gi H 288 38 = am_gi H 288 38 := rfl
  refine ae_iload_n (q := 1) dX7_onScope_0 rfl rfl rfl ?_
  refine ae_iconst (v := 4) (q := 2) dX7_onScope_1 (by decide) rfl ?_
  refine ae_icmp_ne (t := 24) (q := 5) dX7_onScope_2 (by decide) rfl (fun h => absurd h (by decide)) (fun _ => ?_)
  refine ae_aload_n (q := 6) dX7_onScope_5 rfl rfl rfl ?_
  refine ae_getR (q := 9) dX7_onScope_6 fl_X7_34 rfl (h.s l288 t288) (h.l l288) (h.mr (k := 8) (b := 297) (by decide) rfl) rfl ?_
  refine ae_iload_n (q := 10) dX7_onScope_9 rfl rfl rfl ?_
  refine ae_iald (q := 11) dX7_onScope_10 (h.s l297 t297) (h.l l297) (vin (by omega) (by omega)) rfl ?_
  obtain ⟨x1, e1, u1, v1⟩ := rdi (h.i l297 t297 (k := a1.toNatClampNeg) (p := (0, 3)) rfl)
  refine ae_eqi e1 ?_
  refine ae_iconst (v := 3) (q := 12) dX7_onScope_11 (by decide) rfl ?_
  refine ae_icmp_ne (t := 24) (q := 15) dX7_onScope_12 (by decide) rfl (fun c2 => ?_) (fun c2 => ?_)
  · have c2 := i_ne (a := x1.toInt) (b := 3) rfl (by decide) c2
    refine ae_iload_n (q := 25) dX7_onScope_24 rfl rfl rfl ?_
    refine ae_iconst (v := 5) (q := 26) dX7_onScope_25 (by decide) rfl ?_
    refine ae_icmp_ne (t := 47) (q := 29) dX7_onScope_26 (by decide) rfl (fun _ => ?_) (fun h => absurd h (by decide))
    refine ae_iload_n (q := 48) dX7_onScope_47 rfl rfl rfl ?_
    refine ae_iconst (v := 5) (q := 49) dX7_onScope_48 (by decide) rfl ?_
    refine ae_icmp_ne (t := 69) (q := 52) dX7_onScope_49 (by decide) rfl (fun _ => ?_) (fun h => absurd h (by decide))
    refine ae_aload_n (q := 70) dX7_onScope_69 rfl rfl rfl ?_
    refine ae_iconst (v := 3) (q := 71) dX7_onScope_70 (by decide) rfl ?_
    refine ae_iload_n (q := 72) dX7_onScope_71 rfl rfl rfl ?_
    refine ae_imul (q := 73) dX7_onScope_72 rfl ?_
    obtain ⟨x3, e3⟩ : ∃ z, 3 * a1 = z := ⟨_, rfl⟩
    refine ae_eqi e3 ?_
    have f3 : x3.toInt = 3 * a1.toInt := by rw [← e3]; exact i_mul (by decide) rfl (by omega) (by omega)
    refine ae_aload_n (q := 74) dX7_onScope_73 rfl rfl rfl ?_
    refine ae_getR (q := 77) dX7_onScope_74 fl_X7_34 rfl (h.s l288 t288) (h.l l288) (h.mr (k := 8) (b := 297) (by decide) rfl) rfl ?_
    refine ae_iload_n (q := 78) dX7_onScope_77 rfl rfl rfl ?_
    refine ae_iald (q := 79) dX7_onScope_78 (h.s l297 t297) (h.l l297) (vin (by omega) (by omega)) rfl ?_
    refine ae_eqi e1 ?_
    refine ae_iadd (q := 80) dX7_onScope_79 rfl ?_
    obtain ⟨x4, e4⟩ : ∃ z, x3 + x1 = z := ⟨_, rfl⟩
    refine ae_eqi e4 ?_
    have f4 : x4.toInt = x3.toInt + x1.toInt := by rw [← e4]; exact i_add rfl rfl (by omega) (by omega)
    refine ae_iload_n (q := 81) dX7_onScope_80 rfl rfl rfl ?_
    refine ae_iconst (v := 4) (q := 82) dX7_onScope_81 (by decide) rfl ?_
    refine ae_irem (q := 83) dX7_onScope_82 (by decide) rfl ?_
    obtain ⟨x5, e5⟩ : ∃ z, a3 - a3 / 4 * 4 = z := ⟨_, rfl⟩
    refine ae_eqi e5 ?_
    have f5 : x5.toInt = a3.toInt % 4 ∧ 0 ≤ a3.toInt % 4 ∧ a3.toInt % 4 < 4 := by rw [← e5]; exact i_rem rfl (by decide) (by omega) (by omega)
    obtain ⟨f5, g5, k5⟩ := f5
    have a5 : 0 ≤ x5.toInt := by rw [f5]; exact g5
    have b5 : x5.toInt < 4 := by rw [f5]; exact k5
    clear g5 k5
    refine ae_iload_n (q := 84) dX7_onScope_83 rfl rfl rfl ?_
    refine ae_iconst (v := 4) (q := 85) dX7_onScope_84 (by decide) rfl ?_
    refine ae_idiv (q := 86) dX7_onScope_85 (by decide) rfl ?_
    obtain ⟨x6, e6⟩ : ∃ z, a3 / 4 = z := ⟨_, rfl⟩
    refine ae_eqi e6 ?_
    have f6 : x6.toInt = a3.toInt / 4 := by rw [← e6]; exact i_div rfl (by decide) (by omega) (by omega)
    refine ae_callV (ci := 7) (as := [.int x4, .int x5, .int x6]) (b := 288) (st := []) (q := 89) dX7_onScope_86 (c_X7_openScope (N := N) (d := d + 2) h (by omega) (by omega) (by omega) (by omega)) myX7_openScope lk_X7_144 im_X7_openScope se_X7_openScope rfl (by decide) (h.s l288 t288) (h.l l288) rfl rfl (Nat.le_of_ble_eq_true rfl) rfl (fun o H1 hh => ⟨_, hh.1⟩) (fun vv G7 hv => ?_)
    obtain ⟨o7, z7⟩ := hv
    cases o7
    obtain ⟨z7, w7⟩ := z7
    refine ⟨Or.inl (z7.nx.trans h.nx.symm), ?_⟩
    have h : jm N B 320 G7 := z7
    clear z7
    have hd : am_gi G7 315 = am_gi H 315 := w7.hd.trans hd
    have hf : am_gi G7 288 38 = am_gi H 288 38 := w7.fr.trans hf
    have q7 := w7.dl
    refine ae_aload_n (q := 90) dX7_onScope_89 rfl rfl rfl ?_
    refine ae_getR (q := 93) dX7_onScope_90 fl_X7_34 rfl (h.s l288 t288) (h.l l288) (h.mr (k := 8) (b := 297) (by decide) rfl) rfl ?_
    refine ae_iload_n (q := 94) dX7_onScope_93 rfl rfl rfl ?_
    refine ae_dup2 (q := 95) dX7_onScope_94 rfl rfl rfl ?_
    refine ae_iald (q := 96) dX7_onScope_95 (h.s l297 t297) (h.l l297) (vin (by omega) (by omega)) rfl ?_
    have m8 : am_gi G7 297 a1.toNatClampNeg = x1 := (congrFun w7.2.2.1 a1.toNatClampNeg).trans e1
    refine ae_eqi m8 ?_
    refine ae_iconst (v := 1) (q := 97) dX7_onScope_96 (by decide) rfl ?_
    refine ae_iadd (q := 98) dX7_onScope_97 rfl ?_
    obtain ⟨x9, e9⟩ : ∃ z, x1 + 1 = z := ⟨_, rfl⟩
    refine ae_eqi e9 ?_
    have f9 : x9.toInt = x1.toInt + 1 := by rw [← e9]; exact i_add rfl (by decide) (by omega) (by omega)
    refine ae_iast (q := 99) dX7_onScope_98 (h.s l297 t297) (h.l l297) (vin (by omega) (by omega)) rfl ?_
    refine ae_gen (fun G10 g10 => ?_)
    have h : jm N B 320 G10 := by rw [g10]; exact h.wown (mk_inr (by omega) (by omega))
    have hd : am_gi G10 315 = am_gi H 315 := by rw [g10]; exact (gi_rowne (by decide)).trans hd
    have hf : am_gi G10 288 38 = am_gi H 288 38 := by rw [g10]; exact gi_si hf (fun q => absurd q.1 (by decide))
    have q10 : dl G10 = dl G7 := by rw [g10]; exact dl_ne (by decide) (by decide) (by decide) (fun q => absurd q.1 (by decide))
    refine ae_aload_n (q := 100) dX7_onScope_99 rfl rfl rfl ?_
    refine ae_getR (q := 103) dX7_onScope_100 fl_X7_25 rfl (h.s l288 t288) (h.l l288) (h.mr (k := 5) (b := 294) (by decide) rfl) rfl ?_
    refine ae_iload_n (q := 104) dX7_onScope_103 rfl rfl rfl ?_
    refine ae_dup2 (q := 105) dX7_onScope_104 rfl rfl rfl ?_
    refine ae_iald (q := 106) dX7_onScope_105 (h.s l294 t294) (h.l l294) (vin (by omega) (by omega)) rfl ?_
    obtain ⟨x11, e11, u11, v11⟩ := rdi (h.i l294 t294 (k := a1.toNatClampNeg) (p := (0, 16 + ((N : Nat) : Int))) rfl)
    refine ae_eqi e11 ?_
    refine ae_iconst (v := 1) (q := 107) dX7_onScope_106 (by decide) rfl ?_
    refine ae_iadd (q := 108) dX7_onScope_107 rfl ?_
    obtain ⟨x12, e12⟩ : ∃ z, x11 + 1 = z := ⟨_, rfl⟩
    refine ae_eqi e12 ?_
    have f12 : x12.toInt = x11.toInt + 1 := by rw [← e12]; exact i_add rfl (by decide) (by omega) (by omega)
    have h : jm (N + 1) B 320 G10 := h.up (by omega)
    refine ae_iast (q := 109) dX7_onScope_108 (h.s l294 t294) (h.l l294) (vin (by omega) (by omega)) rfl ?_
    refine ae_gen (fun G13 g13 => ?_)
    have h : jm (N + 1) B 320 G13 := by rw [g13]; exact h.w t294 (by decide) (by decide) (by decide) (mk_inr (lo := 0) (hi := 16 + (((N + 1) : Nat) : Int)) (by omega) (by omega))
    have hd : am_gi G13 315 = am_gi H 315 := by rw [g13]; exact (gi_rowne (by decide)).trans hd
    have hf : am_gi G13 288 38 = am_gi H 288 38 := by rw [g13]; exact gi_si hf (fun q => absurd q.1 (by decide))
    have q13 : dl G13 = dl G10 := by rw [g13]; exact dl_ne (by decide) (by decide) (by decide) (fun q => absurd q.1 (by decide))
    refine ae_vret dX7_onScope_109 rfl ?_
    exact ⟨rfl, ⟨h, hd, hf, (Or.inl (by omega))⟩⟩
  · have c2 := i_eq (a := x1.toInt) (b := 3) rfl (by decide) c2
    refine ae_aload_n (q := 16) dX7_onScope_15 rfl rfl rfl ?_
    refine ae_iload_n (q := 17) dX7_onScope_16 rfl rfl rfl ?_
    refine ae_iconst (v := 1) (q := 18) dX7_onScope_17 (by decide) rfl ?_
    refine ae_callV (ci := 7) (as := [.int a1, .int 1]) (b := 288) (st := []) (q := 21) dX7_onScope_18 (c_X7_raise (N := N) (d := d) h (by omega) (by omega)) myX7_raise lk_X7_176 im_X7_raise se_X7_raise rfl (by decide) (h.s l288 t288) (h.l l288) rfl rfl (Nat.le_of_ble_eq_true rfl) rfl (fun o H1 hh => ⟨_, hh.1⟩) (fun vv G14 hv => ?_)
    obtain ⟨o14, z14⟩ := hv
    cases o14
    obtain ⟨z14, w14⟩ := z14
    refine ⟨Or.inl (z14.nx.trans h.nx.symm), ?_⟩
    have h : jm N B 320 G14 := z14
    clear z14
    obtain ⟨wa14, wb14, q14⟩ := w14
    have hd : am_gi G14 315 = am_gi H 315 := wa14.trans hd
    have hf : am_gi G14 288 38 = am_gi H 288 38 := wb14.trans hf
    refine ae_goto (q := 109) dX7_onScope_21 (by decide) ?_
    refine ae_vret dX7_onScope_109 rfl ?_
    exact ⟨rfl, ⟨(h.up (by omega)), hd, hf, (q14.elim (fun q => Or.inl (by omega)) (fun q => Or.inr ⟨by omega, q.2⟩))⟩⟩
set_option maxRecDepth 100000 in
set_option maxHeartbeats 4000000 in
theorem c_X7_onScope_5 {ox : List (Nat × (Nat → Int32))} {d N : Nat} {B H : am_H} {a1 : Int32} {a3 : Int32} (hN : N + 0 ≤ 1000000) (h : jm N B 320 H) (u_1 : 0 ≤ a1.toInt) (v_1 : a1.toInt ≤ 47) : am_DB 0 ox (d + 3) yX7_onScope mX7_onScope [.ref 288, .int a1, .int 5, .int a3] H (fun o H1 => o = .inl none ∧ jm (N + 1) B 320 H1 ∧ ac a1.toNatClampNeg H H1) := by
  refine ae_enter rfl rfl rfl rfl (Nat.le_of_ble_eq_true rfl) ?_
  show am_EB 0 ox (d + 3) mX7_onScope 0 [(0, .ref 288), (1, .int a1), (2, .int 5), (3, .int a3)] [] H _
  have hd : am_gi H 315 = am_gi H 315 := rfl
  have hf : am_gi H 288 38 = am_gi H 288 38 := rfl
  refine ae_iload_n (q := 1) dX7_onScope_0 rfl rfl rfl ?_
  refine ae_iconst (v := 4) (q := 2) dX7_onScope_1 (by decide) rfl ?_
  refine ae_icmp_ne (t := 24) (q := 5) dX7_onScope_2 (by decide) rfl (fun _ => ?_) (fun h => absurd h (by decide))
  refine ae_iload_n (q := 25) dX7_onScope_24 rfl rfl rfl ?_
  refine ae_iconst (v := 5) (q := 26) dX7_onScope_25 (by decide) rfl ?_
  refine ae_icmp_ne (t := 47) (q := 29) dX7_onScope_26 (by decide) rfl (fun h => absurd h (by decide)) (fun _ => ?_)
  refine ae_aload_n (q := 30) dX7_onScope_29 rfl rfl rfl ?_
  refine ae_getR (q := 33) dX7_onScope_30 fl_X7_34 rfl (h.s l288 t288) (h.l l288) (h.mr (k := 8) (b := 297) (by decide) rfl) rfl ?_
  refine ae_iload_n (q := 34) dX7_onScope_33 rfl rfl rfl ?_
  refine ae_iald (q := 35) dX7_onScope_34 (h.s l297 t297) (h.l l297) (vin (by omega) (by omega)) rfl ?_
  obtain ⟨x1, e1, u1, v1⟩ := rdi (h.i l297 t297 (k := a1.toNatClampNeg) (p := (0, 3)) rfl)
  refine ae_eqi e1 ?_
  refine ae_if_ne (t := 47) (q := 38) dX7_onScope_35 (by decide) rfl (fun c2 => ?_) (fun c2 => ?_)
  · have c2 := i_ne (a := x1.toInt) (b := 0) rfl (by decide) c2
    refine ae_iload_n (q := 48) dX7_onScope_47 rfl rfl rfl ?_
    refine ae_iconst (v := 5) (q := 49) dX7_onScope_48 (by decide) rfl ?_
    refine ae_icmp_ne (t := 69) (q := 52) dX7_onScope_49 (by decide) rfl (fun h => absurd h (by decide)) (fun _ => ?_)
    refine ae_aload_n (q := 53) dX7_onScope_52 rfl rfl rfl ?_
    refine ae_getR (q := 56) dX7_onScope_53 fl_X7_46 rfl (h.s l288 t288) (h.l l288) (h.mr (k := 12) (b := 301) (by decide) rfl) rfl ?_
    refine ae_iload_n (q := 57) dX7_onScope_56 rfl rfl rfl ?_
    refine ae_iconst (v := 1) (q := 58) dX7_onScope_57 (by decide) rfl ?_
    refine ae_zast (q := 59) dX7_onScope_58 (h.s l301 t301) (h.l l301) (vin (by omega) (by omega)) rfl rfl ?_
    refine ae_gen (fun G3 g3 => ?_)
    have h : jm N B 320 G3 := by rw [g3]; exact h.wend1 (by rw [e1]; omega) (mk_inr (by decide) (by decide))
    have hd : am_gi G3 315 = am_gi H 315 := by rw [g3]; exact (gi_rowne (by decide)).trans hd
    have hf : am_gi G3 288 38 = am_gi H 288 38 := by rw [g3]; exact gi_si hf (fun q => absurd q.1 (by decide))
    have q3 : dl G3 = dl H := by rw [g3]; exact dl_ne (by decide) (by decide) (by decide) (fun q => absurd q.1 (by decide))
    refine ae_aload_n (q := 60) dX7_onScope_59 rfl rfl rfl ?_
    refine ae_getR (q := 63) dX7_onScope_60 fl_X7_50 rfl (h.s l288 t288) (h.l l288) (h.mr (k := 13) (b := 302) (by decide) rfl) rfl ?_
    refine ae_iload_n (q := 64) dX7_onScope_63 rfl rfl rfl ?_
    refine ae_iconst (v := 1) (q := 65) dX7_onScope_64 (by decide) rfl ?_
    refine ae_zast (q := 66) dX7_onScope_65 (h.s l302 t302) (h.l l302) (vin (by omega) (by omega)) rfl rfl ?_
    refine ae_gen (fun G4 g4 => ?_)
    have h : jm N B 320 G4 := by rw [g4]; exact h.w t302 (by decide) (by decide) (by decide) (mk_inr (lo := 0) (hi := 1) (by decide) (by decide))
    have hd : am_gi G4 315 = am_gi H 315 := by rw [g4]; exact (gi_rowne (by decide)).trans hd
    have hf : am_gi G4 288 38 = am_gi H 288 38 := by rw [g4]; exact gi_si hf (fun q => absurd q.1 (by decide))
    have q4 : dl G4 = dl G3 := by rw [g4]; exact dl_ne (by decide) (by decide) (by decide) (fun q => absurd q.1 (by decide))
    refine ae_goto (q := 109) dX7_onScope_66 (by decide) ?_
    refine ae_vret dX7_onScope_109 rfl ?_
    exact ⟨rfl, ⟨(h.up (by omega)), hd, hf, (Or.inl (by omega))⟩⟩
  · have c2 := i_eq (a := x1.toInt) (b := 0) rfl (by decide) c2
    refine ae_aload_n (q := 39) dX7_onScope_38 rfl rfl rfl ?_
    refine ae_iload_n (q := 40) dX7_onScope_39 rfl rfl rfl ?_
    refine ae_iconst (v := 4) (q := 41) dX7_onScope_40 (by decide) rfl ?_
    refine ae_callV (ci := 7) (as := [.int a1, .int 4]) (b := 288) (st := []) (q := 44) dX7_onScope_41 (c_X7_raise (N := N) (d := d) h (by omega) (by omega)) myX7_raise lk_X7_176 im_X7_raise se_X7_raise rfl (by decide) (h.s l288 t288) (h.l l288) rfl rfl (Nat.le_of_ble_eq_true rfl) rfl (fun o H1 hh => ⟨_, hh.1⟩) (fun vv G5 hv => ?_)
    obtain ⟨o5, z5⟩ := hv
    cases o5
    obtain ⟨z5, w5⟩ := z5
    refine ⟨Or.inl (z5.nx.trans h.nx.symm), ?_⟩
    have h : jm N B 320 G5 := z5
    clear z5
    obtain ⟨wa5, wb5, q5⟩ := w5
    have hd : am_gi G5 315 = am_gi H 315 := wa5.trans hd
    have hf : am_gi G5 288 38 = am_gi H 288 38 := wb5.trans hf
    refine ae_goto (q := 109) dX7_onScope_44 (by decide) ?_
    refine ae_vret dX7_onScope_109 rfl ?_
    exact ⟨rfl, ⟨(h.up (by omega)), hd, hf, (q5.elim (fun q => Or.inl (by omega)) (fun q => Or.inr ⟨by omega, q.2⟩))⟩⟩
set_option maxRecDepth 100000 in
set_option maxHeartbeats 4000000 in
theorem c_X7_newTask {ox : List (Nat × (Nat → Int32))} {d N : Nat} {B H : am_H} {a1 : Int32} {a2 : Int32} {a3 : Int32}  (h : jm N B 320 H) (u_1 : 0 ≤ a1.toInt) (v_1 : a1.toInt ≤ 7) (u_3 : 0 ≤ a3.toInt) (v_3 : a3.toInt ≤ 144) {xc : Int32} (e_xc : am_gi H 288 30 = xc) (u_xc : 0 ≤ xc.toInt) (v_xc : xc.toInt ≤ 47) : am_DB 0 ox d yX7_newTask mX7_newTask [.ref 288, .int a1, .int a2, .int a3] H (fun o H1 => (∃ v : Int32, o = .inl (some (.int v)) ∧ 0 ≤ v.toInt ∧ v.toInt ≤ 47) ∧ jm N B 320 H1 ∧ am_gi H1 315 = am_gi H 315 ∧ am_gi H1 288 38 = am_gi H 288 38 ∧ dl H1 = dl H + 1 ∧ am_gi H1 288 37 = am_gi H 288 37) := by
  refine ae_enter rfl rfl rfl rfl (Nat.le_of_ble_eq_true rfl) ?_
  show am_EB 0 ox d mX7_newTask 0 [(0, .ref 288), (1, .int a1), (2, .int a2), (3, .int a3)] [] H _
  have hd : am_gi H 315 = am_gi H 315 := rfl
  have hf : am_gi H 288 38 = am_gi H 288 38 := rfl
  obtain ⟨xs, e_xs⟩ : ∃ x, am_gi H 292 xc.toNatClampNeg = x := ⟨_, rfl⟩
  have ht : am_gi H 288 37 = am_gi H 288 37 := rfl
  refine ae_aload_n (q := 1) dX7_newTask_0 rfl rfl rfl ?_
  refine ae_getI (q := 4) dX7_newTask_1 fl_X7_119 rfl (h.s l288 t288) (h.l l288) rfl ?_
  refine ae_eqi e_xc ?_
  refine ae_istore (lv' := [(4, .int xc), (0, .ref 288), (1, .int a1), (2, .int a2), (3, .int a3)]) (q := 6) dX7_newTask_4 (by decide) rfl rfl ?_
  refine ae_aload_n (q := 7) dX7_newTask_6 rfl rfl rfl ?_
  refine ae_dup (q := 8) dX7_newTask_7 rfl rfl ?_
  refine ae_getI (q := 11) dX7_newTask_8 fl_X7_119 rfl (h.s l288 t288) (h.l l288) rfl ?_
  refine ae_eqi e_xc ?_
  refine ae_iconst (v := 1) (q := 12) dX7_newTask_11 (by decide) rfl ?_
  refine ae_iadd (q := 13) dX7_newTask_12 rfl ?_
  obtain ⟨x1, e1⟩ : ∃ z, xc + 1 = z := ⟨_, rfl⟩
  refine ae_eqi e1 ?_
  have f1 : x1.toInt = xc.toInt + 1 := by rw [← e1]; exact i_add rfl (by decide) (by omega) (by omega)
  refine ae_putI (q := 16) dX7_newTask_13 fl_X7_119 rfl rfl rfl (h.s l288 t288) (h.l l288) rfl ?_
  refine ae_gen (fun G2 g2 => ?_)
  have h : jm N B 320 G2 := by rw [g2]; exact h.w t288 (by decide) (by decide) (by decide) (mk_inr (lo := 0) (hi := 48) (by omega) (by omega))
  have hd : am_gi G2 315 = am_gi H 315 := by rw [g2]; exact (gi_rowne (by decide)).trans hd
  have hf : am_gi G2 288 38 = am_gi H 288 38 := by rw [g2]; exact gi_si hf (fun q => absurd q.2 (by decide))
  have q2 : dl G2 = dl H + ind xs := by rw [g2, ← e_xs]; exact (dl_tasks (by rw [e_xc]; omega) (by rw [e_xc]; omega)).trans (by rw [e_xc])
  have ht : am_gi G2 288 37 = am_gi H 288 37 := by rw [g2]; exact gi_si ht (fun q => absurd q.2 (by decide))
  refine ae_aload_n (q := 17) dX7_newTask_16 rfl rfl rfl ?_
  refine ae_getR (q := 20) dX7_newTask_17 fl_X7_28 rfl (h.s l288 t288) (h.l l288) (h.mr (k := 6) (b := 295) (by decide) rfl) rfl ?_
  refine ae_iload (q := 22) dX7_newTask_20 rfl rfl ?_
  refine ae_iload_n (q := 23) dX7_newTask_22 rfl rfl rfl ?_
  refine ae_iast (q := 24) dX7_newTask_23 (h.s l295 t295) (h.l l295) (vin (by omega) (by omega)) rfl ?_
  refine ae_gen (fun G3 g3 => ?_)
  have h : jm N B 320 G3 := by rw [g3]; exact h.w t295 (by decide) (by decide) (by decide) (mk_inr (lo := 0) (hi := 7) (by omega) (by omega))
  have hd : am_gi G3 315 = am_gi H 315 := by rw [g3]; exact (gi_rowne (by decide)).trans hd
  have hf : am_gi G3 288 38 = am_gi H 288 38 := by rw [g3]; exact gi_si hf (fun q => absurd q.1 (by decide))
  have q3 : dl G3 = dl G2 := by rw [g3]; exact dl_ne (by decide) (by decide) (by decide) (fun q => absurd q.1 (by decide))
  have ht : am_gi G3 288 37 = am_gi H 288 37 := by rw [g3]; exact gi_si ht (fun q => absurd q.1 (by decide))
  refine ae_aload_n (q := 25) dX7_newTask_24 rfl rfl rfl ?_
  refine ae_getR (q := 28) dX7_newTask_25 fl_X7_22 rfl (h.s l288 t288) (h.l l288) (h.mr (k := 4) (b := 293) (by decide) rfl) rfl ?_
  refine ae_iload (q := 30) dX7_newTask_28 rfl rfl ?_
  refine ae_iload_n (q := 31) dX7_newTask_30 rfl rfl rfl ?_
  refine ae_iast (q := 32) dX7_newTask_31 (h.s l293 t293) (h.l l293) (vin (by omega) (by omega)) rfl ?_
  refine ae_gen (fun G4 g4 => ?_)
  have h : jm N B 320 G4 := by rw [g4]; exact h.w t293 (by decide) (by decide) (by decide) inr_any
  have hd : am_gi G4 315 = am_gi H 315 := by rw [g4]; exact (gi_rowne (by decide)).trans hd
  have hf : am_gi G4 288 38 = am_gi H 288 38 := by rw [g4]; exact gi_si hf (fun q => absurd q.1 (by decide))
  have q4 : dl G4 = dl G3 := by rw [g4]; exact dl_ne (by decide) (by decide) (by decide) (fun q => absurd q.1 (by decide))
  have ht : am_gi G4 288 37 = am_gi H 288 37 := by rw [g4]; exact gi_si ht (fun q => absurd q.1 (by decide))
  refine ae_aload_n (q := 33) dX7_newTask_32 rfl rfl rfl ?_
  refine ae_getR (q := 36) dX7_newTask_33 fl_X7_25 rfl (h.s l288 t288) (h.l l288) (h.mr (k := 5) (b := 294) (by decide) rfl) rfl ?_
  refine ae_iload (q := 38) dX7_newTask_36 rfl rfl ?_
  refine ae_iconst (v := 0) (q := 39) dX7_newTask_38 (by decide) rfl ?_
  refine ae_iast (q := 40) dX7_newTask_39 (h.s l294 t294) (h.l l294) (vin (by omega) (by omega)) rfl ?_
  refine ae_gen (fun G5 g5 => ?_)
  have h : jm N B 320 G5 := by rw [g5]; exact h.w t294 (by decide) (by decide) (by decide) (mk_inr (lo := 0) (hi := 16 + ((N : Nat) : Int)) (by decide) (show (0 : Int) ≤ 16 + ((N : Nat) : Int) from by omega))
  have hd : am_gi G5 315 = am_gi H 315 := by rw [g5]; exact (gi_rowne (by decide)).trans hd
  have hf : am_gi G5 288 38 = am_gi H 288 38 := by rw [g5]; exact gi_si hf (fun q => absurd q.1 (by decide))
  have q5 : dl G5 = dl G4 := by rw [g5]; exact dl_ne (by decide) (by decide) (by decide) (fun q => absurd q.1 (by decide))
  have ht : am_gi G5 288 37 = am_gi H 288 37 := by rw [g5]; exact gi_si ht (fun q => absurd q.1 (by decide))
  refine ae_aload_n (q := 41) dX7_newTask_40 rfl rfl rfl ?_
  refine ae_getR (q := 44) dX7_newTask_41 fl_X7_34 rfl (h.s l288 t288) (h.l l288) (h.mr (k := 8) (b := 297) (by decide) rfl) rfl ?_
  refine ae_iload (q := 46) dX7_newTask_44 rfl rfl ?_
  refine ae_iconst (v := 0) (q := 47) dX7_newTask_46 (by decide) rfl ?_
  refine ae_iast (q := 48) dX7_newTask_47 (h.s l297 t297) (h.l l297) (vin (by omega) (by omega)) rfl ?_
  refine ae_gen (fun G6 g6 => ?_)
  have h : jm N B xc.toNatClampNeg G6 := by rw [g6]; exact h.wown0 (mk_inr (by decide) (by decide))
  have hd : am_gi G6 315 = am_gi H 315 := by rw [g6]; exact (gi_rowne (by decide)).trans hd
  have hf : am_gi G6 288 38 = am_gi H 288 38 := by rw [g6]; exact gi_si hf (fun q => absurd q.1 (by decide))
  have q6 : dl G6 = dl G5 := by rw [g6]; exact dl_ne (by decide) (by decide) (by decide) (fun q => absurd q.1 (by decide))
  have ht : am_gi G6 288 37 = am_gi H 288 37 := by rw [g6]; exact gi_si ht (fun q => absurd q.1 (by decide))
  refine ae_aload_n (q := 49) dX7_newTask_48 rfl rfl rfl ?_
  refine ae_getR (q := 52) dX7_newTask_49 fl_X7_31 rfl (h.s l288 t288) (h.l l288) (h.mr (k := 7) (b := 296) (by decide) rfl) rfl ?_
  refine ae_iload (q := 54) dX7_newTask_52 rfl rfl ?_
  refine ae_iload_n (q := 55) dX7_newTask_54 rfl rfl rfl ?_
  refine ae_iast (q := 56) dX7_newTask_55 (h.s l296 t296) (h.l l296) (vin (by omega) (by omega)) rfl ?_
  refine ae_gen (fun G7 g7 => ?_)
  have h : jm N B xc.toNatClampNeg G7 := by rw [g7]; exact h.w t296 (by decide) (by decide) (by decide) (mk_inr (lo := 0) (hi := 144) (by omega) (by omega))
  have hd : am_gi G7 315 = am_gi H 315 := by rw [g7]; exact (gi_rowne (by decide)).trans hd
  have hf : am_gi G7 288 38 = am_gi H 288 38 := by rw [g7]; exact gi_si hf (fun q => absurd q.1 (by decide))
  have q7 : dl G7 = dl G6 := by rw [g7]; exact dl_ne (by decide) (by decide) (by decide) (fun q => absurd q.1 (by decide))
  have ht : am_gi G7 288 37 = am_gi H 288 37 := by rw [g7]; exact gi_si ht (fun q => absurd q.1 (by decide))
  refine ae_aload_n (q := 57) dX7_newTask_56 rfl rfl rfl ?_
  refine ae_getR (q := 60) dX7_newTask_57 fl_X7_19 rfl (h.s l288 t288) (h.l l288) (h.mr (k := 3) (b := 292) (by decide) rfl) rfl ?_
  refine ae_iload (q := 62) dX7_newTask_60 rfl rfl ?_
  refine ae_iconst (v := 0) (q := 63) dX7_newTask_62 (by decide) rfl ?_
  refine ae_iast (q := 64) dX7_newTask_63 (h.s l292 t292) (h.l l292) (vin (by omega) (by omega)) rfl ?_
  have m8 : am_gi G2 292 xc.toNatClampNeg = xs := by rw [g2]; exact gi_si e_xs (fun q => absurd q.1 (by decide))
  have m9 : am_gi G3 292 xc.toNatClampNeg = xs := by rw [g3]; exact gi_si m8 (fun q => absurd q.1 (by decide))
  have m10 : am_gi G4 292 xc.toNatClampNeg = xs := by rw [g4]; exact gi_si m9 (fun q => absurd q.1 (by decide))
  have m11 : am_gi G5 292 xc.toNatClampNeg = xs := by rw [g5]; exact gi_si m10 (fun q => absurd q.1 (by decide))
  have m12 : am_gi G6 292 xc.toNatClampNeg = xs := by rw [g6]; exact gi_si m11 (fun q => absurd q.1 (by decide))
  have m13 : am_gi G7 292 xc.toNatClampNeg = xs := by rw [g7]; exact gi_si m12 (fun q => absurd q.1 (by decide))
  refine ae_gen (fun G14 g14 => ?_)
  have h : jm N B xc.toNatClampNeg G14 := by rw [g14]; exact h.w t292 (by decide) (by decide) (by decide) (mk_inr (lo := 0) (hi := 3) (by decide) (by decide))
  have hd : am_gi G14 315 = am_gi H 315 := by rw [g14]; exact (gi_rowne (by decide)).trans hd
  have hf : am_gi G14 288 38 = am_gi H 288 38 := by rw [g14]; exact gi_si hf (fun q => absurd q.1 (by decide))
  have m15 : am_gi G3 288 30 = x1 := by rw [g3]; exact gi_si (show am_gi G2 288 30 = x1 by rw [g2]; exact gi_set) (fun q => absurd q.1 (by decide))
  have m16 : am_gi G4 288 30 = x1 := by rw [g4]; exact gi_si m15 (fun q => absurd q.1 (by decide))
  have m17 : am_gi G5 288 30 = x1 := by rw [g5]; exact gi_si m16 (fun q => absurd q.1 (by decide))
  have m18 : am_gi G6 288 30 = x1 := by rw [g6]; exact gi_si m17 (fun q => absurd q.1 (by decide))
  have m19 : am_gi G7 288 30 = x1 := by rw [g7]; exact gi_si m18 (fun q => absurd q.1 (by decide))
  have q14 : dl G14 = dl G7 + ind 0 - ind xs := by rw [g14]; exact (dl_state (by rw [m19]; exact nlt_of (by omega) (by omega))).trans (by rw [m13])
  have qi14 : ind 0 = 1 := by decide
  have ht : am_gi G14 288 37 = am_gi H 288 37 := by rw [g14]; exact gi_si ht (fun q => absurd q.1 (by decide))
  refine ae_aload_n (q := 65) dX7_newTask_64 rfl rfl rfl ?_
  refine ae_getR (q := 68) dX7_newTask_65 fl_X7_37 rfl (h.s l288 t288) (h.l l288) (h.mr (k := 9) (b := 298) (by decide) rfl) rfl ?_
  refine ae_iload (q := 70) dX7_newTask_68 rfl rfl ?_
  refine ae_iconst (v := 0) (q := 71) dX7_newTask_70 (by decide) rfl ?_
  refine ae_iast (q := 72) dX7_newTask_71 (h.s l298 t298) (h.l l298) (vin (by omega) (by omega)) rfl ?_
  refine ae_gen (fun G20 g20 => ?_)
  have h : jm N B xc.toNatClampNeg G20 := by rw [g20]; exact h.w t298 (by decide) (by decide) (by decide) (mk_inr (lo := 0) (hi := 4) (by decide) (by decide))
  have hd : am_gi G20 315 = am_gi H 315 := by rw [g20]; exact (gi_rowne (by decide)).trans hd
  have hf : am_gi G20 288 38 = am_gi H 288 38 := by rw [g20]; exact gi_si hf (fun q => absurd q.1 (by decide))
  have q20 : dl G20 = dl G14 := by rw [g20]; exact dl_ne (by decide) (by decide) (by decide) (fun q => absurd q.1 (by decide))
  have ht : am_gi G20 288 37 = am_gi H 288 37 := by rw [g20]; exact gi_si ht (fun q => absurd q.1 (by decide))
  refine ae_aload_n (q := 73) dX7_newTask_72 rfl rfl rfl ?_
  refine ae_getR (q := 76) dX7_newTask_73 fl_X7_46 rfl (h.s l288 t288) (h.l l288) (h.mr (k := 12) (b := 301) (by decide) rfl) rfl ?_
  refine ae_iload (q := 78) dX7_newTask_76 rfl rfl ?_
  refine ae_iconst (v := 0) (q := 79) dX7_newTask_78 (by decide) rfl ?_
  refine ae_zast (q := 80) dX7_newTask_79 (h.s l301 t301) (h.l l301) (vin (by omega) (by omega)) rfl rfl ?_
  refine ae_gen (fun G21 g21 => ?_)
  have h : jm N B 320 G21 := by rw [g21]; exact h.wendE
  have hd : am_gi G21 315 = am_gi H 315 := by rw [g21]; exact (gi_rowne (by decide)).trans hd
  have hf : am_gi G21 288 38 = am_gi H 288 38 := by rw [g21]; exact gi_si hf (fun q => absurd q.1 (by decide))
  have q21 : dl G21 = dl G20 := by rw [g21]; exact dl_ne (by decide) (by decide) (by decide) (fun q => absurd q.1 (by decide))
  have ht : am_gi G21 288 37 = am_gi H 288 37 := by rw [g21]; exact gi_si ht (fun q => absurd q.1 (by decide))
  refine ae_aload_n (q := 81) dX7_newTask_80 rfl rfl rfl ?_
  refine ae_getR (q := 84) dX7_newTask_81 fl_X7_53 rfl (h.s l288 t288) (h.l l288) (h.mr (k := 14) (b := 303) (by decide) rfl) rfl ?_
  refine ae_iload (q := 86) dX7_newTask_84 rfl rfl ?_
  refine ae_iconst (v := 0) (q := 87) dX7_newTask_86 (by decide) rfl ?_
  refine ae_zast (q := 88) dX7_newTask_87 (h.s l303 t303) (h.l l303) (vin (by omega) (by omega)) rfl rfl ?_
  refine ae_gen (fun G22 g22 => ?_)
  have h : jm N B 320 G22 := by rw [g22]; exact h.w t303 (by decide) (by decide) (by decide) (mk_inr (lo := 0) (hi := 1) (by decide) (by decide))
  have hd : am_gi G22 315 = am_gi H 315 := by rw [g22]; exact (gi_rowne (by decide)).trans hd
  have hf : am_gi G22 288 38 = am_gi H 288 38 := by rw [g22]; exact gi_si hf (fun q => absurd q.1 (by decide))
  have q22 : dl G22 = dl G21 := by rw [g22]; exact dl_ne (by decide) (by decide) (by decide) (fun q => absurd q.1 (by decide))
  have ht : am_gi G22 288 37 = am_gi H 288 37 := by rw [g22]; exact gi_si ht (fun q => absurd q.1 (by decide))
  refine ae_iconst (v := 0) (q := 89) dX7_newTask_88 (by decide) rfl ?_
  refine ae_istore (lv' := [(5, .int 0), (4, .int xc), (0, .ref 288), (1, .int a1), (2, .int a2), (3, .int a3)]) (q := 91) dX7_newTask_89 (by decide) rfl rfl ?_
  refine ae_iload (q := 93) dX7_newTask_91 rfl rfl ?_
  refine ae_iconst (v := 2) (q := 94) dX7_newTask_93 (by decide) rfl ?_
  refine ae_icmp_ge (t := 116) (q := 97) dX7_newTask_94 (by decide) rfl (fun h => absurd h (by decide)) (fun _ => ?_)
  refine ae_aload_n (q := 98) dX7_newTask_97 rfl rfl rfl ?_
  refine ae_getR (q := 101) dX7_newTask_98 fl_X7_59 rfl (h.s l288 t288) (h.l l288) (h.mr (k := 16) (b := 305) (by decide) rfl) rfl ?_
  refine ae_iconst (v := 2) (q := 102) dX7_newTask_101 (by decide) rfl ?_
  refine ae_iload (q := 104) dX7_newTask_102 rfl rfl ?_
  refine ae_imul (q := 105) dX7_newTask_104 rfl ?_
  obtain ⟨x23, e23⟩ : ∃ z, 2 * xc = z := ⟨_, rfl⟩
  refine ae_eqi e23 ?_
  have f23 : x23.toInt = 2 * xc.toInt := by rw [← e23]; exact i_mul (by decide) rfl (by omega) (by omega)
  refine ae_iload (q := 107) dX7_newTask_105 rfl rfl ?_
  refine ae_iadd (q := 108) dX7_newTask_107 rfl ?_
  obtain ⟨x24, e24⟩ : ∃ z, x23 + 0 = z := ⟨_, rfl⟩
  refine ae_eqi e24 ?_
  have f24 : x24.toInt = x23.toInt + 0 := by rw [← e24]; exact i_add rfl (by decide) (by omega) (by omega)
  refine ae_iconst (v := 0) (q := 109) dX7_newTask_108 (by decide) rfl ?_
  refine ae_iast (q := 110) dX7_newTask_109 (h.s l305 t305) (h.l l305) (vin (by omega) (by omega)) rfl ?_
  refine ae_gen (fun G25 g25 => ?_)
  have h : jm N B 320 G25 := by rw [g25]; exact h.w t305 (by decide) (by decide) (by decide) inr_any
  have hd : am_gi G25 315 = am_gi H 315 := by rw [g25]; exact (gi_rowne (by decide)).trans hd
  have hf : am_gi G25 288 38 = am_gi H 288 38 := by rw [g25]; exact gi_si hf (fun q => absurd q.1 (by decide))
  have q25 : dl G25 = dl G22 := by rw [g25]; exact dl_ne (by decide) (by decide) (by decide) (fun q => absurd q.1 (by decide))
  have ht : am_gi G25 288 37 = am_gi H 288 37 := by rw [g25]; exact gi_si ht (fun q => absurd q.1 (by decide))
  refine ae_iinc (v := 1) (lv' := [(5, .int 1), (4, .int xc), (0, .ref 288), (1, .int a1), (2, .int a2), (3, .int a3)]) (q := 113) dX7_newTask_110 rfl (by decide) (by decide) rfl rfl ?_
  refine ae_goto (q := 91) dX7_newTask_113 (by decide) ?_
  refine ae_iload (q := 93) dX7_newTask_91 rfl rfl ?_
  refine ae_iconst (v := 2) (q := 94) dX7_newTask_93 (by decide) rfl ?_
  refine ae_icmp_ge (t := 116) (q := 97) dX7_newTask_94 (by decide) rfl (fun h => absurd h (by decide)) (fun _ => ?_)
  refine ae_aload_n (q := 98) dX7_newTask_97 rfl rfl rfl ?_
  refine ae_getR (q := 101) dX7_newTask_98 fl_X7_59 rfl (h.s l288 t288) (h.l l288) (h.mr (k := 16) (b := 305) (by decide) rfl) rfl ?_
  refine ae_iconst (v := 2) (q := 102) dX7_newTask_101 (by decide) rfl ?_
  refine ae_iload (q := 104) dX7_newTask_102 rfl rfl ?_
  refine ae_imul (q := 105) dX7_newTask_104 rfl ?_
  refine ae_eqi e23 ?_
  refine ae_iload (q := 107) dX7_newTask_105 rfl rfl ?_
  refine ae_iadd (q := 108) dX7_newTask_107 rfl ?_
  obtain ⟨x26, e26⟩ : ∃ z, x23 + 1 = z := ⟨_, rfl⟩
  refine ae_eqi e26 ?_
  have f26 : x26.toInt = x23.toInt + 1 := by rw [← e26]; exact i_add rfl (by decide) (by omega) (by omega)
  refine ae_iconst (v := 0) (q := 109) dX7_newTask_108 (by decide) rfl ?_
  refine ae_iast (q := 110) dX7_newTask_109 (h.s l305 t305) (h.l l305) (vin (by omega) (by omega)) rfl ?_
  refine ae_gen (fun G27 g27 => ?_)
  have h : jm N B 320 G27 := by rw [g27]; exact h.w t305 (by decide) (by decide) (by decide) inr_any
  have hd : am_gi G27 315 = am_gi H 315 := by rw [g27]; exact (gi_rowne (by decide)).trans hd
  have hf : am_gi G27 288 38 = am_gi H 288 38 := by rw [g27]; exact gi_si hf (fun q => absurd q.1 (by decide))
  have q27 : dl G27 = dl G25 := by rw [g27]; exact dl_ne (by decide) (by decide) (by decide) (fun q => absurd q.1 (by decide))
  have ht : am_gi G27 288 37 = am_gi H 288 37 := by rw [g27]; exact gi_si ht (fun q => absurd q.1 (by decide))
  refine ae_iinc (v := 2) (lv' := [(5, .int 2), (4, .int xc), (0, .ref 288), (1, .int a1), (2, .int a2), (3, .int a3)]) (q := 113) dX7_newTask_110 rfl (by decide) (by decide) rfl rfl ?_
  refine ae_goto (q := 91) dX7_newTask_113 (by decide) ?_
  refine ae_iload (q := 93) dX7_newTask_91 rfl rfl ?_
  refine ae_iconst (v := 2) (q := 94) dX7_newTask_93 (by decide) rfl ?_
  refine ae_icmp_ge (t := 116) (q := 97) dX7_newTask_94 (by decide) rfl (fun _ => ?_) (fun h => absurd h (by decide))
  refine ae_aload_n (q := 117) dX7_newTask_116 rfl rfl rfl ?_
  refine ae_getR (q := 120) dX7_newTask_117 fl_X7_71 rfl (h.s l288 t288) (h.l l288) (h.mr (k := 20) (b := 309) (by decide) rfl) rfl ?_
  refine ae_iload_n (q := 121) dX7_newTask_120 rfl rfl rfl ?_
  refine ae_dup2 (q := 122) dX7_newTask_121 rfl rfl rfl ?_
  refine ae_iald (q := 123) dX7_newTask_122 (h.s l309 t309) (h.l l309) (vin (by omega) (by omega)) rfl ?_
  obtain ⟨x28, e28⟩ : ∃ x, am_gi G27 309 a3.toNatClampNeg = x := ⟨_, rfl⟩
  refine ae_eqi e28 ?_
  refine ae_iconst (v := 1) (q := 124) dX7_newTask_123 (by decide) rfl ?_
  refine ae_iadd (q := 125) dX7_newTask_124 rfl ?_
  obtain ⟨x29, e29⟩ : ∃ z, x28 + 1 = z := ⟨_, rfl⟩
  refine ae_eqi e29 ?_
  refine ae_iast (q := 126) dX7_newTask_125 (h.s l309 t309) (h.l l309) (vin (by omega) (by omega)) rfl ?_
  refine ae_gen (fun G30 g30 => ?_)
  have h : jm N B 320 G30 := by rw [g30]; exact h.w t309 (by decide) (by decide) (by decide) inr_any
  have hd : am_gi G30 315 = am_gi H 315 := by rw [g30]; exact (gi_rowne (by decide)).trans hd
  have hf : am_gi G30 288 38 = am_gi H 288 38 := by rw [g30]; exact gi_si hf (fun q => absurd q.1 (by decide))
  have q30 : dl G30 = dl G27 := by rw [g30]; exact dl_ne (by decide) (by decide) (by decide) (fun q => absurd q.1 (by decide))
  have ht : am_gi G30 288 37 = am_gi H 288 37 := by rw [g30]; exact gi_si ht (fun q => absurd q.1 (by decide))
  refine ae_iload (q := 128) dX7_newTask_126 rfl rfl ?_
  refine ae_iret dX7_newTask_128 rfl rfl ?_
  exact ⟨⟨_, rfl, (by omega), (by omega)⟩, ⟨h, hd, hf, by omega, ht⟩⟩
set_option maxRecDepth 100000 in
set_option maxHeartbeats 4000000 in
theorem c_X7_spawn_2 {ox : List (Nat × (Nat → Int32))} {d N : Nat} {B H : am_H} {a1 : Int32} {a3 : Int32} (hN : N + 0 ≤ 1000000) (h : jm N B 320 H) (u_1 : 0 ≤ a1.toInt) (v_1 : a1.toInt ≤ 47) (u_3 : 0 ≤ a3.toInt) (v_3 : a3.toInt ≤ 7) : am_DB 0 ox (d + 3) yX7_spawn mX7_spawn [.ref 288, .int a1, .int 2, .int a3] H (fun o H1 => o = .inl none ∧ jm (N + 1) B 320 H1 ∧ am_gi H1 315 = am_gi H 315 ∧ (am_gi H1 288 38 = am_gi H 288 38 ∧ (dl H ≤ dl H1 ∨ dl H - 1 ≤ dl H1 ∧ (am_gi H1 292 a1.toNatClampNeg).toInt ≠ 1) ∨ dl H + 1 ≤ dl H1)) := by
  refine ae_enter rfl rfl rfl rfl (Nat.le_of_ble_eq_true rfl) ?_
  show am_EB 0 ox (d + 3) mX7_spawn 0 [(0, .ref 288), (1, .int a1), (2, .int 2), (3, .int a3)] [] H _
  have hd : am_gi H 315 = am_gi H 315 := rfl
  have hf : am_gi H 288 38 = am_gi H 288 38 := rfl
  refine ae_aload_n (q := 1) dX7_spawn_0 rfl rfl rfl ?_
  refine ae_getI (q := 4) dX7_spawn_1 fl_X7_119 rfl (h.s l288 t288) (h.l l288) rfl ?_
  obtain ⟨x1, e1, u1, v1⟩ := rdi (h.i l288 t288 (k := 30) (p := (0, 48)) rfl)
  refine ae_eqi e1 ?_
  refine ae_bipush (v := 48) (q := 6) dX7_spawn_4 (by decide) rfl ?_
  refine ae_icmp_ne (t := 16) (q := 9) dX7_spawn_6 (by decide) rfl (fun c2 => ?_) (fun c2 => ?_)
  · have c2 := i_ne (a := x1.toInt) (b := 48) rfl (by decide) c2
    refine ae_aload_n (q := 17) dX7_spawn_16 rfl rfl rfl ?_
    refine ae_iload_n (q := 18) dX7_spawn_17 rfl rfl rfl ?_
    refine ae_bipush (v := 9) (q := 20) dX7_spawn_18 (by decide) rfl ?_
    refine ae_icmp_ne (t := 29) (q := 23) dX7_spawn_20 (by decide) rfl (fun _ => ?_) (fun h => absurd h (by decide))
    refine ae_iload_n (q := 30) dX7_spawn_29 rfl rfl rfl ?_
    refine ae_aload_n (q := 31) dX7_spawn_30 rfl rfl rfl ?_
    refine ae_getR (q := 34) dX7_spawn_31 fl_X7_22 rfl (h.s l288 t288) (h.l l288) (h.mr (k := 4) (b := 293) (by decide) rfl) rfl ?_
    refine ae_iload_n (q := 35) dX7_spawn_34 rfl rfl rfl ?_
    refine ae_iald (q := 36) dX7_spawn_35 (h.s l293 t293) (h.l l293) (vin (by omega) (by omega)) rfl ?_
    obtain ⟨x3, e3⟩ : ∃ x, am_gi H 293 a1.toNatClampNeg = x := ⟨_, rfl⟩
    refine ae_eqi e3 ?_
    refine ae_aload_n (q := 37) dX7_spawn_36 rfl rfl rfl ?_
    refine ae_iload_n (q := 38) dX7_spawn_37 rfl rfl rfl ?_
    refine ae_callV (ci := 7) (as := [.int a1]) (b := 288) (st := [.int x3, .int a3, .ref 288]) (q := 41) dX7_spawn_38 (c_X7_inner (N := N) (d := d + 2) h (by omega) (by omega)) myX7_inner lk_X7_166 im_X7_inner se_X7_inner rfl (by decide) (h.s l288 t288) (h.l l288) rfl rfl (Nat.le_of_ble_eq_true rfl) rfl (fun o H1 hh => ⟨_, hh.1.choose_spec.1⟩) (fun vv G4 hv => ?_)
    obtain ⟨⟨x4, o4, u4, v4⟩, z4⟩ := hv
    cases o4
    have z4 := z4.symm
    subst z4
    refine ⟨Or.inl rfl, ?_⟩
    refine ae_callV (ci := 7) (as := [.int a3, .int x3, .int x4]) (b := 288) (st := []) (q := 44) dX7_spawn_41 (c_X7_newTask (N := N) (d := d + 2) h (by omega) (by omega) (by omega) (by omega) (xc := x1) e1 (by omega) (by omega)) myX7_newTask lk_X7_148 im_X7_newTask se_X7_newTask rfl (by decide) (h.s l288 t288) (h.l l288) rfl rfl (Nat.le_of_ble_eq_true rfl) rfl (fun o H1 hh => ⟨_, hh.1.choose_spec.1⟩) (fun vv G5 hv => ?_)
    obtain ⟨⟨x5, o5, u5, v5⟩, z5⟩ := hv
    cases o5
    obtain ⟨z5, w5⟩ := z5
    refine ⟨Or.inl (z5.nx.trans h.nx.symm), ?_⟩
    have h : jm N B 320 G5 := z5
    clear z5
    obtain ⟨wa5, wb5, q5, wt5⟩ := w5
    have hd : am_gi G5 315 = am_gi H 315 := wa5.trans hd
    have hf : am_gi G5 288 38 = am_gi H 288 38 := wb5.trans hf
    refine ae_istore (lv' := [(4, .int x5), (0, .ref 288), (1, .int a1), (2, .int 2), (3, .int a3)]) (q := 46) dX7_spawn_44 (by decide) rfl rfl ?_
    refine ae_iconst (v := 0) (q := 47) dX7_spawn_46 (by decide) rfl ?_
    refine ae_istore (lv' := [(5, .int 0), (4, .int x5), (0, .ref 288), (1, .int a1), (2, .int 2), (3, .int a3)]) (q := 49) dX7_spawn_47 (by decide) rfl rfl ?_
    refine ae_iload (q := 51) dX7_spawn_49 rfl rfl ?_
    refine ae_iconst (v := 2) (q := 52) dX7_spawn_51 (by decide) rfl ?_
    refine ae_icmp_ge (t := 135) (q := 55) dX7_spawn_52 (by decide) rfl (fun h => absurd h (by decide)) (fun _ => ?_)
    refine ae_iload_n (q := 56) dX7_spawn_55 rfl rfl rfl ?_
    refine ae_iconst (v := 3) (q := 57) dX7_spawn_56 (by decide) rfl ?_
    refine ae_icmp_ne (t := 135) (q := 60) dX7_spawn_57 (by decide) rfl (fun _ => ?_) (fun h => absurd h (by decide))
    refine ae_iload_n (q := 136) dX7_spawn_135 rfl rfl rfl ?_
    refine ae_bipush (v := 9) (q := 138) dX7_spawn_136 (by decide) rfl ?_
    refine ae_icmp_ne (t := 161) (q := 141) dX7_spawn_138 (by decide) rfl (fun _ => ?_) (fun h => absurd h (by decide))
    refine ae_aload_n (q := 162) dX7_spawn_161 rfl rfl rfl ?_
    refine ae_iload (q := 164) dX7_spawn_162 rfl rfl ?_
    refine ae_putI (q := 167) dX7_spawn_164 fl_X7_179 rfl rfl rfl (h.s l288 t288) (h.l l288) rfl ?_
    refine ae_gen (fun G6 g6 => ?_)
    have h : jm N B 320 G6 := by rw [g6]; exact h.w t288 (by decide) (by decide) (by decide) (mk_inr (lo := (-1)) (hi := 47) (by omega) (by omega))
    have hd : am_gi G6 315 = am_gi H 315 := by rw [g6]; exact (gi_rowne (by decide)).trans hd
    have q6 : dl G6 = dl G5 := by rw [g6]; exact dl_ne (by decide) (by decide) (by decide) (fun q => absurd q.2 (by decide))
    refine ae_aload_n (q := 168) dX7_spawn_167 rfl rfl rfl ?_
    refine ae_getR (q := 171) dX7_spawn_168 fl_X7_25 rfl (h.s l288 t288) (h.l l288) (h.mr (k := 5) (b := 294) (by decide) rfl) rfl ?_
    refine ae_iload_n (q := 172) dX7_spawn_171 rfl rfl rfl ?_
    refine ae_dup2 (q := 173) dX7_spawn_172 rfl rfl rfl ?_
    refine ae_iald (q := 174) dX7_spawn_173 (h.s l294 t294) (h.l l294) (vin (by omega) (by omega)) rfl ?_
    obtain ⟨x7, e7, u7, v7⟩ := rdi (h.i l294 t294 (k := a1.toNatClampNeg) (p := (0, 16 + ((N : Nat) : Int))) rfl)
    refine ae_eqi e7 ?_
    refine ae_iconst (v := 1) (q := 175) dX7_spawn_174 (by decide) rfl ?_
    refine ae_iadd (q := 176) dX7_spawn_175 rfl ?_
    obtain ⟨x8, e8⟩ : ∃ z, x7 + 1 = z := ⟨_, rfl⟩
    refine ae_eqi e8 ?_
    have f8 : x8.toInt = x7.toInt + 1 := by rw [← e8]; exact i_add rfl (by decide) (by omega) (by omega)
    have h : jm (N + 1) B 320 G6 := h.up (by omega)
    refine ae_iast (q := 177) dX7_spawn_176 (h.s l294 t294) (h.l l294) (vin (by omega) (by omega)) rfl ?_
    refine ae_gen (fun G9 g9 => ?_)
    have h : jm (N + 1) B 320 G9 := by rw [g9]; exact h.w t294 (by decide) (by decide) (by decide) (mk_inr (lo := 0) (hi := 16 + (((N + 1) : Nat) : Int)) (by omega) (by omega))
    have hd : am_gi G9 315 = am_gi H 315 := by rw [g9]; exact (gi_rowne (by decide)).trans hd
    have q9 : dl G9 = dl G6 := by rw [g9]; exact dl_ne (by decide) (by decide) (by decide) (fun q => absurd q.1 (by decide))
    refine ae_vret dX7_spawn_177 rfl ?_
    exact ⟨rfl, ⟨h, hd, (Or.inr (by omega))⟩⟩
  · have c2 := i_eq (a := x1.toInt) (b := 48) rfl (by decide) c2
    refine ae_aload_n (q := 10) dX7_spawn_9 rfl rfl rfl ?_
    refine ae_iload_n (q := 11) dX7_spawn_10 rfl rfl rfl ?_
    refine ae_iconst (v := 1) (q := 12) dX7_spawn_11 (by decide) rfl ?_
    refine ae_callV (ci := 7) (as := [.int a1, .int 1]) (b := 288) (st := []) (q := 15) dX7_spawn_12 (c_X7_raise (N := N) (d := d) h (by omega) (by omega)) myX7_raise lk_X7_176 im_X7_raise se_X7_raise rfl (by decide) (h.s l288 t288) (h.l l288) rfl rfl (Nat.le_of_ble_eq_true rfl) rfl (fun o H1 hh => ⟨_, hh.1⟩) (fun vv G10 hv => ?_)
    obtain ⟨o10, z10⟩ := hv
    cases o10
    obtain ⟨z10, w10⟩ := z10
    refine ⟨Or.inl (z10.nx.trans h.nx.symm), ?_⟩
    have h : jm N B 320 G10 := z10
    clear z10
    obtain ⟨wa10, wb10, q10⟩ := w10
    have hd : am_gi G10 315 = am_gi H 315 := wa10.trans hd
    have hf : am_gi G10 288 38 = am_gi H 288 38 := wb10.trans hf
    refine ae_vret dX7_spawn_15 rfl ?_
    exact ⟨rfl, ⟨(h.up (by omega)), hd, (Or.inl ⟨hf, q10.elim (fun q => Or.inl (by omega)) (fun q => Or.inr ⟨by omega, q.2⟩)⟩)⟩⟩
set_option maxRecDepth 100000 in
set_option maxHeartbeats 4000000 in
theorem c_X7_spawn_3 {ox : List (Nat × (Nat → Int32))} {d N : Nat} {B H : am_H} {a1 : Int32} {a3 : Int32} (hN : N + 0 ≤ 1000000) (h : jm N B 320 H) (u_1 : 0 ≤ a1.toInt) (v_1 : a1.toInt ≤ 47) (u_3 : 0 ≤ a3.toInt) (v_3 : a3.toInt ≤ 7) : am_DB 0 ox (d + 3) yX7_spawn mX7_spawn [.ref 288, .int a1, .int 3, .int a3] H (fun o H1 => o = .inl none ∧ jm (N + 1) B 320 H1 ∧ am_gi H1 315 = am_gi H 315 ∧ (am_gi H1 288 38 = am_gi H 288 38 ∧ (dl H ≤ dl H1 ∨ dl H - 1 ≤ dl H1 ∧ (am_gi H1 292 a1.toNatClampNeg).toInt ≠ 1) ∨ dl H + 1 ≤ dl H1)) := by
  refine ae_enter rfl rfl rfl rfl (Nat.le_of_ble_eq_true rfl) ?_
  show am_EB 0 ox (d + 3) mX7_spawn 0 [(0, .ref 288), (1, .int a1), (2, .int 3), (3, .int a3)] [] H _
  have hd : am_gi H 315 = am_gi H 315 := rfl
  have hf : am_gi H 288 38 = am_gi H 288 38 := rfl
  refine ae_aload_n (q := 1) dX7_spawn_0 rfl rfl rfl ?_
  refine ae_getI (q := 4) dX7_spawn_1 fl_X7_119 rfl (h.s l288 t288) (h.l l288) rfl ?_
  obtain ⟨x1, e1, u1, v1⟩ := rdi (h.i l288 t288 (k := 30) (p := (0, 48)) rfl)
  refine ae_eqi e1 ?_
  refine ae_bipush (v := 48) (q := 6) dX7_spawn_4 (by decide) rfl ?_
  refine ae_icmp_ne (t := 16) (q := 9) dX7_spawn_6 (by decide) rfl (fun c2 => ?_) (fun c2 => ?_)
  · have c2 := i_ne (a := x1.toInt) (b := 48) rfl (by decide) c2
    refine ae_aload_n (q := 17) dX7_spawn_16 rfl rfl rfl ?_
    refine ae_iload_n (q := 18) dX7_spawn_17 rfl rfl rfl ?_
    refine ae_bipush (v := 9) (q := 20) dX7_spawn_18 (by decide) rfl ?_
    refine ae_icmp_ne (t := 29) (q := 23) dX7_spawn_20 (by decide) rfl (fun _ => ?_) (fun h => absurd h (by decide))
    refine ae_iload_n (q := 30) dX7_spawn_29 rfl rfl rfl ?_
    refine ae_aload_n (q := 31) dX7_spawn_30 rfl rfl rfl ?_
    refine ae_getR (q := 34) dX7_spawn_31 fl_X7_22 rfl (h.s l288 t288) (h.l l288) (h.mr (k := 4) (b := 293) (by decide) rfl) rfl ?_
    refine ae_iload_n (q := 35) dX7_spawn_34 rfl rfl rfl ?_
    refine ae_iald (q := 36) dX7_spawn_35 (h.s l293 t293) (h.l l293) (vin (by omega) (by omega)) rfl ?_
    obtain ⟨x3, e3⟩ : ∃ x, am_gi H 293 a1.toNatClampNeg = x := ⟨_, rfl⟩
    refine ae_eqi e3 ?_
    refine ae_aload_n (q := 37) dX7_spawn_36 rfl rfl rfl ?_
    refine ae_iload_n (q := 38) dX7_spawn_37 rfl rfl rfl ?_
    refine ae_callV (ci := 7) (as := [.int a1]) (b := 288) (st := [.int x3, .int a3, .ref 288]) (q := 41) dX7_spawn_38 (c_X7_inner (N := N) (d := d + 2) h (by omega) (by omega)) myX7_inner lk_X7_166 im_X7_inner se_X7_inner rfl (by decide) (h.s l288 t288) (h.l l288) rfl rfl (Nat.le_of_ble_eq_true rfl) rfl (fun o H1 hh => ⟨_, hh.1.choose_spec.1⟩) (fun vv G4 hv => ?_)
    obtain ⟨⟨x4, o4, u4, v4⟩, z4⟩ := hv
    cases o4
    have z4 := z4.symm
    subst z4
    refine ⟨Or.inl rfl, ?_⟩
    refine ae_callV (ci := 7) (as := [.int a3, .int x3, .int x4]) (b := 288) (st := []) (q := 44) dX7_spawn_41 (c_X7_newTask (N := N) (d := d + 2) h (by omega) (by omega) (by omega) (by omega) (xc := x1) e1 (by omega) (by omega)) myX7_newTask lk_X7_148 im_X7_newTask se_X7_newTask rfl (by decide) (h.s l288 t288) (h.l l288) rfl rfl (Nat.le_of_ble_eq_true rfl) rfl (fun o H1 hh => ⟨_, hh.1.choose_spec.1⟩) (fun vv G5 hv => ?_)
    obtain ⟨⟨x5, o5, u5, v5⟩, z5⟩ := hv
    cases o5
    obtain ⟨z5, w5⟩ := z5
    refine ⟨Or.inl (z5.nx.trans h.nx.symm), ?_⟩
    have h : jm N B 320 G5 := z5
    clear z5
    obtain ⟨wa5, wb5, q5, wt5⟩ := w5
    have hd : am_gi G5 315 = am_gi H 315 := wa5.trans hd
    have hf : am_gi G5 288 38 = am_gi H 288 38 := wb5.trans hf
    refine ae_istore (lv' := [(4, .int x5), (0, .ref 288), (1, .int a1), (2, .int 3), (3, .int a3)]) (q := 46) dX7_spawn_44 (by decide) rfl rfl ?_
    refine ae_iconst (v := 0) (q := 47) dX7_spawn_46 (by decide) rfl ?_
    refine ae_istore (lv' := [(5, .int 0), (4, .int x5), (0, .ref 288), (1, .int a1), (2, .int 3), (3, .int a3)]) (q := 49) dX7_spawn_47 (by decide) rfl rfl ?_
    refine ae_iload (q := 51) dX7_spawn_49 rfl rfl ?_
    refine ae_iconst (v := 2) (q := 52) dX7_spawn_51 (by decide) rfl ?_
    refine ae_icmp_ge (t := 135) (q := 55) dX7_spawn_52 (by decide) rfl (fun h => absurd h (by decide)) (fun _ => ?_)
    refine ae_iload_n (q := 56) dX7_spawn_55 rfl rfl rfl ?_
    refine ae_iconst (v := 3) (q := 57) dX7_spawn_56 (by decide) rfl ?_
    refine ae_icmp_ne (t := 135) (q := 60) dX7_spawn_57 (by decide) rfl (fun h => absurd h (by decide)) (fun _ => ?_)
    refine ae_aload_n (q := 61) dX7_spawn_60 rfl rfl rfl ?_
    refine ae_getR (q := 64) dX7_spawn_61 fl_X7_59 rfl (h.s l288 t288) (h.l l288) (h.mr (k := 16) (b := 305) (by decide) rfl) rfl ?_
    refine ae_iconst (v := 2) (q := 65) dX7_spawn_64 (by decide) rfl ?_
    refine ae_iload (q := 67) dX7_spawn_65 rfl rfl ?_
    refine ae_imul (q := 68) dX7_spawn_67 rfl ?_
    obtain ⟨x6, e6⟩ : ∃ z, 2 * x5 = z := ⟨_, rfl⟩
    refine ae_eqi e6 ?_
    have f6 : x6.toInt = 2 * x5.toInt := by rw [← e6]; exact i_mul (by decide) rfl (by omega) (by omega)
    refine ae_iload (q := 70) dX7_spawn_68 rfl rfl ?_
    refine ae_iadd (q := 71) dX7_spawn_70 rfl ?_
    obtain ⟨x7, e7⟩ : ∃ z, x6 + 0 = z := ⟨_, rfl⟩
    refine ae_eqi e7 ?_
    have f7 : x7.toInt = x6.toInt + 0 := by rw [← e7]; exact i_add rfl (by decide) (by omega) (by omega)
    refine ae_aload_n (q := 72) dX7_spawn_71 rfl rfl rfl ?_
    refine ae_getR (q := 75) dX7_spawn_72 fl_X7_59 rfl (h.s l288 t288) (h.l l288) (h.mr (k := 16) (b := 305) (by decide) rfl) rfl ?_
    refine ae_iconst (v := 2) (q := 76) dX7_spawn_75 (by decide) rfl ?_
    refine ae_iload_n (q := 77) dX7_spawn_76 rfl rfl rfl ?_
    refine ae_imul (q := 78) dX7_spawn_77 rfl ?_
    obtain ⟨x8, e8⟩ : ∃ z, 2 * a1 = z := ⟨_, rfl⟩
    refine ae_eqi e8 ?_
    have f8 : x8.toInt = 2 * a1.toInt := by rw [← e8]; exact i_mul (by decide) rfl (by omega) (by omega)
    refine ae_iload (q := 80) dX7_spawn_78 rfl rfl ?_
    refine ae_iadd (q := 81) dX7_spawn_80 rfl ?_
    obtain ⟨x9, e9⟩ : ∃ z, x8 + 0 = z := ⟨_, rfl⟩
    refine ae_eqi e9 ?_
    have f9 : x9.toInt = x8.toInt + 0 := by rw [← e9]; exact i_add rfl (by decide) (by omega) (by omega)
    refine ae_iald (q := 82) dX7_spawn_81 (h.s l305 t305) (h.l l305) (vin (by omega) (by omega)) rfl ?_
    obtain ⟨x10, e10⟩ : ∃ x, am_gi G5 305 x9.toNatClampNeg = x := ⟨_, rfl⟩
    refine ae_eqi e10 ?_
    refine ae_iast (q := 83) dX7_spawn_82 (h.s l305 t305) (h.l l305) (vin (by omega) (by omega)) rfl ?_
    refine ae_gen (fun G11 g11 => ?_)
    have h : jm N B 320 G11 := by rw [g11]; exact h.w t305 (by decide) (by decide) (by decide) inr_any
    have hd : am_gi G11 315 = am_gi H 315 := by rw [g11]; exact (gi_rowne (by decide)).trans hd
    have q11 : dl G11 = dl G5 := by rw [g11]; exact dl_ne (by decide) (by decide) (by decide) (fun q => absurd q.1 (by decide))
    refine ae_aload_n (q := 84) dX7_spawn_83 rfl rfl rfl ?_
    refine ae_getR (q := 87) dX7_spawn_84 fl_X7_62 rfl (h.s l288 t288) (h.l l288) (h.mr (k := 17) (b := 306) (by decide) rfl) rfl ?_
    refine ae_iconst (v := 2) (q := 88) dX7_spawn_87 (by decide) rfl ?_
    refine ae_iload (q := 90) dX7_spawn_88 rfl rfl ?_
    refine ae_imul (q := 91) dX7_spawn_90 rfl ?_
    refine ae_eqi e6 ?_
    refine ae_iload (q := 93) dX7_spawn_91 rfl rfl ?_
    refine ae_iadd (q := 94) dX7_spawn_93 rfl ?_
    refine ae_eqi e7 ?_
    refine ae_aload_n (q := 95) dX7_spawn_94 rfl rfl rfl ?_
    refine ae_getR (q := 98) dX7_spawn_95 fl_X7_62 rfl (h.s l288 t288) (h.l l288) (h.mr (k := 17) (b := 306) (by decide) rfl) rfl ?_
    refine ae_iconst (v := 2) (q := 99) dX7_spawn_98 (by decide) rfl ?_
    refine ae_iload_n (q := 100) dX7_spawn_99 rfl rfl rfl ?_
    refine ae_imul (q := 101) dX7_spawn_100 rfl ?_
    refine ae_eqi e8 ?_
    refine ae_iload (q := 103) dX7_spawn_101 rfl rfl ?_
    refine ae_iadd (q := 104) dX7_spawn_103 rfl ?_
    refine ae_eqi e9 ?_
    refine ae_iald (q := 105) dX7_spawn_104 (h.s l306 t306) (h.l l306) (vin (by omega) (by omega)) rfl ?_
    obtain ⟨x12, e12⟩ : ∃ x, am_gi G11 306 x9.toNatClampNeg = x := ⟨_, rfl⟩
    refine ae_eqi e12 ?_
    refine ae_iast (q := 106) dX7_spawn_105 (h.s l306 t306) (h.l l306) (vin (by omega) (by omega)) rfl ?_
    refine ae_gen (fun G13 g13 => ?_)
    have h : jm N B 320 G13 := by rw [g13]; exact h.w t306 (by decide) (by decide) (by decide) inr_any
    have hd : am_gi G13 315 = am_gi H 315 := by rw [g13]; exact (gi_rowne (by decide)).trans hd
    have q13 : dl G13 = dl G11 := by rw [g13]; exact dl_ne (by decide) (by decide) (by decide) (fun q => absurd q.1 (by decide))
    refine ae_aload_n (q := 107) dX7_spawn_106 rfl rfl rfl ?_
    refine ae_getR (q := 110) dX7_spawn_107 fl_X7_65 rfl (h.s l288 t288) (h.l l288) (h.mr (k := 18) (b := 307) (by decide) rfl) rfl ?_
    refine ae_iconst (v := 2) (q := 111) dX7_spawn_110 (by decide) rfl ?_
    refine ae_iload (q := 113) dX7_spawn_111 rfl rfl ?_
    refine ae_imul (q := 114) dX7_spawn_113 rfl ?_
    refine ae_eqi e6 ?_
    refine ae_iload (q := 116) dX7_spawn_114 rfl rfl ?_
    refine ae_iadd (q := 117) dX7_spawn_116 rfl ?_
    refine ae_eqi e7 ?_
    refine ae_aload_n (q := 118) dX7_spawn_117 rfl rfl rfl ?_
    refine ae_getR (q := 121) dX7_spawn_118 fl_X7_65 rfl (h.s l288 t288) (h.l l288) (h.mr (k := 18) (b := 307) (by decide) rfl) rfl ?_
    refine ae_iconst (v := 2) (q := 122) dX7_spawn_121 (by decide) rfl ?_
    refine ae_iload_n (q := 123) dX7_spawn_122 rfl rfl rfl ?_
    refine ae_imul (q := 124) dX7_spawn_123 rfl ?_
    refine ae_eqi e8 ?_
    refine ae_iload (q := 126) dX7_spawn_124 rfl rfl ?_
    refine ae_iadd (q := 127) dX7_spawn_126 rfl ?_
    refine ae_eqi e9 ?_
    refine ae_iald (q := 128) dX7_spawn_127 (h.s l307 t307) (h.l l307) (vin (by omega) (by omega)) rfl ?_
    obtain ⟨x14, e14⟩ : ∃ x, am_gi G13 307 x9.toNatClampNeg = x := ⟨_, rfl⟩
    refine ae_eqi e14 ?_
    refine ae_iast (q := 129) dX7_spawn_128 (h.s l307 t307) (h.l l307) (vin (by omega) (by omega)) rfl ?_
    refine ae_gen (fun G15 g15 => ?_)
    have h : jm N B 320 G15 := by rw [g15]; exact h.w t307 (by decide) (by decide) (by decide) inr_any
    have hd : am_gi G15 315 = am_gi H 315 := by rw [g15]; exact (gi_rowne (by decide)).trans hd
    have q15 : dl G15 = dl G13 := by rw [g15]; exact dl_ne (by decide) (by decide) (by decide) (fun q => absurd q.1 (by decide))
    refine ae_iinc (v := 1) (lv' := [(5, .int 1), (4, .int x5), (0, .ref 288), (1, .int a1), (2, .int 3), (3, .int a3)]) (q := 132) dX7_spawn_129 rfl (by decide) (by decide) rfl rfl ?_
    refine ae_goto (q := 49) dX7_spawn_132 (by decide) ?_
    refine ae_iload (q := 51) dX7_spawn_49 rfl rfl ?_
    refine ae_iconst (v := 2) (q := 52) dX7_spawn_51 (by decide) rfl ?_
    refine ae_icmp_ge (t := 135) (q := 55) dX7_spawn_52 (by decide) rfl (fun h => absurd h (by decide)) (fun _ => ?_)
    refine ae_iload_n (q := 56) dX7_spawn_55 rfl rfl rfl ?_
    refine ae_iconst (v := 3) (q := 57) dX7_spawn_56 (by decide) rfl ?_
    refine ae_icmp_ne (t := 135) (q := 60) dX7_spawn_57 (by decide) rfl (fun h => absurd h (by decide)) (fun _ => ?_)
    refine ae_aload_n (q := 61) dX7_spawn_60 rfl rfl rfl ?_
    refine ae_getR (q := 64) dX7_spawn_61 fl_X7_59 rfl (h.s l288 t288) (h.l l288) (h.mr (k := 16) (b := 305) (by decide) rfl) rfl ?_
    refine ae_iconst (v := 2) (q := 65) dX7_spawn_64 (by decide) rfl ?_
    refine ae_iload (q := 67) dX7_spawn_65 rfl rfl ?_
    refine ae_imul (q := 68) dX7_spawn_67 rfl ?_
    refine ae_eqi e6 ?_
    refine ae_iload (q := 70) dX7_spawn_68 rfl rfl ?_
    refine ae_iadd (q := 71) dX7_spawn_70 rfl ?_
    obtain ⟨x16, e16⟩ : ∃ z, x6 + 1 = z := ⟨_, rfl⟩
    refine ae_eqi e16 ?_
    have f16 : x16.toInt = x6.toInt + 1 := by rw [← e16]; exact i_add rfl (by decide) (by omega) (by omega)
    refine ae_aload_n (q := 72) dX7_spawn_71 rfl rfl rfl ?_
    refine ae_getR (q := 75) dX7_spawn_72 fl_X7_59 rfl (h.s l288 t288) (h.l l288) (h.mr (k := 16) (b := 305) (by decide) rfl) rfl ?_
    refine ae_iconst (v := 2) (q := 76) dX7_spawn_75 (by decide) rfl ?_
    refine ae_iload_n (q := 77) dX7_spawn_76 rfl rfl rfl ?_
    refine ae_imul (q := 78) dX7_spawn_77 rfl ?_
    refine ae_eqi e8 ?_
    refine ae_iload (q := 80) dX7_spawn_78 rfl rfl ?_
    refine ae_iadd (q := 81) dX7_spawn_80 rfl ?_
    obtain ⟨x17, e17⟩ : ∃ z, x8 + 1 = z := ⟨_, rfl⟩
    refine ae_eqi e17 ?_
    have f17 : x17.toInt = x8.toInt + 1 := by rw [← e17]; exact i_add rfl (by decide) (by omega) (by omega)
    refine ae_iald (q := 82) dX7_spawn_81 (h.s l305 t305) (h.l l305) (vin (by omega) (by omega)) rfl ?_
    obtain ⟨x18, e18⟩ : ∃ x, am_gi G15 305 x17.toNatClampNeg = x := ⟨_, rfl⟩
    refine ae_eqi e18 ?_
    refine ae_iast (q := 83) dX7_spawn_82 (h.s l305 t305) (h.l l305) (vin (by omega) (by omega)) rfl ?_
    refine ae_gen (fun G19 g19 => ?_)
    have h : jm N B 320 G19 := by rw [g19]; exact h.w t305 (by decide) (by decide) (by decide) inr_any
    have hd : am_gi G19 315 = am_gi H 315 := by rw [g19]; exact (gi_rowne (by decide)).trans hd
    have q19 : dl G19 = dl G15 := by rw [g19]; exact dl_ne (by decide) (by decide) (by decide) (fun q => absurd q.1 (by decide))
    refine ae_aload_n (q := 84) dX7_spawn_83 rfl rfl rfl ?_
    refine ae_getR (q := 87) dX7_spawn_84 fl_X7_62 rfl (h.s l288 t288) (h.l l288) (h.mr (k := 17) (b := 306) (by decide) rfl) rfl ?_
    refine ae_iconst (v := 2) (q := 88) dX7_spawn_87 (by decide) rfl ?_
    refine ae_iload (q := 90) dX7_spawn_88 rfl rfl ?_
    refine ae_imul (q := 91) dX7_spawn_90 rfl ?_
    refine ae_eqi e6 ?_
    refine ae_iload (q := 93) dX7_spawn_91 rfl rfl ?_
    refine ae_iadd (q := 94) dX7_spawn_93 rfl ?_
    refine ae_eqi e16 ?_
    refine ae_aload_n (q := 95) dX7_spawn_94 rfl rfl rfl ?_
    refine ae_getR (q := 98) dX7_spawn_95 fl_X7_62 rfl (h.s l288 t288) (h.l l288) (h.mr (k := 17) (b := 306) (by decide) rfl) rfl ?_
    refine ae_iconst (v := 2) (q := 99) dX7_spawn_98 (by decide) rfl ?_
    refine ae_iload_n (q := 100) dX7_spawn_99 rfl rfl rfl ?_
    refine ae_imul (q := 101) dX7_spawn_100 rfl ?_
    refine ae_eqi e8 ?_
    refine ae_iload (q := 103) dX7_spawn_101 rfl rfl ?_
    refine ae_iadd (q := 104) dX7_spawn_103 rfl ?_
    refine ae_eqi e17 ?_
    refine ae_iald (q := 105) dX7_spawn_104 (h.s l306 t306) (h.l l306) (vin (by omega) (by omega)) rfl ?_
    obtain ⟨x20, e20⟩ : ∃ x, am_gi G19 306 x17.toNatClampNeg = x := ⟨_, rfl⟩
    refine ae_eqi e20 ?_
    refine ae_iast (q := 106) dX7_spawn_105 (h.s l306 t306) (h.l l306) (vin (by omega) (by omega)) rfl ?_
    refine ae_gen (fun G21 g21 => ?_)
    have h : jm N B 320 G21 := by rw [g21]; exact h.w t306 (by decide) (by decide) (by decide) inr_any
    have hd : am_gi G21 315 = am_gi H 315 := by rw [g21]; exact (gi_rowne (by decide)).trans hd
    have q21 : dl G21 = dl G19 := by rw [g21]; exact dl_ne (by decide) (by decide) (by decide) (fun q => absurd q.1 (by decide))
    refine ae_aload_n (q := 107) dX7_spawn_106 rfl rfl rfl ?_
    refine ae_getR (q := 110) dX7_spawn_107 fl_X7_65 rfl (h.s l288 t288) (h.l l288) (h.mr (k := 18) (b := 307) (by decide) rfl) rfl ?_
    refine ae_iconst (v := 2) (q := 111) dX7_spawn_110 (by decide) rfl ?_
    refine ae_iload (q := 113) dX7_spawn_111 rfl rfl ?_
    refine ae_imul (q := 114) dX7_spawn_113 rfl ?_
    refine ae_eqi e6 ?_
    refine ae_iload (q := 116) dX7_spawn_114 rfl rfl ?_
    refine ae_iadd (q := 117) dX7_spawn_116 rfl ?_
    refine ae_eqi e16 ?_
    refine ae_aload_n (q := 118) dX7_spawn_117 rfl rfl rfl ?_
    refine ae_getR (q := 121) dX7_spawn_118 fl_X7_65 rfl (h.s l288 t288) (h.l l288) (h.mr (k := 18) (b := 307) (by decide) rfl) rfl ?_
    refine ae_iconst (v := 2) (q := 122) dX7_spawn_121 (by decide) rfl ?_
    refine ae_iload_n (q := 123) dX7_spawn_122 rfl rfl rfl ?_
    refine ae_imul (q := 124) dX7_spawn_123 rfl ?_
    refine ae_eqi e8 ?_
    refine ae_iload (q := 126) dX7_spawn_124 rfl rfl ?_
    refine ae_iadd (q := 127) dX7_spawn_126 rfl ?_
    refine ae_eqi e17 ?_
    refine ae_iald (q := 128) dX7_spawn_127 (h.s l307 t307) (h.l l307) (vin (by omega) (by omega)) rfl ?_
    obtain ⟨x22, e22⟩ : ∃ x, am_gi G21 307 x17.toNatClampNeg = x := ⟨_, rfl⟩
    refine ae_eqi e22 ?_
    refine ae_iast (q := 129) dX7_spawn_128 (h.s l307 t307) (h.l l307) (vin (by omega) (by omega)) rfl ?_
    refine ae_gen (fun G23 g23 => ?_)
    have h : jm N B 320 G23 := by rw [g23]; exact h.w t307 (by decide) (by decide) (by decide) inr_any
    have hd : am_gi G23 315 = am_gi H 315 := by rw [g23]; exact (gi_rowne (by decide)).trans hd
    have q23 : dl G23 = dl G21 := by rw [g23]; exact dl_ne (by decide) (by decide) (by decide) (fun q => absurd q.1 (by decide))
    refine ae_iinc (v := 2) (lv' := [(5, .int 2), (4, .int x5), (0, .ref 288), (1, .int a1), (2, .int 3), (3, .int a3)]) (q := 132) dX7_spawn_129 rfl (by decide) (by decide) rfl rfl ?_
    refine ae_goto (q := 49) dX7_spawn_132 (by decide) ?_
    refine ae_iload (q := 51) dX7_spawn_49 rfl rfl ?_
    refine ae_iconst (v := 2) (q := 52) dX7_spawn_51 (by decide) rfl ?_
    refine ae_icmp_ge (t := 135) (q := 55) dX7_spawn_52 (by decide) rfl (fun _ => ?_) (fun h => absurd h (by decide))
    refine ae_iload_n (q := 136) dX7_spawn_135 rfl rfl rfl ?_
    refine ae_bipush (v := 9) (q := 138) dX7_spawn_136 (by decide) rfl ?_
    refine ae_icmp_ne (t := 161) (q := 141) dX7_spawn_138 (by decide) rfl (fun _ => ?_) (fun h => absurd h (by decide))
    refine ae_aload_n (q := 162) dX7_spawn_161 rfl rfl rfl ?_
    refine ae_iload (q := 164) dX7_spawn_162 rfl rfl ?_
    refine ae_putI (q := 167) dX7_spawn_164 fl_X7_179 rfl rfl rfl (h.s l288 t288) (h.l l288) rfl ?_
    refine ae_gen (fun G24 g24 => ?_)
    have h : jm N B 320 G24 := by rw [g24]; exact h.w t288 (by decide) (by decide) (by decide) (mk_inr (lo := (-1)) (hi := 47) (by omega) (by omega))
    have hd : am_gi G24 315 = am_gi H 315 := by rw [g24]; exact (gi_rowne (by decide)).trans hd
    have q24 : dl G24 = dl G23 := by rw [g24]; exact dl_ne (by decide) (by decide) (by decide) (fun q => absurd q.2 (by decide))
    refine ae_aload_n (q := 168) dX7_spawn_167 rfl rfl rfl ?_
    refine ae_getR (q := 171) dX7_spawn_168 fl_X7_25 rfl (h.s l288 t288) (h.l l288) (h.mr (k := 5) (b := 294) (by decide) rfl) rfl ?_
    refine ae_iload_n (q := 172) dX7_spawn_171 rfl rfl rfl ?_
    refine ae_dup2 (q := 173) dX7_spawn_172 rfl rfl rfl ?_
    refine ae_iald (q := 174) dX7_spawn_173 (h.s l294 t294) (h.l l294) (vin (by omega) (by omega)) rfl ?_
    obtain ⟨x25, e25, u25, v25⟩ := rdi (h.i l294 t294 (k := a1.toNatClampNeg) (p := (0, 16 + ((N : Nat) : Int))) rfl)
    refine ae_eqi e25 ?_
    refine ae_iconst (v := 1) (q := 175) dX7_spawn_174 (by decide) rfl ?_
    refine ae_iadd (q := 176) dX7_spawn_175 rfl ?_
    obtain ⟨x26, e26⟩ : ∃ z, x25 + 1 = z := ⟨_, rfl⟩
    refine ae_eqi e26 ?_
    have f26 : x26.toInt = x25.toInt + 1 := by rw [← e26]; exact i_add rfl (by decide) (by omega) (by omega)
    have h : jm (N + 1) B 320 G24 := h.up (by omega)
    refine ae_iast (q := 177) dX7_spawn_176 (h.s l294 t294) (h.l l294) (vin (by omega) (by omega)) rfl ?_
    refine ae_gen (fun G27 g27 => ?_)
    have h : jm (N + 1) B 320 G27 := by rw [g27]; exact h.w t294 (by decide) (by decide) (by decide) (mk_inr (lo := 0) (hi := 16 + (((N + 1) : Nat) : Int)) (by omega) (by omega))
    have hd : am_gi G27 315 = am_gi H 315 := by rw [g27]; exact (gi_rowne (by decide)).trans hd
    have q27 : dl G27 = dl G24 := by rw [g27]; exact dl_ne (by decide) (by decide) (by decide) (fun q => absurd q.1 (by decide))
    refine ae_vret dX7_spawn_177 rfl ?_
    exact ⟨rfl, ⟨h, hd, (Or.inr (by omega))⟩⟩
  · have c2 := i_eq (a := x1.toInt) (b := 48) rfl (by decide) c2
    refine ae_aload_n (q := 10) dX7_spawn_9 rfl rfl rfl ?_
    refine ae_iload_n (q := 11) dX7_spawn_10 rfl rfl rfl ?_
    refine ae_iconst (v := 1) (q := 12) dX7_spawn_11 (by decide) rfl ?_
    refine ae_callV (ci := 7) (as := [.int a1, .int 1]) (b := 288) (st := []) (q := 15) dX7_spawn_12 (c_X7_raise (N := N) (d := d) h (by omega) (by omega)) myX7_raise lk_X7_176 im_X7_raise se_X7_raise rfl (by decide) (h.s l288 t288) (h.l l288) rfl rfl (Nat.le_of_ble_eq_true rfl) rfl (fun o H1 hh => ⟨_, hh.1⟩) (fun vv G28 hv => ?_)
    obtain ⟨o28, z28⟩ := hv
    cases o28
    obtain ⟨z28, w28⟩ := z28
    refine ⟨Or.inl (z28.nx.trans h.nx.symm), ?_⟩
    have h : jm N B 320 G28 := z28
    clear z28
    obtain ⟨wa28, wb28, q28⟩ := w28
    have hd : am_gi G28 315 = am_gi H 315 := wa28.trans hd
    have hf : am_gi G28 288 38 = am_gi H 288 38 := wb28.trans hf
    refine ae_vret dX7_spawn_15 rfl ?_
    exact ⟨rfl, ⟨(h.up (by omega)), hd, (Or.inl ⟨hf, q28.elim (fun q => Or.inl (by omega)) (fun q => Or.inr ⟨by omega, q.2⟩)⟩)⟩⟩
set_option maxRecDepth 100000 in
set_option maxHeartbeats 4000000 in
theorem c_X7_spawn_9 {ox : List (Nat × (Nat → Int32))} {d N : Nat} {B H : am_H} {a1 : Int32} {a3 : Int32} (hN : N + 0 ≤ 1000000) (h : jm N B 320 H) (u_1 : 0 ≤ a1.toInt) (v_1 : a1.toInt ≤ 47) (u_3 : 0 ≤ a3.toInt) (v_3 : a3.toInt ≤ 31) : am_DB 0 ox (d + 3) yX7_spawn mX7_spawn [.ref 288, .int a1, .int 9, .int a3] H (fun o H1 => o = .inl none ∧ jm (N + 1) B 320 H1 ∧ am_gi H1 315 = am_gi H 315 ∧ (am_gi H1 288 38 = am_gi H 288 38 ∧ (dl H ≤ dl H1 ∨ dl H - 1 ≤ dl H1 ∧ (am_gi H1 292 a1.toNatClampNeg).toInt ≠ 1) ∨ dl H + 1 ≤ dl H1)) := by
  refine ae_enter rfl rfl rfl rfl (Nat.le_of_ble_eq_true rfl) ?_
  show am_EB 0 ox (d + 3) mX7_spawn 0 [(0, .ref 288), (1, .int a1), (2, .int 9), (3, .int a3)] [] H _
  have hd : am_gi H 315 = am_gi H 315 := rfl
  have hf : am_gi H 288 38 = am_gi H 288 38 := rfl
  refine ae_aload_n (q := 1) dX7_spawn_0 rfl rfl rfl ?_
  refine ae_getI (q := 4) dX7_spawn_1 fl_X7_119 rfl (h.s l288 t288) (h.l l288) rfl ?_
  obtain ⟨x1, e1, u1, v1⟩ := rdi (h.i l288 t288 (k := 30) (p := (0, 48)) rfl)
  refine ae_eqi e1 ?_
  refine ae_bipush (v := 48) (q := 6) dX7_spawn_4 (by decide) rfl ?_
  refine ae_icmp_ne (t := 16) (q := 9) dX7_spawn_6 (by decide) rfl (fun c2 => ?_) (fun c2 => ?_)
  · have c2 := i_ne (a := x1.toInt) (b := 48) rfl (by decide) c2
    refine ae_aload_n (q := 17) dX7_spawn_16 rfl rfl rfl ?_
    refine ae_iload_n (q := 18) dX7_spawn_17 rfl rfl rfl ?_
    refine ae_bipush (v := 9) (q := 20) dX7_spawn_18 (by decide) rfl ?_
    refine ae_icmp_ne (t := 29) (q := 23) dX7_spawn_20 (by decide) rfl (fun h => absurd h (by decide)) (fun _ => ?_)
    refine ae_iload_n (q := 24) dX7_spawn_23 rfl rfl rfl ?_
    refine ae_iconst (v := 4) (q := 25) dX7_spawn_24 (by decide) rfl ?_
    refine ae_idiv (q := 26) dX7_spawn_25 (by decide) rfl ?_
    obtain ⟨x3, e3⟩ : ∃ z, a3 / 4 = z := ⟨_, rfl⟩
    refine ae_eqi e3 ?_
    have f3 : x3.toInt = a3.toInt / 4 := by rw [← e3]; exact i_div rfl (by decide) (by omega) (by omega)
    refine ae_goto (q := 30) dX7_spawn_26 (by decide) ?_
    refine ae_aload_n (q := 31) dX7_spawn_30 rfl rfl rfl ?_
    refine ae_getR (q := 34) dX7_spawn_31 fl_X7_22 rfl (h.s l288 t288) (h.l l288) (h.mr (k := 4) (b := 293) (by decide) rfl) rfl ?_
    refine ae_iload_n (q := 35) dX7_spawn_34 rfl rfl rfl ?_
    refine ae_iald (q := 36) dX7_spawn_35 (h.s l293 t293) (h.l l293) (vin (by omega) (by omega)) rfl ?_
    obtain ⟨x4, e4⟩ : ∃ x, am_gi H 293 a1.toNatClampNeg = x := ⟨_, rfl⟩
    refine ae_eqi e4 ?_
    refine ae_aload_n (q := 37) dX7_spawn_36 rfl rfl rfl ?_
    refine ae_iload_n (q := 38) dX7_spawn_37 rfl rfl rfl ?_
    refine ae_callV (ci := 7) (as := [.int a1]) (b := 288) (st := [.int x4, .int x3, .ref 288]) (q := 41) dX7_spawn_38 (c_X7_inner (N := N) (d := d + 2) h (by omega) (by omega)) myX7_inner lk_X7_166 im_X7_inner se_X7_inner rfl (by decide) (h.s l288 t288) (h.l l288) rfl rfl (Nat.le_of_ble_eq_true rfl) rfl (fun o H1 hh => ⟨_, hh.1.choose_spec.1⟩) (fun vv G5 hv => ?_)
    obtain ⟨⟨x5, o5, u5, v5⟩, z5⟩ := hv
    cases o5
    have z5 := z5.symm
    subst z5
    refine ⟨Or.inl rfl, ?_⟩
    refine ae_callV (ci := 7) (as := [.int x3, .int x4, .int x5]) (b := 288) (st := []) (q := 44) dX7_spawn_41 (c_X7_newTask (N := N) (d := d + 2) h (by omega) (by omega) (by omega) (by omega) (xc := x1) e1 (by omega) (by omega)) myX7_newTask lk_X7_148 im_X7_newTask se_X7_newTask rfl (by decide) (h.s l288 t288) (h.l l288) rfl rfl (Nat.le_of_ble_eq_true rfl) rfl (fun o H1 hh => ⟨_, hh.1.choose_spec.1⟩) (fun vv G6 hv => ?_)
    obtain ⟨⟨x6, o6, u6, v6⟩, z6⟩ := hv
    cases o6
    obtain ⟨z6, w6⟩ := z6
    refine ⟨Or.inl (z6.nx.trans h.nx.symm), ?_⟩
    have h : jm N B 320 G6 := z6
    clear z6
    obtain ⟨wa6, wb6, q6, wt6⟩ := w6
    have hd : am_gi G6 315 = am_gi H 315 := wa6.trans hd
    have hf : am_gi G6 288 38 = am_gi H 288 38 := wb6.trans hf
    refine ae_istore (lv' := [(4, .int x6), (0, .ref 288), (1, .int a1), (2, .int 9), (3, .int a3)]) (q := 46) dX7_spawn_44 (by decide) rfl rfl ?_
    refine ae_iconst (v := 0) (q := 47) dX7_spawn_46 (by decide) rfl ?_
    refine ae_istore (lv' := [(5, .int 0), (4, .int x6), (0, .ref 288), (1, .int a1), (2, .int 9), (3, .int a3)]) (q := 49) dX7_spawn_47 (by decide) rfl rfl ?_
    refine ae_iload (q := 51) dX7_spawn_49 rfl rfl ?_
    refine ae_iconst (v := 2) (q := 52) dX7_spawn_51 (by decide) rfl ?_
    refine ae_icmp_ge (t := 135) (q := 55) dX7_spawn_52 (by decide) rfl (fun h => absurd h (by decide)) (fun _ => ?_)
    refine ae_iload_n (q := 56) dX7_spawn_55 rfl rfl rfl ?_
    refine ae_iconst (v := 3) (q := 57) dX7_spawn_56 (by decide) rfl ?_
    refine ae_icmp_ne (t := 135) (q := 60) dX7_spawn_57 (by decide) rfl (fun _ => ?_) (fun h => absurd h (by decide))
    refine ae_iload_n (q := 136) dX7_spawn_135 rfl rfl rfl ?_
    refine ae_bipush (v := 9) (q := 138) dX7_spawn_136 (by decide) rfl ?_
    refine ae_icmp_ne (t := 161) (q := 141) dX7_spawn_138 (by decide) rfl (fun h => absurd h (by decide)) (fun _ => ?_)
    refine ae_aload_n (q := 142) dX7_spawn_141 rfl rfl rfl ?_
    refine ae_iload (q := 144) dX7_spawn_142 rfl rfl ?_
    refine ae_iconst (v := 4) (q := 145) dX7_spawn_144 (by decide) rfl ?_
    refine ae_callV (ci := 7) (as := [.int x6, .int 4]) (b := 288) (st := []) (q := 148) dX7_spawn_145 (c_X7_set (N := N) (d := d + 2) h (by omega) (by omega) (by decide) (by decide)) myX7_set lk_X7_163 im_X7_set se_X7_set rfl (by decide) (h.s l288 t288) (h.l l288) rfl rfl (Nat.le_of_ble_eq_true rfl) rfl (fun o H1 hh => ⟨_, hh.1⟩) (fun vv G7 hv => ?_)
    obtain ⟨o7, z7⟩ := hv
    cases o7
    obtain ⟨z7, w7⟩ := z7
    refine ⟨Or.inl (z7.nx.trans h.nx.symm), ?_⟩
    have h : jm N B 320 G7 := z7
    clear z7
    obtain ⟨wa7, wb7, q7, ws7⟩ := w7
    have hd : am_gi G7 315 = am_gi H 315 := wa7.trans hd
    have hf : am_gi G7 288 38 = am_gi H 288 38 := wb7.trans hf
    refine ae_aload_n (q := 149) dX7_spawn_148 rfl rfl rfl ?_
    refine ae_getR (q := 152) dX7_spawn_149 fl_X7_40 rfl (h.s l288 t288) (h.l l288) (h.mr (k := 10) (b := 299) (by decide) rfl) rfl ?_
    refine ae_iload (q := 154) dX7_spawn_152 rfl rfl ?_
    refine ae_iload_n (q := 155) dX7_spawn_154 rfl rfl rfl ?_
    refine ae_iconst (v := 4) (q := 156) dX7_spawn_155 (by decide) rfl ?_
    refine ae_irem (q := 157) dX7_spawn_156 (by decide) rfl ?_
    obtain ⟨x8, e8⟩ : ∃ z, a3 - a3 / 4 * 4 = z := ⟨_, rfl⟩
    refine ae_eqi e8 ?_
    have f8 : x8.toInt = a3.toInt % 4 ∧ 0 ≤ a3.toInt % 4 ∧ a3.toInt % 4 < 4 := by rw [← e8]; exact i_rem rfl (by decide) (by omega) (by omega)
    obtain ⟨f8, g8, k8⟩ := f8
    have a8 : 0 ≤ x8.toInt := by rw [f8]; exact g8
    have b8 : x8.toInt < 4 := by rw [f8]; exact k8
    clear g8 k8
    refine ae_iast (q := 158) dX7_spawn_157 (h.s l299 t299) (h.l l299) (vin (by omega) (by omega)) rfl ?_
    refine ae_gen (fun G9 g9 => ?_)
    have h : jm N B 320 G9 := by rw [g9]; exact h.w t299 (by decide) (by decide) (by decide) (mk_inr (lo := 0) (hi := 3) (by omega) (by omega))
    have hd : am_gi G9 315 = am_gi H 315 := by rw [g9]; exact (gi_rowne (by decide)).trans hd
    have hf : am_gi G9 288 38 = am_gi H 288 38 := by rw [g9]; exact gi_si hf (fun q => absurd q.1 (by decide))
    have q9 : dl G9 = dl G7 := by rw [g9]; exact dl_ne (by decide) (by decide) (by decide) (fun q => absurd q.1 (by decide))
    refine ae_goto (q := 167) dX7_spawn_158 (by decide) ?_
    refine ae_aload_n (q := 168) dX7_spawn_167 rfl rfl rfl ?_
    refine ae_getR (q := 171) dX7_spawn_168 fl_X7_25 rfl (h.s l288 t288) (h.l l288) (h.mr (k := 5) (b := 294) (by decide) rfl) rfl ?_
    refine ae_iload_n (q := 172) dX7_spawn_171 rfl rfl rfl ?_
    refine ae_dup2 (q := 173) dX7_spawn_172 rfl rfl rfl ?_
    refine ae_iald (q := 174) dX7_spawn_173 (h.s l294 t294) (h.l l294) (vin (by omega) (by omega)) rfl ?_
    obtain ⟨x10, e10, u10, v10⟩ := rdi (h.i l294 t294 (k := a1.toNatClampNeg) (p := (0, 16 + ((N : Nat) : Int))) rfl)
    refine ae_eqi e10 ?_
    refine ae_iconst (v := 1) (q := 175) dX7_spawn_174 (by decide) rfl ?_
    refine ae_iadd (q := 176) dX7_spawn_175 rfl ?_
    obtain ⟨x11, e11⟩ : ∃ z, x10 + 1 = z := ⟨_, rfl⟩
    refine ae_eqi e11 ?_
    have f11 : x11.toInt = x10.toInt + 1 := by rw [← e11]; exact i_add rfl (by decide) (by omega) (by omega)
    have h : jm (N + 1) B 320 G9 := h.up (by omega)
    refine ae_iast (q := 177) dX7_spawn_176 (h.s l294 t294) (h.l l294) (vin (by omega) (by omega)) rfl ?_
    refine ae_gen (fun G12 g12 => ?_)
    have h : jm (N + 1) B 320 G12 := by rw [g12]; exact h.w t294 (by decide) (by decide) (by decide) (mk_inr (lo := 0) (hi := 16 + (((N + 1) : Nat) : Int)) (by omega) (by omega))
    have hd : am_gi G12 315 = am_gi H 315 := by rw [g12]; exact (gi_rowne (by decide)).trans hd
    have hf : am_gi G12 288 38 = am_gi H 288 38 := by rw [g12]; exact gi_si hf (fun q => absurd q.1 (by decide))
    have q12 : dl G12 = dl G9 := by rw [g12]; exact dl_ne (by decide) (by decide) (by decide) (fun q => absurd q.1 (by decide))
    refine ae_vret dX7_spawn_177 rfl ?_
    exact ⟨rfl, ⟨h, hd, (Or.inl ⟨hf, Or.inl (by omega)⟩)⟩⟩
  · have c2 := i_eq (a := x1.toInt) (b := 48) rfl (by decide) c2
    refine ae_aload_n (q := 10) dX7_spawn_9 rfl rfl rfl ?_
    refine ae_iload_n (q := 11) dX7_spawn_10 rfl rfl rfl ?_
    refine ae_iconst (v := 1) (q := 12) dX7_spawn_11 (by decide) rfl ?_
    refine ae_callV (ci := 7) (as := [.int a1, .int 1]) (b := 288) (st := []) (q := 15) dX7_spawn_12 (c_X7_raise (N := N) (d := d) h (by omega) (by omega)) myX7_raise lk_X7_176 im_X7_raise se_X7_raise rfl (by decide) (h.s l288 t288) (h.l l288) rfl rfl (Nat.le_of_ble_eq_true rfl) rfl (fun o H1 hh => ⟨_, hh.1⟩) (fun vv G13 hv => ?_)
    obtain ⟨o13, z13⟩ := hv
    cases o13
    obtain ⟨z13, w13⟩ := z13
    refine ⟨Or.inl (z13.nx.trans h.nx.symm), ?_⟩
    have h : jm N B 320 G13 := z13
    clear z13
    obtain ⟨wa13, wb13, q13⟩ := w13
    have hd : am_gi G13 315 = am_gi H 315 := wa13.trans hd
    have hf : am_gi G13 288 38 = am_gi H 288 38 := wb13.trans hf
    refine ae_vret dX7_spawn_15 rfl ?_
    exact ⟨rfl, ⟨(h.up (by omega)), hd, (Or.inl ⟨hf, q13.elim (fun q => Or.inl (by omega)) (fun q => Or.inr ⟨by omega, q.2⟩)⟩)⟩⟩
set_option maxRecDepth 100000 in
set_option maxHeartbeats 4000000 in
theorem c_X7_isReady {ox : List (Nat × (Nat → Int32))} {d N : Nat} {B H : am_H} {a1 : Int32}  (h : jm N B 320 H) (u_1 : 0 ≤ a1.toInt) (v_1 : a1.toInt ≤ 47) : am_DB 0 ox (d + 1) yX7_isReady mX7_isReady [.ref 288, .int a1] H (fun o H1 => (∃ v : Int32, o = .inl (some (.int v)) ∧ 0 ≤ v.toInt ∧ v.toInt ≤ 1) ∧ H1 = H) := by
  refine ae_enter rfl rfl rfl rfl (Nat.le_of_ble_eq_true rfl) ?_
  show am_EB 0 ox (d + 1) mX7_isReady 0 [(0, .ref 288), (1, .int a1)] [] H _
  refine ae_aload_n (q := 1) dX7_isReady_0 rfl rfl rfl ?_
  refine ae_getR (q := 4) dX7_isReady_1 fl_X7_37 rfl (h.s l288 t288) (h.l l288) (h.mr (k := 9) (b := 298) (by decide) rfl) rfl ?_
  refine ae_iload_n (q := 5) dX7_isReady_4 rfl rfl rfl ?_
  refine ae_iald (q := 6) dX7_isReady_5 (h.s l298 t298) (h.l l298) (vin (by omega) (by omega)) rfl ?_
  obtain ⟨x1, e1, u1, v1⟩ := rdi (h.i l298 t298 (k := a1.toNatClampNeg) (p := (0, 4)) rfl)
  refine ae_eqi e1 ?_
  have c2 : x1.toInt = 0 ∨ x1.toInt = 1 ∨ x1.toInt = 2 ∨ x1.toInt = 3 ∨ x1.toInt = 4 := by omega
  rcases c2 with c2 | c2 | c2 | c2 | c2
  · have j2 : x1 = 0 := Int32.toInt_inj.mp (by rw [c2]; decide)
    refine ae_lookup (off := 51) (q := 57) dX7_isReady_6 (by decide) (by rw [j2]; decide) (by decide) ?_
    refine ae_aload_n (q := 58) dX7_isReady_57 rfl rfl rfl ?_
    refine ae_getR (q := 61) dX7_isReady_58 fl_X7_56 rfl (h.s l288 t288) (h.l l288) (h.mr (k := 15) (b := 304) (by decide) rfl) rfl ?_
    refine ae_aload_n (q := 62) dX7_isReady_61 rfl rfl rfl ?_
    refine ae_getR (q := 65) dX7_isReady_62 fl_X7_40 rfl (h.s l288 t288) (h.l l288) (h.mr (k := 10) (b := 299) (by decide) rfl) rfl ?_
    refine ae_iload_n (q := 66) dX7_isReady_65 rfl rfl rfl ?_
    refine ae_iald (q := 67) dX7_isReady_66 (h.s l299 t299) (h.l l299) (vin (by omega) (by omega)) rfl ?_
    obtain ⟨x3, e3, u3, v3⟩ := rdi (h.i l299 t299 (k := a1.toNatClampNeg) (p := (0, 3)) rfl)
    refine ae_eqi e3 ?_
    refine ae_zald (q := 68) dX7_isReady_67 (h.s l304 t304) (h.l l304) (vin (by omega) (by omega)) rfl ?_
    obtain ⟨x4, e4, u4, v4⟩ := rdi (h.i l304 t304 (k := x3.toNatClampNeg) (p := (0, 1)) rfl)
    refine ae_eqi e4 ?_
    refine ae_iret dX7_isReady_68 rfl (by rcases b01 (by omega : 0 ≤ x4.toInt) (by omega) with q | q <;> rw [q] <;> rfl) ?_
    exact ⟨⟨_, rfl, (by omega), (by omega)⟩, rfl⟩
  · have j2 : x1 = 1 := Int32.toInt_inj.mp (by rw [c2]; decide)
    refine ae_lookup (off := 51) (q := 57) dX7_isReady_6 (by decide) (by rw [j2]; decide) (by decide) ?_
    refine ae_aload_n (q := 58) dX7_isReady_57 rfl rfl rfl ?_
    refine ae_getR (q := 61) dX7_isReady_58 fl_X7_56 rfl (h.s l288 t288) (h.l l288) (h.mr (k := 15) (b := 304) (by decide) rfl) rfl ?_
    refine ae_aload_n (q := 62) dX7_isReady_61 rfl rfl rfl ?_
    refine ae_getR (q := 65) dX7_isReady_62 fl_X7_40 rfl (h.s l288 t288) (h.l l288) (h.mr (k := 10) (b := 299) (by decide) rfl) rfl ?_
    refine ae_iload_n (q := 66) dX7_isReady_65 rfl rfl rfl ?_
    refine ae_iald (q := 67) dX7_isReady_66 (h.s l299 t299) (h.l l299) (vin (by omega) (by omega)) rfl ?_
    obtain ⟨x5, e5, u5, v5⟩ := rdi (h.i l299 t299 (k := a1.toNatClampNeg) (p := (0, 3)) rfl)
    refine ae_eqi e5 ?_
    refine ae_zald (q := 68) dX7_isReady_67 (h.s l304 t304) (h.l l304) (vin (by omega) (by omega)) rfl ?_
    obtain ⟨x6, e6, u6, v6⟩ := rdi (h.i l304 t304 (k := x5.toNatClampNeg) (p := (0, 1)) rfl)
    refine ae_eqi e6 ?_
    refine ae_iret dX7_isReady_68 rfl (by rcases b01 (by omega : 0 ≤ x6.toInt) (by omega) with q | q <;> rw [q] <;> rfl) ?_
    exact ⟨⟨_, rfl, (by omega), (by omega)⟩, rfl⟩
  · have j2 : x1 = 2 := Int32.toInt_inj.mp (by rw [c2]; decide)
    refine ae_lookup (off := 26) (q := 32) dX7_isReady_6 (by decide) (by rw [j2]; decide) (by decide) ?_
    refine ae_aload_n (q := 33) dX7_isReady_32 rfl rfl rfl ?_
    refine ae_iload_n (q := 34) dX7_isReady_33 rfl rfl rfl ?_
    refine ae_callV (ci := 7) (as := [.int a1]) (b := 288) (st := []) (q := 37) dX7_isReady_34 (c_X7_isPassed (N := N) (d := d) h (by omega) (by omega)) myX7_isPassed lk_X7_159 im_X7_isPassed se_X7_isPassed rfl (by decide) (h.s l288 t288) (h.l l288) rfl rfl (Nat.le_of_ble_eq_true rfl) rfl (fun o H1 hh => ⟨_, hh.1.choose_spec.1⟩) (fun vv G7 hv => ?_)
    obtain ⟨⟨x7, o7, u7, v7⟩, z7⟩ := hv
    cases o7
    have z7 := z7.symm
    subst z7
    refine ⟨Or.inl rfl, ?_⟩
    refine ae_iret dX7_isReady_37 rfl (by rcases b01 (by omega : 0 ≤ x7.toInt) (by omega) with q | q <;> rw [q] <;> rfl) ?_
    exact ⟨⟨_, rfl, (by omega), (by omega)⟩, rfl⟩
  · have j2 : x1 = 3 := Int32.toInt_inj.mp (by rw [c2]; decide)
    refine ae_lookup (off := 32) (q := 38) dX7_isReady_6 (by decide) (by rw [j2]; decide) (by decide) ?_
    refine ae_aload_n (q := 39) dX7_isReady_38 rfl rfl rfl ?_
    refine ae_getR (q := 42) dX7_isReady_39 fl_X7_71 rfl (h.s l288 t288) (h.l l288) (h.mr (k := 20) (b := 309) (by decide) rfl) rfl ?_
    refine ae_aload_n (q := 43) dX7_isReady_42 rfl rfl rfl ?_
    refine ae_iload_n (q := 44) dX7_isReady_43 rfl rfl rfl ?_
    refine ae_callV (ci := 7) (as := [.int a1]) (b := 288) (st := [.ref 309]) (q := 47) dX7_isReady_44 (c_X7_inner (N := N) (d := d) h (by omega) (by omega)) myX7_inner lk_X7_166 im_X7_inner se_X7_inner rfl (by decide) (h.s l288 t288) (h.l l288) rfl rfl (Nat.le_of_ble_eq_true rfl) rfl (fun o H1 hh => ⟨_, hh.1.choose_spec.1⟩) (fun vv G8 hv => ?_)
    obtain ⟨⟨x8, o8, u8, v8⟩, z8⟩ := hv
    cases o8
    have z8 := z8.symm
    subst z8
    refine ⟨Or.inl rfl, ?_⟩
    refine ae_iald (q := 48) dX7_isReady_47 (h.s l309 t309) (h.l l309) (vin (by omega) (by omega)) rfl ?_
    obtain ⟨x9, e9⟩ : ∃ x, am_gi H 309 x8.toNatClampNeg = x := ⟨_, rfl⟩
    refine ae_eqi e9 ?_
    refine ae_if_ne (t := 55) (q := 51) dX7_isReady_48 (by decide) rfl (fun c10 => ?_) (fun c10 => ?_)
    · have c10 := i_ne (a := x9.toInt) (b := 0) rfl (by decide) c10
      refine ae_iconst (v := 0) (q := 56) dX7_isReady_55 (by decide) rfl ?_
      refine ae_iret dX7_isReady_56 rfl rfl ?_
      exact ⟨⟨_, rfl, (by decide), (by decide)⟩, rfl⟩
    · have c10 := i_eq (a := x9.toInt) (b := 0) rfl (by decide) c10
      refine ae_iconst (v := 1) (q := 52) dX7_isReady_51 (by decide) rfl ?_
      refine ae_goto (q := 56) dX7_isReady_52 (by decide) ?_
      refine ae_iret dX7_isReady_56 rfl rfl ?_
      exact ⟨⟨_, rfl, (by decide), (by decide)⟩, rfl⟩
  · have j2 : x1 = 4 := Int32.toInt_inj.mp (by rw [c2]; decide)
    refine ae_lookup (off := 51) (q := 57) dX7_isReady_6 (by decide) (by rw [j2]; decide) (by decide) ?_
    refine ae_aload_n (q := 58) dX7_isReady_57 rfl rfl rfl ?_
    refine ae_getR (q := 61) dX7_isReady_58 fl_X7_56 rfl (h.s l288 t288) (h.l l288) (h.mr (k := 15) (b := 304) (by decide) rfl) rfl ?_
    refine ae_aload_n (q := 62) dX7_isReady_61 rfl rfl rfl ?_
    refine ae_getR (q := 65) dX7_isReady_62 fl_X7_40 rfl (h.s l288 t288) (h.l l288) (h.mr (k := 10) (b := 299) (by decide) rfl) rfl ?_
    refine ae_iload_n (q := 66) dX7_isReady_65 rfl rfl rfl ?_
    refine ae_iald (q := 67) dX7_isReady_66 (h.s l299 t299) (h.l l299) (vin (by omega) (by omega)) rfl ?_
    obtain ⟨x11, e11, u11, v11⟩ := rdi (h.i l299 t299 (k := a1.toNatClampNeg) (p := (0, 3)) rfl)
    refine ae_eqi e11 ?_
    refine ae_zald (q := 68) dX7_isReady_67 (h.s l304 t304) (h.l l304) (vin (by omega) (by omega)) rfl ?_
    obtain ⟨x12, e12, u12, v12⟩ := rdi (h.i l304 t304 (k := x11.toNatClampNeg) (p := (0, 1)) rfl)
    refine ae_eqi e12 ?_
    refine ae_iret dX7_isReady_68 rfl (by rcases b01 (by omega : 0 ≤ x12.toInt) (by omega) with q | q <;> rw [q] <;> rfl) ?_
    exact ⟨⟨_, rfl, (by omega), (by omega)⟩, rfl⟩
set_option maxRecDepth 100000 in
set_option maxHeartbeats 4000000 in
theorem c_X7_isOver {ox : List (Nat × (Nat → Int32))} {d N : Nat} {B H : am_H}   (h : jm N B 320 H)  : am_DB 0 ox d yX7_isOver mX7_isOver [.ref 288] H (fun o H1 => (∃ v : Int32, o = .inl (some (.int v)) ∧ 0 ≤ v.toInt ∧ v.toInt ≤ 1) ∧ H1 = H) := by
  refine ae_enter rfl rfl rfl rfl (Nat.le_of_ble_eq_true rfl) ?_
  show am_EB 0 ox d mX7_isOver 0 [(0, .ref 288)] [] H _
  refine ae_aload_n (q := 1) dX7_isOver_0 rfl rfl rfl ?_
  refine ae_getI (q := 4) dX7_isOver_1 fl_X7_122 rfl (h.s l288 t288) (h.l l288) rfl ?_
  obtain ⟨x1, e1, u1, v1⟩ := rdi (h.i l288 t288 (k := 39) (p := (0, 1)) rfl)
  refine ae_eqi e1 ?_
  refine ae_if_eq (t := 22) (q := 7) dX7_isOver_4 (by decide) rfl (fun c2 => ?_) (fun c2 => ?_)
  · have c2 := i_eq (a := x1.toInt) (b := 0) rfl (by decide) c2
    refine ae_iconst (v := 0) (q := 23) dX7_isOver_22 (by decide) rfl ?_
    refine ae_iret dX7_isOver_23 rfl rfl ?_
    exact ⟨⟨_, rfl, (by decide), (by decide)⟩, rfl⟩
  · have c2 := i_ne (a := x1.toInt) (b := 0) rfl (by decide) c2
    refine ae_aload_n (q := 8) dX7_isOver_7 rfl rfl rfl ?_
    refine ae_getR (q := 11) dX7_isOver_8 fl_X7_71 rfl (h.s l288 t288) (h.l l288) (h.mr (k := 20) (b := 309) (by decide) rfl) rfl ?_
    refine ae_sipush (v := 144) (q := 14) dX7_isOver_11 (by decide) rfl ?_
    refine ae_iald (q := 15) dX7_isOver_14 (h.s l309 t309) (h.l l309) (by unfold vp_in; decide) rfl ?_
    refine ae_eqi (show am_gi H 309 (144 : Int32).toNatClampNeg = am_gi H 309 144 from by rw [show (144 : Int32).toNatClampNeg = 144 from by decide]) ?_
    obtain ⟨x3, e3⟩ : ∃ x, am_gi H 309 144 = x := ⟨_, rfl⟩
    refine ae_eqi e3 ?_
    refine ae_if_ne (t := 22) (q := 18) dX7_isOver_15 (by decide) rfl (fun c4 => ?_) (fun c4 => ?_)
    · have c4 := i_ne (a := x3.toInt) (b := 0) rfl (by decide) c4
      refine ae_iconst (v := 0) (q := 23) dX7_isOver_22 (by decide) rfl ?_
      refine ae_iret dX7_isOver_23 rfl rfl ?_
      exact ⟨⟨_, rfl, (by decide), (by decide)⟩, rfl⟩
    · have c4 := i_eq (a := x3.toInt) (b := 0) rfl (by decide) c4
      refine ae_iconst (v := 1) (q := 19) dX7_isOver_18 (by decide) rfl ?_
      refine ae_goto (q := 23) dX7_isOver_19 (by decide) ?_
      refine ae_iret dX7_isOver_23 rfl rfl ?_
      exact ⟨⟨_, rfl, (by decide), (by decide)⟩, rfl⟩
set_option maxRecDepth 100000 in
set_option maxHeartbeats 4000000 in
theorem c_X7_isStuck {ox : List (Nat × (Nat → Int32))} {d N : Nat} {B H : am_H}   (h : jm N B 320 H)  : am_DB 0 ox d yX7_isStuck mX7_isStuck [.ref 288] H (fun o H1 => (∃ v : Int32, o = .inl (some (.int v)) ∧ 0 ≤ v.toInt ∧ v.toInt ≤ 1) ∧ H1 = H) := by
  refine ae_enter rfl rfl rfl rfl (Nat.le_of_ble_eq_true rfl) ?_
  show am_EB 0 ox d mX7_isStuck 0 [(0, .ref 288)] [] H _
  refine ae_iconst (v := 0) (q := 1) dX7_isStuck_0 (by decide) rfl ?_
  refine ae_istore_n (lv' := [(1, .int 0), (0, .ref 288)]) (q := 2) dX7_isStuck_1 rfl (by decide) rfl rfl ?_
  have lab2 : ∀ (n1 : Nat) (y1_1 : Int32), 0 ≤ y1_1.toInt → y1_1.toInt ≤ 3 → 3 - y1_1.toInt ≤ (n1 : Int) → am_EB 0 ox d mX7_isStuck 2 [(1, .int y1_1), (0, .ref 288)] [] H (fun o H1 => (∃ v : Int32, o = .inl (some (.int v)) ∧ 0 ≤ v.toInt ∧ v.toInt ≤ 1) ∧ H1 = H) := by
    intro n1
    induction n1 using Nat.strongRecOn with
    | ind n1 ih1 =>
      intro y1_1 p1_1 q1_1 mm1
      refine ae_iload_n (q := 3) dX7_isStuck_2 rfl rfl rfl ?_
      refine ae_aload_n (q := 4) dX7_isStuck_3 rfl rfl rfl ?_
      refine ae_getI (q := 7) dX7_isStuck_4 fl_X7_138 rfl (h.s l288 t288) (h.l l288) rfl ?_
      obtain ⟨x2, e2, u2, v2⟩ := rdi (h.i l288 t288 (k := 31) (p := (0, 3)) rfl)
      refine ae_eqi e2 ?_
      refine ae_icmp_ge (t := 36) (q := 10) dX7_isStuck_7 (by decide) rfl (fun c3 => ?_) (fun c3 => ?_)
      · have c3 := i_le (a := x2.toInt) (b := y1_1.toInt) rfl rfl c3
        refine ae_aload_n (q := 37) dX7_isStuck_36 rfl rfl rfl ?_
        refine ae_getR (q := 40) dX7_isStuck_37 fl_X7_71 rfl (h.s l288 t288) (h.l l288) (h.mr (k := 20) (b := 309) (by decide) rfl) rfl ?_
        refine ae_sipush (v := 144) (q := 43) dX7_isStuck_40 (by decide) rfl ?_
        refine ae_iald (q := 44) dX7_isStuck_43 (h.s l309 t309) (h.l l309) (by unfold vp_in; decide) rfl ?_
        refine ae_eqi (show am_gi H 309 (144 : Int32).toNatClampNeg = am_gi H 309 144 from by rw [show (144 : Int32).toNatClampNeg = 144 from by decide]) ?_
        obtain ⟨x4, e4⟩ : ∃ x, am_gi H 309 144 = x := ⟨_, rfl⟩
        refine ae_eqi e4 ?_
        refine ae_if_le (t := 51) (q := 47) dX7_isStuck_44 (by decide) rfl (fun c5 => ?_) (fun c5 => ?_)
        · have c5 := i_le (a := x4.toInt) (b := 0) rfl (by decide) c5
          refine ae_iconst (v := 0) (q := 52) dX7_isStuck_51 (by decide) rfl ?_
          refine ae_iret dX7_isStuck_52 rfl rfl ?_
          exact ⟨⟨_, rfl, (by decide), (by decide)⟩, rfl⟩
        · have c5 := i_nle (a := x4.toInt) (b := 0) rfl (by decide) c5
          refine ae_iconst (v := 1) (q := 48) dX7_isStuck_47 (by decide) rfl ?_
          refine ae_goto (q := 52) dX7_isStuck_48 (by decide) ?_
          refine ae_iret dX7_isStuck_52 rfl rfl ?_
          exact ⟨⟨_, rfl, (by decide), (by decide)⟩, rfl⟩
      · have c3 := i_nle (a := x2.toInt) (b := y1_1.toInt) rfl rfl c3
        refine ae_aload_n (q := 11) dX7_isStuck_10 rfl rfl rfl ?_
        refine ae_getR (q := 14) dX7_isStuck_11 fl_X7_89 rfl (h.s l288 t288) (h.l l288) (h.mr (k := 26) (b := 315) (by decide) rfl) rfl ?_
        refine ae_iload_n (q := 15) dX7_isStuck_14 rfl rfl rfl ?_
        refine ae_iald (q := 16) dX7_isStuck_15 (h.s l315 t315) (h.l l315) (vin (by omega) (by omega)) rfl ?_
        obtain ⟨x6, e6, u6, v6⟩ := rdi (h.i l315 t315 (k := y1_1.toNatClampNeg) (p := ((-1), 47)) rfl)
        refine ae_eqi e6 ?_
        refine ae_if_ge (t := 28) (q := 19) dX7_isStuck_16 (by decide) rfl (fun c7 => ?_) (fun c7 => ?_)
        · have c7 := i_le (a := 0) (b := x6.toInt) (by decide) rfl c7
          refine ae_iconst (v := 0) (q := 29) dX7_isStuck_28 (by decide) rfl ?_
          refine ae_iret dX7_isStuck_29 rfl rfl ?_
          exact ⟨⟨_, rfl, (by decide), (by decide)⟩, rfl⟩
        · have c7 := i_nle (a := 0) (b := x6.toInt) (by decide) rfl c7
          refine ae_aload_n (q := 20) dX7_isStuck_19 rfl rfl rfl ?_
          refine ae_getR (q := 23) dX7_isStuck_20 fl_X7_92 rfl (h.s l288 t288) (h.l l288) (h.mr (k := 27) (b := 316) (by decide) rfl) rfl ?_
          refine ae_iload_n (q := 24) dX7_isStuck_23 rfl rfl rfl ?_
          refine ae_iald (q := 25) dX7_isStuck_24 (h.s l316 t316) (h.l l316) (vin (by omega) (by omega)) rfl ?_
          obtain ⟨x8, e8, u8, v8⟩ := rdi (h.i l316 t316 (k := y1_1.toNatClampNeg) (p := (0, 48)) rfl)
          refine ae_eqi e8 ?_
          refine ae_if_le (t := 30) (q := 28) dX7_isStuck_25 (by decide) rfl (fun c9 => ?_) (fun c9 => ?_)
          · have c9 := i_le (a := x8.toInt) (b := 0) rfl (by decide) c9
            obtain ⟨x10, e10⟩ : ∃ z, y1_1 + Int32.ofInt 1 = z := ⟨_, rfl⟩
            have f10 : x10.toInt = y1_1.toInt + 1 := by rw [← e10]; exact i_add rfl (by decide) (by omega) (by omega)
            refine ae_iinc (v := x10) (lv' := [(1, .int x10), (0, .ref 288)]) (q := 33) dX7_isStuck_30 rfl e10 (by decide) rfl rfl ?_
            refine ae_goto (q := 2) dX7_isStuck_33 (by decide) ?_
            exact ae_lv (lv' := [(1, .int x10), (0, .ref 288)]) ⟨rfl, rfl, trivial⟩ (ih1 (n1 - 1) (by omega) x10 (by omega) (by omega) (by omega))
          · have c9 := i_nle (a := x8.toInt) (b := 0) rfl (by decide) c9
            refine ae_iconst (v := 0) (q := 29) dX7_isStuck_28 (by decide) rfl ?_
            refine ae_iret dX7_isStuck_29 rfl rfl ?_
            exact ⟨⟨_, rfl, (by decide), (by decide)⟩, rfl⟩
  exact ae_lv (lv' := [(1, .int 0), (0, .ref 288)]) ⟨rfl, rfl, trivial⟩ (lab2 3 0 (by decide) (by decide) (show 3 - (0 : Int32).toInt ≤ _ from by rw [show (0 : Int32).toInt = 0 from by decide]; omega))
set_option maxRecDepth 100000 in
set_option maxHeartbeats 4000000 in
theorem c_X7_step {ox : List (Nat × (Nat → Int32))} {d N : Nat} {B H : am_H} {a1 : Int32} (hR : R3 B) (hN : N + 2 ≤ 1000000) (h : jm N B 320 H) (u_1 : 0 ≤ a1.toInt) (v_1 : a1.toInt ≤ 47) : am_DB 0 ox (d + 4) yX7_step mX7_step [.ref 288, .int a1] H (fun o H1 => o = .inl none ∧ jm (N + 2) B 320 H1 ∧ am_gi H1 315 = am_gi H 315 ∧ ((am_gi H1 288 38).toInt < 0 ∧ (dl H ≤ dl H1 ∨ dl H - 1 ≤ dl H1 ∧ (am_gi H1 292 a1.toNatClampNeg).toInt ≠ 1) ∨ dl H + 1 ≤ dl H1)) := by
  refine ae_enter rfl rfl rfl rfl (Nat.le_of_ble_eq_true rfl) ?_
  show am_EB 0 ox (d + 4) mX7_step 0 [(0, .ref 288), (1, .int a1)] [] H _
  have hd : am_gi H 315 = am_gi H 315 := rfl
  refine ae_aload_n (q := 1) dX7_step_0 rfl rfl rfl ?_
  refine ae_dup (q := 2) dX7_step_1 rfl rfl ?_
  refine ae_getI (q := 5) dX7_step_2 fl_X7_129 rfl (h.s l288 t288) (h.l l288) rfl ?_
  obtain ⟨x1, e1⟩ : ∃ x, am_gi H 288 34 = x := ⟨_, rfl⟩
  refine ae_eqi e1 ?_
  refine ae_iconst (v := 1) (q := 6) dX7_step_5 (by decide) rfl ?_
  refine ae_iadd (q := 7) dX7_step_6 rfl ?_
  obtain ⟨x2, e2⟩ : ∃ z, x1 + 1 = z := ⟨_, rfl⟩
  refine ae_eqi e2 ?_
  refine ae_putI (q := 10) dX7_step_7 fl_X7_129 rfl rfl rfl (h.s l288 t288) (h.l l288) rfl ?_
  refine ae_gen (fun G3 g3 => ?_)
  have h : jm N B 320 G3 := by rw [g3]; exact h.w t288 (by decide) (by decide) (by decide) inr_any
  have hd : am_gi G3 315 = am_gi H 315 := by rw [g3]; exact (gi_rowne (by decide)).trans hd
  have q3 : dl G3 = dl H := by rw [g3]; exact dl_ne (by decide) (by decide) (by decide) (fun q => absurd q.2 (by decide))
  refine ae_aload_n (q := 11) dX7_step_10 rfl rfl rfl ?_
  refine ae_iconst (v := (-1)) (q := 12) dX7_step_11 (by decide) rfl ?_
  refine ae_putI (q := 15) dX7_step_12 fl_X7_179 rfl rfl rfl (h.s l288 t288) (h.l l288) rfl ?_
  refine ae_gen (fun G4 g4 => ?_)
  have h : jm N B 320 G4 := by rw [g4]; exact h.w t288 (by decide) (by decide) (by decide) (mk_inr (lo := (-1)) (hi := 47) (by decide) (by decide))
  have hd : am_gi G4 315 = am_gi H 315 := by rw [g4]; exact (gi_rowne (by decide)).trans hd
  have q4 : dl G4 = dl G3 := by rw [g4]; exact dl_ne (by decide) (by decide) (by decide) (fun q => absurd q.2 (by decide))
  refine ae_aload_n (q := 16) dX7_step_15 rfl rfl rfl ?_
  refine ae_getR (q := 19) dX7_step_16 fl_X7_46 rfl (h.s l288 t288) (h.l l288) (h.mr (k := 12) (b := 301) (by decide) rfl) rfl ?_
  refine ae_iload_n (q := 20) dX7_step_19 rfl rfl rfl ?_
  refine ae_zald (q := 21) dX7_step_20 (h.s l301 t301) (h.l l301) (vin (by omega) (by omega)) rfl ?_
  obtain ⟨x5, e5, u5, v5⟩ := rdi (h.i l301 t301 (k := a1.toNatClampNeg) (p := (0, 1)) rfl)
  refine ae_eqi e5 ?_
  refine ae_if_eq (t := 30) (q := 24) dX7_step_21 (by decide) rfl (fun c6 => ?_) (fun c6 => ?_)
  · have c6 := i_eq (a := x5.toInt) (b := 0) rfl (by decide) c6
    refine ae_aload_n (q := 31) dX7_step_30 rfl rfl rfl ?_
    refine ae_getR (q := 34) dX7_step_31 fl_X7_28 rfl (h.s l288 t288) (h.l l288) (h.mr (k := 6) (b := 295) (by decide) rfl) rfl ?_
    refine ae_iload_n (q := 35) dX7_step_34 rfl rfl rfl ?_
    refine ae_iald (q := 36) dX7_step_35 (h.s l295 t295) (h.l l295) (vin (by omega) (by omega)) rfl ?_
    obtain ⟨x7, e7, u7, v7⟩ := rdi (h.i l295 t295 (k := a1.toNatClampNeg) (p := (0, 7)) rfl)
    refine ae_eqi e7 ?_
    refine ae_istore_n (lv' := [(2, .int x7), (0, .ref 288), (1, .int a1)]) (q := 37) dX7_step_36 rfl (by decide) rfl rfl ?_
    refine ae_aload_n (q := 38) dX7_step_37 rfl rfl rfl ?_
    refine ae_getR (q := 41) dX7_step_38 fl_X7_25 rfl (h.s l288 t288) (h.l l288) (h.mr (k := 5) (b := 294) (by decide) rfl) rfl ?_
    refine ae_iload_n (q := 42) dX7_step_41 rfl rfl rfl ?_
    refine ae_iald (q := 43) dX7_step_42 (h.s l294 t294) (h.l l294) (vin (by omega) (by omega)) rfl ?_
    obtain ⟨x8, e8, u8, v8⟩ := rdi (h.i l294 t294 (k := a1.toNatClampNeg) (p := (0, 16 + ((N : Nat) : Int))) rfl)
    refine ae_eqi e8 ?_
    refine ae_aload_n (q := 44) dX7_step_43 rfl rfl rfl ?_
    refine ae_getR (q := 47) dX7_step_44 fl_X7_7 rfl (h.s l288 t288) (h.l l288) (h.mr (k := 0) (b := 289) (by decide) rfl) rfl ?_
    refine ae_iload_n (q := 48) dX7_step_47 rfl rfl rfl ?_
    refine ae_iald (q := 49) dX7_step_48 (h.s l289 t289) (h.l l289) (vin (by omega) (by omega)) rfl ?_
    obtain ⟨x9, e9, u9, v9⟩ := rdi (h.i l289 t289 (k := x7.toNatClampNeg) (p := (0, 16)) rfl)
    refine ae_eqi e9 ?_
    refine ae_icmp_lt (t := 84) (q := 52) dX7_step_49 (by decide) rfl (fun c10 => ?_) (fun c10 => ?_)
    · have c10 := i_lt (a := x8.toInt) (b := x9.toInt) rfl rfl c10
      refine ae_aload_n (q := 85) dX7_step_84 rfl rfl rfl ?_
      refine ae_getR (q := 88) dX7_step_85 fl_X7_13 rfl (h.s l288 t288) (h.l l288) (h.mr (k := 1) (b := 290) (by decide) rfl) rfl ?_
      refine ae_bipush (v := 16) (q := 90) dX7_step_88 (by decide) rfl ?_
      refine ae_iload_n (q := 91) dX7_step_90 rfl rfl rfl ?_
      refine ae_imul (q := 92) dX7_step_91 rfl ?_
      obtain ⟨x11, e11⟩ : ∃ z, 16 * x7 = z := ⟨_, rfl⟩
      refine ae_eqi e11 ?_
      have f11 : x11.toInt = 16 * x7.toInt := by rw [← e11]; exact i_mul (by decide) rfl (by omega) (by omega)
      refine ae_aload_n (q := 93) dX7_step_92 rfl rfl rfl ?_
      refine ae_getR (q := 96) dX7_step_93 fl_X7_25 rfl (h.s l288 t288) (h.l l288) (h.mr (k := 5) (b := 294) (by decide) rfl) rfl ?_
      refine ae_iload_n (q := 97) dX7_step_96 rfl rfl rfl ?_
      refine ae_iald (q := 98) dX7_step_97 (h.s l294 t294) (h.l l294) (vin (by omega) (by omega)) rfl ?_
      refine ae_eqi e8 ?_
      refine ae_iadd (q := 99) dX7_step_98 rfl ?_
      obtain ⟨x12, e12⟩ : ∃ z, x11 + x8 = z := ⟨_, rfl⟩
      refine ae_eqi e12 ?_
      have f12 : x12.toInt = x11.toInt + x8.toInt := by rw [← e12]; exact i_add rfl rfl (by omega) (by omega)
      refine ae_iald (q := 100) dX7_step_99 (h.s l290 t290) (h.l l290) (vin (by omega) (by omega)) rfl ?_
      obtain ⟨x13, e13, u13, v13⟩ := rdi (h.i l290 t290 (k := x12.toNatClampNeg) (p := (0, 16)) rfl)
      refine ae_eqi e13 ?_
      refine ae_istore_n (lv' := [(3, .int x13), (2, .int x7), (0, .ref 288), (1, .int a1)]) (q := 101) dX7_step_100 rfl (by decide) rfl rfl ?_
      refine ae_aload_n (q := 102) dX7_step_101 rfl rfl rfl ?_
      refine ae_getR (q := 105) dX7_step_102 fl_X7_16 rfl (h.s l288 t288) (h.l l288) (h.mr (k := 2) (b := 291) (by decide) rfl) rfl ?_
      refine ae_bipush (v := 16) (q := 107) dX7_step_105 (by decide) rfl ?_
      refine ae_iload_n (q := 108) dX7_step_107 rfl rfl rfl ?_
      refine ae_imul (q := 109) dX7_step_108 rfl ?_
      refine ae_eqi e11 ?_
      refine ae_aload_n (q := 110) dX7_step_109 rfl rfl rfl ?_
      refine ae_getR (q := 113) dX7_step_110 fl_X7_25 rfl (h.s l288 t288) (h.l l288) (h.mr (k := 5) (b := 294) (by decide) rfl) rfl ?_
      refine ae_iload_n (q := 114) dX7_step_113 rfl rfl rfl ?_
      refine ae_iald (q := 115) dX7_step_114 (h.s l294 t294) (h.l l294) (vin (by omega) (by omega)) rfl ?_
      refine ae_eqi e8 ?_
      refine ae_iadd (q := 116) dX7_step_115 rfl ?_
      refine ae_eqi e12 ?_
      refine ae_iald (q := 117) dX7_step_116 (h.s l291 t291) (h.l l291) (vin (by omega) (by omega)) rfl ?_
      obtain ⟨x14, e14⟩ : ∃ x, am_gi G4 291 x12.toNatClampNeg = x := ⟨_, rfl⟩
      refine ae_eqi e14 ?_
      refine ae_istore (lv' := [(4, .int x14), (3, .int x13), (2, .int x7), (0, .ref 288), (1, .int a1)]) (q := 119) dX7_step_117 (by decide) rfl rfl ?_
      refine ae_iload_n (q := 120) dX7_step_119 rfl rfl rfl ?_
      have lab362 : ∀ (K15 : am_H), jm (N + 1) B 320 K15 → am_gi K15 315 = am_gi H 315 → am_gi K15 288 38 = -1 → dl K15 = dl H → am_EB 0 ox (d + 4) mX7_step 362 [(2, .int x7), (0, .ref 288), (1, .int a1)] [] K15 (fun o H1 => o = .inl none ∧ jm (N + 2) B 320 H1 ∧ am_gi H1 315 = am_gi H 315 ∧ ((am_gi H1 288 38).toInt < 0 ∧ (dl H ≤ dl H1 ∨ dl H - 1 ≤ dl H1 ∧ (am_gi H1 292 a1.toNatClampNeg).toInt ≠ 1) ∨ dl H + 1 ≤ dl H1)) := by
        intro K15 h ha15 hb15 hc15
        have hd := ha15
        refine ae_aload_n (q := 363) dX7_step_362 rfl rfl rfl ?_
        refine ae_getR (q := 366) dX7_step_363 fl_X7_25 rfl (h.s l288 t288) (h.l l288) (h.mr (k := 5) (b := 294) (by decide) rfl) rfl ?_
        refine ae_iload_n (q := 367) dX7_step_366 rfl rfl rfl ?_
        refine ae_dup2 (q := 368) dX7_step_367 rfl rfl rfl ?_
        refine ae_iald (q := 369) dX7_step_368 (h.s l294 t294) (h.l l294) (vin (by omega) (by omega)) rfl ?_
        obtain ⟨x16, e16, u16, v16⟩ := rdi (h.i l294 t294 (k := a1.toNatClampNeg) (p := (0, 16 + (((N + 1) : Nat) : Int))) rfl)
        refine ae_eqi e16 ?_
        refine ae_iconst (v := 1) (q := 370) dX7_step_369 (by decide) rfl ?_
        refine ae_iadd (q := 371) dX7_step_370 rfl ?_
        obtain ⟨x17, e17⟩ : ∃ z, x16 + 1 = z := ⟨_, rfl⟩
        refine ae_eqi e17 ?_
        have f17 : x17.toInt = x16.toInt + 1 := by rw [← e17]; exact i_add rfl (by decide) (by omega) (by omega)
        have h : jm (N + 2) B 320 K15 := h.up (by omega)
        refine ae_iast (q := 372) dX7_step_371 (h.s l294 t294) (h.l l294) (vin (by omega) (by omega)) rfl ?_
        refine ae_gen (fun G18 g18 => ?_)
        have h : jm (N + 2) B 320 G18 := by rw [g18]; exact h.w t294 (by decide) (by decide) (by decide) (mk_inr (lo := 0) (hi := 16 + (((N + 2) : Nat) : Int)) (by omega) (by omega))
        have hd : am_gi G18 315 = am_gi H 315 := by rw [g18]; exact (gi_rowne (by decide)).trans hd
        have q18 : dl G18 = dl K15 := by rw [g18]; exact dl_ne (by decide) (by decide) (by decide) (fun q => absurd q.1 (by decide))
        refine ae_vret dX7_step_372 rfl ?_
        have m19 : am_gi G18 288 38 = (-1) := by rw [g18]; exact gi_si hb15 (fun q => absurd q.1 (by decide))
        exact ⟨rfl, ⟨h, hd, Or.inl ⟨by rw [m19]; decide, Or.inl (by omega)⟩⟩⟩
      have c20 : x13.toInt = 0 ∨ x13.toInt = 1 ∨ x13.toInt = 2 ∨ x13.toInt = 3 ∨ x13.toInt = 4 ∨ x13.toInt = 5 ∨ x13.toInt = 6 ∨ x13.toInt = 7 ∨ x13.toInt = 8 ∨ x13.toInt = 9 ∨ x13.toInt = 10 ∨ x13.toInt = 11 ∨ x13.toInt = 12 ∨ x13.toInt = 13 ∨ x13.toInt = 14 ∨ x13.toInt = 15 ∨ x13.toInt = 16 := by omega
      rcases c20 with c20 | c20 | c20 | c20 | c20 | c20 | c20 | c20 | c20 | c20 | c20 | c20 | c20 | c20 | c20 | c20 | c20
      · have j20 : x13 = 0 := Int32.toInt_inj.mp (by rw [c20]; decide)
        refine ae_tableIn (off := 172) (q := 292) dX7_step_120 (by rw [j20]; decide) (by rw [j20]; decide) (by rw [j20]; decide) (by decide) ?_
        subst j20
        refine ae_aload_n (q := 293) dX7_step_292 rfl rfl rfl ?_
        refine ae_getR (q := 296) dX7_step_293 fl_X7_22 rfl (h.s l288 t288) (h.l l288) (h.mr (k := 4) (b := 293) (by decide) rfl) rfl ?_
        refine ae_iload_n (q := 297) dX7_step_296 rfl rfl rfl ?_
        refine ae_dup2 (q := 298) dX7_step_297 rfl rfl rfl ?_
        refine ae_iald (q := 299) dX7_step_298 (h.s l293 t293) (h.l l293) (vin (by omega) (by omega)) rfl ?_
        obtain ⟨x21, e21⟩ : ∃ x, am_gi G4 293 a1.toNatClampNeg = x := ⟨_, rfl⟩
        refine ae_eqi e21 ?_
        refine ae_iload (q := 301) dX7_step_299 rfl rfl ?_
        refine ae_iadd (q := 302) dX7_step_301 rfl ?_
        obtain ⟨x22, e22⟩ : ∃ z, x21 + x14 = z := ⟨_, rfl⟩
        refine ae_eqi e22 ?_
        refine ae_iast (q := 303) dX7_step_302 (h.s l293 t293) (h.l l293) (vin (by omega) (by omega)) rfl ?_
        refine ae_gen (fun G23 g23 => ?_)
        have h : jm N B 320 G23 := by rw [g23]; exact h.w t293 (by decide) (by decide) (by decide) inr_any
        have hd : am_gi G23 315 = am_gi H 315 := by rw [g23]; exact (gi_rowne (by decide)).trans hd
        have q23 : dl G23 = dl G4 := by rw [g23]; exact dl_ne (by decide) (by decide) (by decide) (fun q => absurd q.1 (by decide))
        refine ae_goto (q := 362) dX7_step_303 (by decide) ?_
        have m24 : am_gi G23 288 38 = (-1) := by rw [g23]; exact gi_si (show am_gi G4 288 38 = (-1) by rw [g4]; exact gi_set) (fun q => absurd q.1 (by decide))
        exact ae_lv (lv' := [(2, .int x7), (0, .ref 288), (1, .int a1)]) ⟨rfl, rfl, rfl, trivial⟩ (lab362 _ (h.up (by omega)) hd m24 (by omega))
      · have j20 : x13 = 1 := Int32.toInt_inj.mp (by rw [c20]; decide)
        refine ae_tableIn (off := 186) (q := 306) dX7_step_120 (by rw [j20]; decide) (by rw [j20]; decide) (by rw [j20]; decide) (by decide) ?_
        subst j20
        refine ae_aload_n (q := 307) dX7_step_306 rfl rfl rfl ?_
        refine ae_getR (q := 310) dX7_step_307 fl_X7_22 rfl (h.s l288 t288) (h.l l288) (h.mr (k := 4) (b := 293) (by decide) rfl) rfl ?_
        refine ae_iload_n (q := 311) dX7_step_310 rfl rfl rfl ?_
        refine ae_dup2 (q := 312) dX7_step_311 rfl rfl rfl ?_
        refine ae_iald (q := 313) dX7_step_312 (h.s l293 t293) (h.l l293) (vin (by omega) (by omega)) rfl ?_
        obtain ⟨x25, e25⟩ : ∃ x, am_gi G4 293 a1.toNatClampNeg = x := ⟨_, rfl⟩
        refine ae_eqi e25 ?_
        refine ae_iload (q := 315) dX7_step_313 rfl rfl ?_
        refine ae_imul (q := 316) dX7_step_315 rfl ?_
        obtain ⟨x26, e26⟩ : ∃ z, x25 * x14 = z := ⟨_, rfl⟩
        refine ae_eqi e26 ?_
        refine ae_iast (q := 317) dX7_step_316 (h.s l293 t293) (h.l l293) (vin (by omega) (by omega)) rfl ?_
        refine ae_gen (fun G27 g27 => ?_)
        have h : jm N B 320 G27 := by rw [g27]; exact h.w t293 (by decide) (by decide) (by decide) inr_any
        have hd : am_gi G27 315 = am_gi H 315 := by rw [g27]; exact (gi_rowne (by decide)).trans hd
        have q27 : dl G27 = dl G4 := by rw [g27]; exact dl_ne (by decide) (by decide) (by decide) (fun q => absurd q.1 (by decide))
        refine ae_goto (q := 362) dX7_step_317 (by decide) ?_
        have m28 : am_gi G27 288 38 = (-1) := by rw [g27]; exact gi_si (show am_gi G4 288 38 = (-1) by rw [g4]; exact gi_set) (fun q => absurd q.1 (by decide))
        exact ae_lv (lv' := [(2, .int x7), (0, .ref 288), (1, .int a1)]) ⟨rfl, rfl, rfl, trivial⟩ (lab362 _ (h.up (by omega)) hd m28 (by omega))
      · have j20 : x13 = 2 := Int32.toInt_inj.mp (by rw [c20]; decide)
        refine ae_tableIn (off := 84) (q := 204) dX7_step_120 (by rw [j20]; decide) (by rw [j20]; decide) (by rw [j20]; decide) (by decide) ?_
        have fa := (h.ins hR x12.toNatClampNeg).1 (by rw [e13]; omega)
        rw [e14] at fa
        obtain ⟨fa1, fa2⟩ := fa
        subst j20
        refine ae_aload_n (q := 205) dX7_step_204 rfl rfl rfl ?_
        refine ae_iload_n (q := 206) dX7_step_205 rfl rfl rfl ?_
        refine ae_iload_n (q := 207) dX7_step_206 rfl rfl rfl ?_
        refine ae_iload (q := 209) dX7_step_207 rfl rfl ?_
        refine ae_callV (ci := 7) (as := [.int a1, .int 2, .int x14]) (b := 288) (st := []) (q := 212) dX7_step_209 (c_X7_spawn_2 (N := N) (d := d) (by omega) h (by omega) (by omega) (by omega) (by omega)) myX7_spawn lk_X7_185 im_X7_spawn se_X7_spawn rfl (by decide) (h.s l288 t288) (h.l l288) rfl rfl (Nat.le_of_ble_eq_true rfl) rfl (fun o H1 hh => ⟨_, hh.1⟩) (fun vv G29 hv => ?_)
        obtain ⟨o29, z29⟩ := hv
        cases o29
        obtain ⟨z29, w29⟩ := z29
        refine ⟨Or.inl (z29.nx.trans h.nx.symm), ?_⟩
        have h : jm (N + 1) B 320 G29 := z29
        clear z29
        obtain ⟨wa29, q29⟩ := w29
        have hd : am_gi G29 315 = am_gi H 315 := wa29.trans hd
        refine ae_vret dX7_step_212 rfl ?_
        exact ⟨rfl, ⟨(h.up (by omega)), hd, (q29.elim (fun q => Or.inl ⟨by rw [q.1, (show am_gi G4 288 38 = (-1) by rw [g4]; exact gi_set)]; decide, q.2.elim (fun z => Or.inl (by omega)) (fun z => Or.inr ⟨by omega, z.2⟩)⟩) (fun q => Or.inr (by omega)))⟩⟩
      · have j20 : x13 = 3 := Int32.toInt_inj.mp (by rw [c20]; decide)
        refine ae_tableIn (off := 84) (q := 204) dX7_step_120 (by rw [j20]; decide) (by rw [j20]; decide) (by rw [j20]; decide) (by decide) ?_
        have fa := (h.ins hR x12.toNatClampNeg).1 (by rw [e13]; omega)
        rw [e14] at fa
        obtain ⟨fa1, fa2⟩ := fa
        subst j20
        refine ae_aload_n (q := 205) dX7_step_204 rfl rfl rfl ?_
        refine ae_iload_n (q := 206) dX7_step_205 rfl rfl rfl ?_
        refine ae_iload_n (q := 207) dX7_step_206 rfl rfl rfl ?_
        refine ae_iload (q := 209) dX7_step_207 rfl rfl ?_
        refine ae_callV (ci := 7) (as := [.int a1, .int 3, .int x14]) (b := 288) (st := []) (q := 212) dX7_step_209 (c_X7_spawn_3 (N := N) (d := d) (by omega) h (by omega) (by omega) (by omega) (by omega)) myX7_spawn lk_X7_185 im_X7_spawn se_X7_spawn rfl (by decide) (h.s l288 t288) (h.l l288) rfl rfl (Nat.le_of_ble_eq_true rfl) rfl (fun o H1 hh => ⟨_, hh.1⟩) (fun vv G30 hv => ?_)
        obtain ⟨o30, z30⟩ := hv
        cases o30
        obtain ⟨z30, w30⟩ := z30
        refine ⟨Or.inl (z30.nx.trans h.nx.symm), ?_⟩
        have h : jm (N + 1) B 320 G30 := z30
        clear z30
        obtain ⟨wa30, q30⟩ := w30
        have hd : am_gi G30 315 = am_gi H 315 := wa30.trans hd
        refine ae_vret dX7_step_212 rfl ?_
        exact ⟨rfl, ⟨(h.up (by omega)), hd, (q30.elim (fun q => Or.inl ⟨by rw [q.1, (show am_gi G4 288 38 = (-1) by rw [g4]; exact gi_set)]; decide, q.2.elim (fun z => Or.inl (by omega)) (fun z => Or.inr ⟨by omega, z.2⟩)⟩) (fun q => Or.inr (by omega)))⟩⟩
      · have j20 : x13 = 4 := Int32.toInt_inj.mp (by rw [c20]; decide)
        refine ae_tableIn (off := 93) (q := 213) dX7_step_120 (by rw [j20]; decide) (by rw [j20]; decide) (by rw [j20]; decide) (by decide) ?_
        have fa := (h.ins hR x12.toNatClampNeg).2.1 (by rw [e13]; omega)
        rw [e14] at fa
        obtain ⟨fa1, fa2⟩ := fa
        subst j20
        refine ae_aload_n (q := 214) dX7_step_213 rfl rfl rfl ?_
        refine ae_iload_n (q := 215) dX7_step_214 rfl rfl rfl ?_
        refine ae_iload_n (q := 216) dX7_step_215 rfl rfl rfl ?_
        refine ae_iload (q := 218) dX7_step_216 rfl rfl ?_
        refine ae_callV (ci := 7) (as := [.int a1, .int 4, .int x14]) (b := 288) (st := []) (q := 221) dX7_step_218 (c_X7_onScope_4 (N := N) (d := d) (by omega) h (by omega) (by omega) (by omega) (by omega)) myX7_onScope lk_X7_188 im_X7_onScope se_X7_onScope rfl (by decide) (h.s l288 t288) (h.l l288) rfl rfl (Nat.le_of_ble_eq_true rfl) rfl (fun o H1 hh => ⟨_, hh.1⟩) (fun vv G31 hv => ?_)
        obtain ⟨o31, z31⟩ := hv
        cases o31
        obtain ⟨z31, w31⟩ := z31
        refine ⟨Or.inl (z31.nx.trans h.nx.symm), ?_⟩
        have h : jm (N + 1) B 320 G31 := z31
        clear z31
        obtain ⟨wa31, wb31, q31⟩ := w31
        have hd : am_gi G31 315 = am_gi H 315 := wa31.trans hd
        refine ae_vret dX7_step_221 rfl ?_
        exact ⟨rfl, ⟨(h.up (by omega)), hd, Or.inl ⟨by rw [(wb31.trans (show am_gi G4 288 38 = (-1) by rw [g4]; exact gi_set))]; decide, q31.elim (fun q => Or.inl (by omega)) (fun q => Or.inr ⟨by omega, q.2⟩)⟩⟩⟩
      · have j20 : x13 = 5 := Int32.toInt_inj.mp (by rw [c20]; decide)
        refine ae_tableIn (off := 93) (q := 213) dX7_step_120 (by rw [j20]; decide) (by rw [j20]; decide) (by rw [j20]; decide) (by decide) ?_
        subst j20
        refine ae_aload_n (q := 214) dX7_step_213 rfl rfl rfl ?_
        refine ae_iload_n (q := 215) dX7_step_214 rfl rfl rfl ?_
        refine ae_iload_n (q := 216) dX7_step_215 rfl rfl rfl ?_
        refine ae_iload (q := 218) dX7_step_216 rfl rfl ?_
        refine ae_callV (ci := 7) (as := [.int a1, .int 5, .int x14]) (b := 288) (st := []) (q := 221) dX7_step_218 (c_X7_onScope_5 (N := N) (d := d) (by omega) h (by omega) (by omega)) myX7_onScope lk_X7_188 im_X7_onScope se_X7_onScope rfl (by decide) (h.s l288 t288) (h.l l288) rfl rfl (Nat.le_of_ble_eq_true rfl) rfl (fun o H1 hh => ⟨_, hh.1⟩) (fun vv G32 hv => ?_)
        obtain ⟨o32, z32⟩ := hv
        cases o32
        obtain ⟨z32, w32⟩ := z32
        refine ⟨Or.inl (z32.nx.trans h.nx.symm), ?_⟩
        have h : jm (N + 1) B 320 G32 := z32
        clear z32
        obtain ⟨wa32, wb32, q32⟩ := w32
        have hd : am_gi G32 315 = am_gi H 315 := wa32.trans hd
        refine ae_vret dX7_step_221 rfl ?_
        exact ⟨rfl, ⟨(h.up (by omega)), hd, Or.inl ⟨by rw [(wb32.trans (show am_gi G4 288 38 = (-1) by rw [g4]; exact gi_set))]; decide, q32.elim (fun q => Or.inl (by omega)) (fun q => Or.inr ⟨by omega, q.2⟩)⟩⟩⟩
      · have j20 : x13 = 6 := Int32.toInt_inj.mp (by rw [c20]; decide)
        refine ae_tableIn (off := 200) (q := 320) dX7_step_120 (by rw [j20]; decide) (by rw [j20]; decide) (by rw [j20]; decide) (by decide) ?_
        subst j20
        refine ae_aload_n (q := 321) dX7_step_320 rfl rfl rfl ?_
        refine ae_iload_n (q := 322) dX7_step_321 rfl rfl rfl ?_
        refine ae_callV (ci := 7) (as := [.int a1]) (b := 288) (st := []) (q := 325) dX7_step_322 (c_X7_give (N := N) (d := d + 2) h (by omega) (by omega)) myX7_give lk_X7_200 im_X7_give se_X7_give rfl (by decide) (h.s l288 t288) (h.l l288) rfl rfl (Nat.le_of_ble_eq_true rfl) rfl (fun o H1 hh => ⟨_, hh.1⟩) (fun vv G33 hv => ?_)
        obtain ⟨o33, z33⟩ := hv
        cases o33
        obtain ⟨z33, w33⟩ := z33
        refine ⟨Or.inl (z33.nx.trans h.nx.symm), ?_⟩
        have h : jm N B 320 G33 := z33
        clear z33
        have hd : am_gi G33 315 = am_gi H 315 := w33.hd.trans hd
        have q33 := w33.dl
        refine ae_goto (q := 362) dX7_step_325 (by decide) ?_
        have m34 : am_gi G33 288 38 = (-1) := (congrFun w33.1 38).trans (show am_gi G4 288 38 = (-1) by rw [g4]; exact gi_set)
        exact ae_lv (lv' := [(2, .int x7), (0, .ref 288), (1, .int a1)]) ⟨rfl, rfl, rfl, trivial⟩ (lab362 _ (h.up (by omega)) hd m34 (by omega))
      · have j20 : x13 = 7 := Int32.toInt_inj.mp (by rw [c20]; decide)
        refine ae_tableIn (off := 102) (q := 222) dX7_step_120 (by rw [j20]; decide) (by rw [j20]; decide) (by rw [j20]; decide) (by decide) ?_
        have fa := (h.ins hR x12.toNatClampNeg).2.2.1 (by rw [e13]; omega)
        rw [e14] at fa
        obtain ⟨fa1, fa2⟩ := fa
        subst j20
        refine ae_aload_n (q := 223) dX7_step_222 rfl rfl rfl ?_
        refine ae_iload_n (q := 224) dX7_step_223 rfl rfl rfl ?_
        refine ae_iload_n (q := 225) dX7_step_224 rfl rfl rfl ?_
        refine ae_iload (q := 227) dX7_step_225 rfl rfl ?_
        refine ae_callV (ci := 7) (as := [.int a1, .int 7, .int x14]) (b := 288) (st := []) (q := 230) dX7_step_227 (c_X7_onFuture_7 (N := N) (d := d) (by omega) h (by omega) (by omega) (by omega) (by omega)) myX7_onFuture lk_X7_191 im_X7_onFuture se_X7_onFuture rfl (by decide) (h.s l288 t288) (h.l l288) rfl rfl (Nat.le_of_ble_eq_true rfl) rfl (fun o H1 hh => ⟨_, hh.1⟩) (fun vv G35 hv => ?_)
        obtain ⟨o35, z35⟩ := hv
        cases o35
        obtain ⟨z35, w35⟩ := z35
        refine ⟨Or.inl (z35.nx.trans h.nx.symm), ?_⟩
        have h : jm (N + 1) B 320 G35 := z35
        clear z35
        obtain ⟨wa35, wb35, q35⟩ := w35
        have hd : am_gi G35 315 = am_gi H 315 := wa35.trans hd
        refine ae_vret dX7_step_230 rfl ?_
        exact ⟨rfl, ⟨(h.up (by omega)), hd, Or.inl ⟨by rw [(wb35.trans (show am_gi G4 288 38 = (-1) by rw [g4]; exact gi_set))]; decide, q35.elim (fun q => Or.inl (by omega)) (fun q => Or.inr ⟨by omega, q.2⟩)⟩⟩⟩
      · have j20 : x13 = 8 := Int32.toInt_inj.mp (by rw [c20]; decide)
        refine ae_tableIn (off := 102) (q := 222) dX7_step_120 (by rw [j20]; decide) (by rw [j20]; decide) (by rw [j20]; decide) (by decide) ?_
        have fa := (h.ins hR x12.toNatClampNeg).2.2.1 (by rw [e13]; omega)
        rw [e14] at fa
        obtain ⟨fa1, fa2⟩ := fa
        subst j20
        refine ae_aload_n (q := 223) dX7_step_222 rfl rfl rfl ?_
        refine ae_iload_n (q := 224) dX7_step_223 rfl rfl rfl ?_
        refine ae_iload_n (q := 225) dX7_step_224 rfl rfl rfl ?_
        refine ae_iload (q := 227) dX7_step_225 rfl rfl ?_
        refine ae_callV (ci := 7) (as := [.int a1, .int 8, .int x14]) (b := 288) (st := []) (q := 230) dX7_step_227 (c_X7_onFuture_8 (N := N) (d := d) (by omega) h (by omega) (by omega) (by omega) (by omega)) myX7_onFuture lk_X7_191 im_X7_onFuture se_X7_onFuture rfl (by decide) (h.s l288 t288) (h.l l288) rfl rfl (Nat.le_of_ble_eq_true rfl) rfl (fun o H1 hh => ⟨_, hh.1⟩) (fun vv G36 hv => ?_)
        obtain ⟨o36, z36⟩ := hv
        cases o36
        obtain ⟨z36, w36⟩ := z36
        refine ⟨Or.inl (z36.nx.trans h.nx.symm), ?_⟩
        have h : jm (N + 1) B 320 G36 := z36
        clear z36
        obtain ⟨wa36, wb36, q36⟩ := w36
        have hd : am_gi G36 315 = am_gi H 315 := wa36.trans hd
        refine ae_vret dX7_step_230 rfl ?_
        exact ⟨rfl, ⟨(h.up (by omega)), hd, Or.inl ⟨by rw [(wb36.trans (show am_gi G4 288 38 = (-1) by rw [g4]; exact gi_set))]; decide, q36.elim (fun q => Or.inl (by omega)) (fun q => Or.inr ⟨by omega, q.2⟩)⟩⟩⟩
      · have j20 : x13 = 9 := Int32.toInt_inj.mp (by rw [c20]; decide)
        refine ae_tableIn (off := 84) (q := 204) dX7_step_120 (by rw [j20]; decide) (by rw [j20]; decide) (by rw [j20]; decide) (by decide) ?_
        have fa := (h.ins hR x12.toNatClampNeg).2.2.2.1 (by rw [e13]; omega)
        rw [e14] at fa
        obtain ⟨fa1, fa2⟩ := fa
        subst j20
        refine ae_aload_n (q := 205) dX7_step_204 rfl rfl rfl ?_
        refine ae_iload_n (q := 206) dX7_step_205 rfl rfl rfl ?_
        refine ae_iload_n (q := 207) dX7_step_206 rfl rfl rfl ?_
        refine ae_iload (q := 209) dX7_step_207 rfl rfl ?_
        refine ae_callV (ci := 7) (as := [.int a1, .int 9, .int x14]) (b := 288) (st := []) (q := 212) dX7_step_209 (c_X7_spawn_9 (N := N) (d := d) (by omega) h (by omega) (by omega) (by omega) (by omega)) myX7_spawn lk_X7_185 im_X7_spawn se_X7_spawn rfl (by decide) (h.s l288 t288) (h.l l288) rfl rfl (Nat.le_of_ble_eq_true rfl) rfl (fun o H1 hh => ⟨_, hh.1⟩) (fun vv G37 hv => ?_)
        obtain ⟨o37, z37⟩ := hv
        cases o37
        obtain ⟨z37, w37⟩ := z37
        refine ⟨Or.inl (z37.nx.trans h.nx.symm), ?_⟩
        have h : jm (N + 1) B 320 G37 := z37
        clear z37
        obtain ⟨wa37, q37⟩ := w37
        have hd : am_gi G37 315 = am_gi H 315 := wa37.trans hd
        refine ae_vret dX7_step_212 rfl ?_
        exact ⟨rfl, ⟨(h.up (by omega)), hd, (q37.elim (fun q => Or.inl ⟨by rw [q.1, (show am_gi G4 288 38 = (-1) by rw [g4]; exact gi_set)]; decide, q.2.elim (fun z => Or.inl (by omega)) (fun z => Or.inr ⟨by omega, z.2⟩)⟩) (fun q => Or.inr (by omega)))⟩⟩
      · have j20 : x13 = 10 := Int32.toInt_inj.mp (by rw [c20]; decide)
        refine ae_tableIn (off := 111) (q := 231) dX7_step_120 (by rw [j20]; decide) (by rw [j20]; decide) (by rw [j20]; decide) (by decide) ?_
        have fa := (h.ins hR x12.toNatClampNeg).1 (by rw [e13]; omega)
        rw [e14] at fa
        obtain ⟨fa1, fa2⟩ := fa
        subst j20
        refine ae_aload_n (q := 232) dX7_step_231 rfl rfl rfl ?_
        refine ae_iload_n (q := 233) dX7_step_232 rfl rfl rfl ?_
        refine ae_iload_n (q := 234) dX7_step_233 rfl rfl rfl ?_
        refine ae_iload (q := 236) dX7_step_234 rfl rfl ?_
        refine ae_callV (ci := 7) (as := [.int a1, .int 10, .int x14]) (b := 288) (st := []) (q := 239) dX7_step_236 (c_X7_join_10 (N := N) (d := d) (by omega) h (by omega) (by omega) (by omega) (by omega)) myX7_join lk_X7_194 im_X7_join se_X7_join rfl (by decide) (h.s l288 t288) (h.l l288) rfl rfl (Nat.le_of_ble_eq_true rfl) rfl (fun o H1 hh => ⟨_, hh.1⟩) (fun vv G38 hv => ?_)
        obtain ⟨o38, z38⟩ := hv
        cases o38
        obtain ⟨z38, w38⟩ := z38
        refine ⟨Or.inl (z38.nx.trans h.nx.symm), ?_⟩
        have h : jm (N + 1) B 320 G38 := z38
        clear z38
        obtain ⟨wa38, wb38, q38⟩ := w38
        have hd : am_gi G38 315 = am_gi H 315 := wa38.trans hd
        refine ae_vret dX7_step_239 rfl ?_
        exact ⟨rfl, ⟨(h.up (by omega)), hd, Or.inl ⟨by rw [(wb38.trans (show am_gi G4 288 38 = (-1) by rw [g4]; exact gi_set))]; decide, q38.elim (fun q => Or.inl (by omega)) (fun q => Or.inr ⟨by omega, q.2⟩)⟩⟩⟩
      · have j20 : x13 = 11 := Int32.toInt_inj.mp (by rw [c20]; decide)
        refine ae_tableIn (off := 111) (q := 231) dX7_step_120 (by rw [j20]; decide) (by rw [j20]; decide) (by rw [j20]; decide) (by decide) ?_
        have fa := (h.ins hR x12.toNatClampNeg).2.2.2.2.1 (by rw [e13]; omega)
        rw [e14] at fa
        obtain ⟨fa1, fa2⟩ := fa
        subst j20
        refine ae_aload_n (q := 232) dX7_step_231 rfl rfl rfl ?_
        refine ae_iload_n (q := 233) dX7_step_232 rfl rfl rfl ?_
        refine ae_iload_n (q := 234) dX7_step_233 rfl rfl rfl ?_
        refine ae_iload (q := 236) dX7_step_234 rfl rfl ?_
        refine ae_callV (ci := 7) (as := [.int a1, .int 11, .int x14]) (b := 288) (st := []) (q := 239) dX7_step_236 (c_X7_join_11 (N := N) (d := d) (by omega) h (by omega) (by omega) (by omega) (by omega)) myX7_join lk_X7_194 im_X7_join se_X7_join rfl (by decide) (h.s l288 t288) (h.l l288) rfl rfl (Nat.le_of_ble_eq_true rfl) rfl (fun o H1 hh => ⟨_, hh.1⟩) (fun vv G39 hv => ?_)
        obtain ⟨o39, z39⟩ := hv
        cases o39
        obtain ⟨z39, w39⟩ := z39
        refine ⟨Or.inl (z39.nx.trans h.nx.symm), ?_⟩
        have h : jm (N + 1) B 320 G39 := z39
        clear z39
        obtain ⟨wa39, wb39, q39⟩ := w39
        have hd : am_gi G39 315 = am_gi H 315 := wa39.trans hd
        refine ae_vret dX7_step_239 rfl ?_
        exact ⟨rfl, ⟨(h.up (by omega)), hd, Or.inl ⟨by rw [(wb39.trans (show am_gi G4 288 38 = (-1) by rw [g4]; exact gi_set))]; decide, q39.elim (fun q => Or.inl (by omega)) (fun q => Or.inr ⟨by omega, q.2⟩)⟩⟩⟩
      · have j20 : x13 = 12 := Int32.toInt_inj.mp (by rw [c20]; decide)
        refine ae_tableIn (off := 120) (q := 240) dX7_step_120 (by rw [j20]; decide) (by rw [j20]; decide) (by rw [j20]; decide) (by decide) ?_
        subst j20
        refine ae_aload_n (q := 241) dX7_step_240 rfl rfl rfl ?_
        refine ae_iload_n (q := 242) dX7_step_241 rfl rfl rfl ?_
        refine ae_callV (ci := 7) (as := [.int a1]) (b := 288) (st := []) (q := 245) dX7_step_242 (c_X7_next (N := N) (d := d + 2) (by omega) h (by omega) (by omega)) myX7_next lk_X7_197 im_X7_next se_X7_next rfl (by decide) (h.s l288 t288) (h.l l288) rfl rfl (Nat.le_of_ble_eq_true rfl) rfl (fun o H1 hh => ⟨_, hh.1⟩) (fun vv G40 hv => ?_)
        obtain ⟨o40, z40⟩ := hv
        cases o40
        obtain ⟨z40, w40⟩ := z40
        refine ⟨Or.inl (z40.nx.trans h.nx.symm), ?_⟩
        have h : jm (N + 1) B 320 G40 := z40
        clear z40
        obtain ⟨wa40, wb40, q40⟩ := w40
        have hd : am_gi G40 315 = am_gi H 315 := wa40.trans hd
        refine ae_vret dX7_step_245 rfl ?_
        exact ⟨rfl, ⟨(h.up (by omega)), hd, Or.inl ⟨by rw [(wb40.trans (show am_gi G4 288 38 = (-1) by rw [g4]; exact gi_set))]; decide, q40.elim (fun q => Or.inl (by omega)) (fun q => Or.inr ⟨by omega, q.2⟩)⟩⟩⟩
      · have j20 : x13 = 13 := Int32.toInt_inj.mp (by rw [c20]; decide)
        refine ae_tableIn (off := 126) (q := 246) dX7_step_120 (by rw [j20]; decide) (by rw [j20]; decide) (by rw [j20]; decide) (by decide) ?_
        subst j20
        refine ae_aload_n (q := 247) dX7_step_246 rfl rfl rfl ?_
        refine ae_iload_n (q := 248) dX7_step_247 rfl rfl rfl ?_
        refine ae_iload (q := 250) dX7_step_248 rfl rfl ?_
        refine ae_callV (ci := 7) (as := [.int a1, .int x14]) (b := 288) (st := []) (q := 253) dX7_step_250 (c_X7_raise (N := N) (d := d + 1) h (by omega) (by omega)) myX7_raise lk_X7_176 im_X7_raise se_X7_raise rfl (by decide) (h.s l288 t288) (h.l l288) rfl rfl (Nat.le_of_ble_eq_true rfl) rfl (fun o H1 hh => ⟨_, hh.1⟩) (fun vv G41 hv => ?_)
        obtain ⟨o41, z41⟩ := hv
        cases o41
        obtain ⟨z41, w41⟩ := z41
        refine ⟨Or.inl (z41.nx.trans h.nx.symm), ?_⟩
        have h : jm N B 320 G41 := z41
        clear z41
        obtain ⟨wa41, wb41, q41⟩ := w41
        have hd : am_gi G41 315 = am_gi H 315 := wa41.trans hd
        refine ae_vret dX7_step_253 rfl ?_
        exact ⟨rfl, ⟨(h.up (by omega)), hd, Or.inl ⟨by rw [(wb41.trans (show am_gi G4 288 38 = (-1) by rw [g4]; exact gi_set))]; decide, q41.elim (fun q => Or.inl (by omega)) (fun q => Or.inr ⟨by omega, q.2⟩)⟩⟩⟩
      · have j20 : x13 = 14 := Int32.toInt_inj.mp (by rw [c20]; decide)
        refine ae_tableIn (off := 208) (q := 328) dX7_step_120 (by rw [j20]; decide) (by rw [j20]; decide) (by rw [j20]; decide) (by decide) ?_
        subst j20
        refine ae_aload_n (q := 329) dX7_step_328 rfl rfl rfl ?_
        refine ae_getI (q := 332) dX7_step_329 fl_X7_135 rfl (h.s l288 t288) (h.l l288) rfl ?_
        obtain ⟨x42, e42, u42, v42⟩ := rdi (h.i l288 t288 (k := 36) (p := (0, ((N : Nat) : Int))) rfl)
        refine ae_eqi e42 ?_
        refine ae_bipush (v := 40) (q := 334) dX7_step_332 (by decide) rfl ?_
        refine ae_icmp_ge (t := 352) (q := 337) dX7_step_334 (by decide) rfl (fun c43 => ?_) (fun c43 => ?_)
        · have c43 := i_le (a := 40) (b := x42.toInt) (by decide) rfl c43
          refine ae_aload_n (q := 353) dX7_step_352 rfl rfl rfl ?_
          refine ae_dup (q := 354) dX7_step_353 rfl rfl ?_
          refine ae_getI (q := 357) dX7_step_354 fl_X7_135 rfl (h.s l288 t288) (h.l l288) rfl ?_
          refine ae_eqi e42 ?_
          refine ae_iconst (v := 1) (q := 358) dX7_step_357 (by decide) rfl ?_
          refine ae_iadd (q := 359) dX7_step_358 rfl ?_
          obtain ⟨x44, e44⟩ : ∃ z, x42 + 1 = z := ⟨_, rfl⟩
          refine ae_eqi e44 ?_
          have f44 : x44.toInt = x42.toInt + 1 := by rw [← e44]; exact i_add rfl (by decide) (by omega) (by omega)
          have h : jm (N + 1) B 320 G4 := h.up (by omega)
          refine ae_putI (q := 362) dX7_step_359 fl_X7_135 rfl rfl rfl (h.s l288 t288) (h.l l288) rfl ?_
          refine ae_gen (fun G45 g45 => ?_)
          have h : jm (N + 1) B 320 G45 := by rw [g45]; exact h.w t288 (by decide) (by decide) (by decide) (mk_inr (lo := 0) (hi := (((N + 1) : Nat) : Int)) (by omega) (by omega))
          have hd : am_gi G45 315 = am_gi H 315 := by rw [g45]; exact (gi_rowne (by decide)).trans hd
          have q45 : dl G45 = dl G4 := by rw [g45]; exact dl_ne (by decide) (by decide) (by decide) (fun q => absurd q.2 (by decide))
          have m46 : am_gi G45 288 38 = (-1) := by rw [g45]; exact gi_si (show am_gi G4 288 38 = (-1) by rw [g4]; exact gi_set) (fun q => absurd q.2 (by decide))
          exact ae_lv (lv' := [(2, .int x7), (0, .ref 288), (1, .int a1)]) ⟨rfl, rfl, rfl, trivial⟩ (lab362 _ h hd m46 (by omega))
        · have c43 := i_nle (a := 40) (b := x42.toInt) (by decide) rfl c43
          refine ae_aload_n (q := 338) dX7_step_337 rfl rfl rfl ?_
          refine ae_getR (q := 341) dX7_step_338 fl_X7_98 rfl (h.s l288 t288) (h.l l288) (h.mr (k := 29) (b := 318) (by decide) rfl) rfl ?_
          refine ae_aload_n (q := 342) dX7_step_341 rfl rfl rfl ?_
          refine ae_getI (q := 345) dX7_step_342 fl_X7_135 rfl (h.s l288 t288) (h.l l288) rfl ?_
          refine ae_eqi e42 ?_
          refine ae_aload_n (q := 346) dX7_step_345 rfl rfl rfl ?_
          refine ae_getR (q := 349) dX7_step_346 fl_X7_22 rfl (h.s l288 t288) (h.l l288) (h.mr (k := 4) (b := 293) (by decide) rfl) rfl ?_
          refine ae_iload_n (q := 350) dX7_step_349 rfl rfl rfl ?_
          refine ae_iald (q := 351) dX7_step_350 (h.s l293 t293) (h.l l293) (vin (by omega) (by omega)) rfl ?_
          obtain ⟨x47, e47⟩ : ∃ x, am_gi G4 293 a1.toNatClampNeg = x := ⟨_, rfl⟩
          refine ae_eqi e47 ?_
          refine ae_iast (q := 352) dX7_step_351 (h.s l318 t318) (h.l l318) (vin (by omega) (by omega)) rfl ?_
          refine ae_gen (fun G48 g48 => ?_)
          have h : jm N B 320 G48 := by rw [g48]; exact h.w t318 (by decide) (by decide) (by decide) inr_any
          have hd : am_gi G48 315 = am_gi H 315 := by rw [g48]; exact (gi_rowne (by decide)).trans hd
          have q48 : dl G48 = dl G4 := by rw [g48]; exact dl_ne (by decide) (by decide) (by decide) (fun q => absurd q.1 (by decide))
          refine ae_aload_n (q := 353) dX7_step_352 rfl rfl rfl ?_
          refine ae_dup (q := 354) dX7_step_353 rfl rfl ?_
          refine ae_getI (q := 357) dX7_step_354 fl_X7_135 rfl (h.s l288 t288) (h.l l288) rfl ?_
          have m49 : am_gi G48 288 36 = x42 := by rw [g48]; exact gi_si e42 (fun q => absurd q.1 (by decide))
          refine ae_eqi m49 ?_
          refine ae_iconst (v := 1) (q := 358) dX7_step_357 (by decide) rfl ?_
          refine ae_iadd (q := 359) dX7_step_358 rfl ?_
          obtain ⟨x50, e50⟩ : ∃ z, x42 + 1 = z := ⟨_, rfl⟩
          refine ae_eqi e50 ?_
          have f50 : x50.toInt = x42.toInt + 1 := by rw [← e50]; exact i_add rfl (by decide) (by omega) (by omega)
          have h : jm (N + 1) B 320 G48 := h.up (by omega)
          refine ae_putI (q := 362) dX7_step_359 fl_X7_135 rfl rfl rfl (h.s l288 t288) (h.l l288) rfl ?_
          refine ae_gen (fun G51 g51 => ?_)
          have h : jm (N + 1) B 320 G51 := by rw [g51]; exact h.w t288 (by decide) (by decide) (by decide) (mk_inr (lo := 0) (hi := (((N + 1) : Nat) : Int)) (by omega) (by omega))
          have hd : am_gi G51 315 = am_gi H 315 := by rw [g51]; exact (gi_rowne (by decide)).trans hd
          have q51 : dl G51 = dl G48 := by rw [g51]; exact dl_ne (by decide) (by decide) (by decide) (fun q => absurd q.2 (by decide))
          have m52 : am_gi G48 288 38 = (-1) := by rw [g48]; exact gi_si (show am_gi G4 288 38 = (-1) by rw [g4]; exact gi_set) (fun q => absurd q.1 (by decide))
          have m53 : am_gi G51 288 38 = (-1) := by rw [g51]; exact gi_si m52 (fun q => absurd q.2 (by decide))
          exact ae_lv (lv' := [(2, .int x7), (0, .ref 288), (1, .int a1)]) ⟨rfl, rfl, rfl, trivial⟩ (lab362 _ h hd m53 (by omega))
      · have j20 : x13 = 15 := Int32.toInt_inj.mp (by rw [c20]; decide)
        refine ae_tableIn (off := 134) (q := 254) dX7_step_120 (by rw [j20]; decide) (by rw [j20]; decide) (by rw [j20]; decide) (by decide) ?_
        have fa := (h.ins hR x12.toNatClampNeg).2.2.2.2.2 (by rw [e13]; omega)
        rw [e14] at fa
        obtain ⟨fa1, fa2⟩ := fa
        subst j20
        refine ae_aload_n (q := 255) dX7_step_254 rfl rfl rfl ?_
        refine ae_getR (q := 258) dX7_step_255 fl_X7_25 rfl (h.s l288 t288) (h.l l288) (h.mr (k := 5) (b := 294) (by decide) rfl) rfl ?_
        refine ae_iload_n (q := 259) dX7_step_258 rfl rfl rfl ?_
        refine ae_aload_n (q := 260) dX7_step_259 rfl rfl rfl ?_
        refine ae_getR (q := 263) dX7_step_260 fl_X7_22 rfl (h.s l288 t288) (h.l l288) (h.mr (k := 4) (b := 293) (by decide) rfl) rfl ?_
        refine ae_iload_n (q := 264) dX7_step_263 rfl rfl rfl ?_
        refine ae_iald (q := 265) dX7_step_264 (h.s l293 t293) (h.l l293) (vin (by omega) (by omega)) rfl ?_
        obtain ⟨x54, e54⟩ : ∃ x, am_gi G4 293 a1.toNatClampNeg = x := ⟨_, rfl⟩
        refine ae_eqi e54 ?_
        refine ae_if_eq (t := 273) (q := 268) dX7_step_265 (by decide) rfl (fun c55 => ?_) (fun c55 => ?_)
        · have c55 := i_eq (a := x54.toInt) (b := 0) rfl (by decide) c55
          refine ae_aload_n (q := 274) dX7_step_273 rfl rfl rfl ?_
          refine ae_getR (q := 277) dX7_step_274 fl_X7_25 rfl (h.s l288 t288) (h.l l288) (h.mr (k := 5) (b := 294) (by decide) rfl) rfl ?_
          refine ae_iload_n (q := 278) dX7_step_277 rfl rfl rfl ?_
          refine ae_iald (q := 279) dX7_step_278 (h.s l294 t294) (h.l l294) (vin (by omega) (by omega)) rfl ?_
          refine ae_eqi e8 ?_
          refine ae_iconst (v := 1) (q := 280) dX7_step_279 (by decide) rfl ?_
          refine ae_iadd (q := 281) dX7_step_280 rfl ?_
          obtain ⟨x56, e56⟩ : ∃ z, x8 + 1 = z := ⟨_, rfl⟩
          refine ae_eqi e56 ?_
          have f56 : x56.toInt = x8.toInt + 1 := by rw [← e56]; exact i_add rfl (by decide) (by omega) (by omega)
          have h : jm (N + 1) B 320 G4 := h.up (by omega)
          refine ae_iast (q := 282) dX7_step_281 (h.s l294 t294) (h.l l294) (vin (by omega) (by omega)) rfl ?_
          refine ae_gen (fun G57 g57 => ?_)
          have h : jm (N + 1) B 320 G57 := by rw [g57]; exact h.w t294 (by decide) (by decide) (by decide) (mk_inr (lo := 0) (hi := 16 + (((N + 1) : Nat) : Int)) (by omega) (by omega))
          have hd : am_gi G57 315 = am_gi H 315 := by rw [g57]; exact (gi_rowne (by decide)).trans hd
          have q57 : dl G57 = dl G4 := by rw [g57]; exact dl_ne (by decide) (by decide) (by decide) (fun q => absurd q.1 (by decide))
          refine ae_vret dX7_step_282 rfl ?_
          have m58 : am_gi G57 288 38 = (-1) := by rw [g57]; exact gi_si (show am_gi G4 288 38 = (-1) by rw [g4]; exact gi_set) (fun q => absurd q.1 (by decide))
          exact ⟨rfl, ⟨(h.up (by omega)), hd, Or.inl ⟨by rw [m58]; decide, Or.inl (by omega)⟩⟩⟩
        · have c55 := i_ne (a := x54.toInt) (b := 0) rfl (by decide) c55
          refine ae_iload (q := 270) dX7_step_268 rfl rfl ?_
          refine ae_goto (q := 281) dX7_step_270 (by decide) ?_
          have h : jm (N + 1) B 320 G4 := h.up (by omega)
          refine ae_iast (q := 282) dX7_step_281 (h.s l294 t294) (h.l l294) (vin (by omega) (by omega)) rfl ?_
          refine ae_gen (fun G59 g59 => ?_)
          have h : jm (N + 1) B 320 G59 := by rw [g59]; exact h.w t294 (by decide) (by decide) (by decide) (mk_inr (lo := 0) (hi := 16 + (((N + 1) : Nat) : Int)) (by omega) (by omega))
          have hd : am_gi G59 315 = am_gi H 315 := by rw [g59]; exact (gi_rowne (by decide)).trans hd
          have q59 : dl G59 = dl G4 := by rw [g59]; exact dl_ne (by decide) (by decide) (by decide) (fun q => absurd q.1 (by decide))
          refine ae_vret dX7_step_282 rfl ?_
          have m60 : am_gi G59 288 38 = (-1) := by rw [g59]; exact gi_si (show am_gi G4 288 38 = (-1) by rw [g4]; exact gi_set) (fun q => absurd q.1 (by decide))
          exact ⟨rfl, ⟨(h.up (by omega)), hd, Or.inl ⟨by rw [m60]; decide, Or.inl (by omega)⟩⟩⟩
      · have j20 : x13 = 16 := Int32.toInt_inj.mp (by rw [c20]; decide)
        refine ae_tableIn (off := 163) (q := 283) dX7_step_120 (by rw [j20]; decide) (by rw [j20]; decide) (by rw [j20]; decide) (by decide) ?_
        have fa := (h.ins hR x12.toNatClampNeg).2.2.2.2.2 (by rw [e13]; omega)
        rw [e14] at fa
        obtain ⟨fa1, fa2⟩ := fa
        subst j20
        refine ae_aload_n (q := 284) dX7_step_283 rfl rfl rfl ?_
        refine ae_getR (q := 287) dX7_step_284 fl_X7_25 rfl (h.s l288 t288) (h.l l288) (h.mr (k := 5) (b := 294) (by decide) rfl) rfl ?_
        refine ae_iload_n (q := 288) dX7_step_287 rfl rfl rfl ?_
        refine ae_iload (q := 290) dX7_step_288 rfl rfl ?_
        refine ae_iast (q := 291) dX7_step_290 (h.s l294 t294) (h.l l294) (vin (by omega) (by omega)) rfl ?_
        refine ae_gen (fun G61 g61 => ?_)
        have h : jm N B 320 G61 := by rw [g61]; exact h.w t294 (by decide) (by decide) (by decide) (mk_inr (lo := 0) (hi := 16 + ((N : Nat) : Int)) (by omega) (by omega))
        have hd : am_gi G61 315 = am_gi H 315 := by rw [g61]; exact (gi_rowne (by decide)).trans hd
        have q61 : dl G61 = dl G4 := by rw [g61]; exact dl_ne (by decide) (by decide) (by decide) (fun q => absurd q.1 (by decide))
        refine ae_vret dX7_step_291 rfl ?_
        have m62 : am_gi G61 288 38 = (-1) := by rw [g61]; exact gi_si (show am_gi G4 288 38 = (-1) by rw [g4]; exact gi_set) (fun q => absurd q.1 (by decide))
        exact ⟨rfl, ⟨(h.up (by omega)), hd, Or.inl ⟨by rw [m62]; decide, Or.inl (by omega)⟩⟩⟩
    · have c10 := i_nlt (a := x8.toInt) (b := x9.toInt) rfl rfl c10
      refine ae_aload_n (q := 53) dX7_step_52 rfl rfl rfl ?_
      refine ae_getR (q := 56) dX7_step_53 fl_X7_34 rfl (h.s l288 t288) (h.l l288) (h.mr (k := 8) (b := 297) (by decide) rfl) rfl ?_
      refine ae_iload_n (q := 57) dX7_step_56 rfl rfl rfl ?_
      refine ae_iald (q := 58) dX7_step_57 (h.s l297 t297) (h.l l297) (vin (by omega) (by omega)) rfl ?_
      obtain ⟨x63, e63, u63, v63⟩ := rdi (h.i l297 t297 (k := a1.toNatClampNeg) (p := (0, 3)) rfl)
      refine ae_eqi e63 ?_
      refine ae_if_ne (t := 69) (q := 61) dX7_step_58 (by decide) rfl (fun c64 => ?_) (fun c64 => ?_)
      · have c64 := i_ne (a := x63.toInt) (b := 0) rfl (by decide) c64
        refine ae_aload_n (q := 70) dX7_step_69 rfl rfl rfl ?_
        refine ae_getR (q := 73) dX7_step_70 fl_X7_46 rfl (h.s l288 t288) (h.l l288) (h.mr (k := 12) (b := 301) (by decide) rfl) rfl ?_
        refine ae_iload_n (q := 74) dX7_step_73 rfl rfl rfl ?_
        refine ae_iconst (v := 1) (q := 75) dX7_step_74 (by decide) rfl ?_
        refine ae_zast (q := 76) dX7_step_75 (h.s l301 t301) (h.l l301) (vin (by omega) (by omega)) rfl rfl ?_
        refine ae_gen (fun G65 g65 => ?_)
        have h : jm N B 320 G65 := by rw [g65]; exact h.wend1 (by rw [e63]; omega) (mk_inr (by decide) (by decide))
        have hd : am_gi G65 315 = am_gi H 315 := by rw [g65]; exact (gi_rowne (by decide)).trans hd
        have q65 : dl G65 = dl G4 := by rw [g65]; exact dl_ne (by decide) (by decide) (by decide) (fun q => absurd q.1 (by decide))
        refine ae_aload_n (q := 77) dX7_step_76 rfl rfl rfl ?_
        refine ae_getR (q := 80) dX7_step_77 fl_X7_50 rfl (h.s l288 t288) (h.l l288) (h.mr (k := 13) (b := 302) (by decide) rfl) rfl ?_
        refine ae_iload_n (q := 81) dX7_step_80 rfl rfl rfl ?_
        refine ae_iconst (v := 0) (q := 82) dX7_step_81 (by decide) rfl ?_
        refine ae_zast (q := 83) dX7_step_82 (h.s l302 t302) (h.l l302) (vin (by omega) (by omega)) rfl rfl ?_
        refine ae_gen (fun G66 g66 => ?_)
        have h : jm N B 320 G66 := by rw [g66]; exact h.w t302 (by decide) (by decide) (by decide) (mk_inr (lo := 0) (hi := 1) (by decide) (by decide))
        have hd : am_gi G66 315 = am_gi H 315 := by rw [g66]; exact (gi_rowne (by decide)).trans hd
        have q66 : dl G66 = dl G65 := by rw [g66]; exact dl_ne (by decide) (by decide) (by decide) (fun q => absurd q.1 (by decide))
        refine ae_vret dX7_step_83 rfl ?_
        have m67 : am_gi G65 288 38 = (-1) := by rw [g65]; exact gi_si (show am_gi G4 288 38 = (-1) by rw [g4]; exact gi_set) (fun q => absurd q.1 (by decide))
        have m68 : am_gi G66 288 38 = (-1) := by rw [g66]; exact gi_si m67 (fun q => absurd q.1 (by decide))
        exact ⟨rfl, ⟨(h.up (by omega)), hd, Or.inl ⟨by rw [m68]; decide, Or.inl (by omega)⟩⟩⟩
      · have c64 := i_eq (a := x63.toInt) (b := 0) rfl (by decide) c64
        refine ae_aload_n (q := 62) dX7_step_61 rfl rfl rfl ?_
        refine ae_iload_n (q := 63) dX7_step_62 rfl rfl rfl ?_
        refine ae_callV (ci := 7) (as := [.int a1]) (b := 288) (st := []) (q := 66) dX7_step_63 (c_X7_finish (N := N) (d := d + 2) h (by omega) (by omega)) myX7_finish lk_X7_172 im_X7_finish se_X7_finish rfl (by decide) (h.s l288 t288) (h.l l288) rfl rfl (Nat.le_of_ble_eq_true rfl) rfl (fun o H1 hh => ⟨_, hh.1⟩) (fun vv G69 hv => ?_)
        obtain ⟨o69, z69⟩ := hv
        cases o69
        obtain ⟨z69, w69⟩ := z69
        refine ⟨Or.inl (z69.nx.trans h.nx.symm), ?_⟩
        have h : jm N B 320 G69 := z69
        clear z69
        obtain ⟨wa69, wb69, q69, ws69⟩ := w69
        have hd : am_gi G69 315 = am_gi H 315 := wa69.trans hd
        refine ae_goto (q := 83) dX7_step_66 (by decide) ?_
        refine ae_vret dX7_step_83 rfl ?_
        exact ⟨rfl, ⟨(h.up (by omega)), hd, Or.inl ⟨by rw [(wb69.trans (show am_gi G4 288 38 = (-1) by rw [g4]; exact gi_set))]; decide, Or.inr ⟨by omega, by rw [ws69]; decide⟩⟩⟩⟩
  · have c6 := i_ne (a := x5.toInt) (b := 0) rfl (by decide) c6
    refine ae_aload_n (q := 25) dX7_step_24 rfl rfl rfl ?_
    refine ae_iload_n (q := 26) dX7_step_25 rfl rfl rfl ?_
    refine ae_callV (ci := 7) (as := [.int a1]) (b := 288) (st := []) (q := 29) dX7_step_26 (c_X7_end (N := N) (d := d) (by omega) h (by omega) (by omega) (xe := x5) e5 (by omega) (by omega)) myX7_end lk_X7_182 im_X7_end se_X7_end rfl (by decide) (h.s l288 t288) (h.l l288) rfl rfl (Nat.le_of_ble_eq_true rfl) rfl (fun o H1 hh => ⟨_, hh.1⟩) (fun vv G70 hv => ?_)
    obtain ⟨o70, z70⟩ := hv
    cases o70
    obtain ⟨z70, w70⟩ := z70
    refine ⟨Or.inl (z70.nx.trans h.nx.symm), ?_⟩
    have h : jm (N + 1) B 320 G70 := z70
    clear z70
    obtain ⟨wa70, wb70, q70⟩ := w70
    have hd : am_gi G70 315 = am_gi H 315 := wa70.trans hd
    refine ae_vret dX7_step_29 rfl ?_
    exact ⟨rfl, ⟨(h.up (by omega)), hd, Or.inl ⟨by rw [(wb70.trans (show am_gi G4 288 38 = (-1) by rw [g4]; exact gi_set))]; decide, q70.elim (fun q => Or.inl (by omega)) (fun q => Or.inr ⟨by omega, q.2⟩)⟩⟩⟩
set_option maxRecDepth 100000 in
set_option maxHeartbeats 4000000 in
theorem c_X7_push {ox : List (Nat × (Nat → Int32))} {d N : Nat} {B H : am_H} {a1 : Int32} {a2 : Int32}  (h : jm N B 320 H) (u_1 : 0 ≤ a1.toInt) (v_1 : a1.toInt ≤ 2) (u_2 : 0 ≤ a2.toInt) (v_2 : a2.toInt ≤ 47) {xq : Int32} (e_xq : am_gi H 316 a1.toNatClampNeg = xq) (u_xq : 0 ≤ xq.toInt) (v_xq : xq.toInt ≤ 47) : am_DB 0 ox d yX7_push mX7_push [.ref 288, .int a1, .int a2] H (fun o H1 => o = .inl none ∧ jm N B 320 H1 ∧ am_gi H1 315 = am_gi H 315 ∧ am_gi H1 288 = am_gi H 288 ∧ dl H - 1 ≤ dl H1 ∧ (a2.toNatClampNeg < (am_gi H 288 30).toNatClampNeg → 2 ≤ (am_gi H 292 a2.toNatClampNeg).toInt → dl H ≤ dl H1)) := by
  refine ae_enter rfl rfl rfl rfl (Nat.le_of_ble_eq_true rfl) ?_
  show am_EB 0 ox d mX7_push 0 [(0, .ref 288), (1, .int a1), (2, .int a2)] [] H _
  have hd : am_gi H 315 = am_gi H 315 := rfl
  have hr : am_gi H 288 = am_gi H 288 := rfl
  refine ae_aload_n (q := 1) dX7_push_0 rfl rfl rfl ?_
  refine ae_getR (q := 4) dX7_push_1 fl_X7_19 rfl (h.s l288 t288) (h.l l288) (h.mr (k := 3) (b := 292) (by decide) rfl) rfl ?_
  refine ae_iload_n (q := 5) dX7_push_4 rfl rfl rfl ?_
  refine ae_iconst (v := 0) (q := 6) dX7_push_5 (by decide) rfl ?_
  refine ae_iast (q := 7) dX7_push_6 (h.s l292 t292) (h.l l292) (vin (by omega) (by omega)) rfl ?_
  obtain ⟨x1, e1, u1, v1⟩ := rdi (h.i l292 t292 (k := a2.toNatClampNeg) (p := (0, 3)) rfl)
  refine ae_gen (fun G2 g2 => ?_)
  have h : jm N B 320 G2 := by rw [g2]; exact h.w t292 (by decide) (by decide) (by decide) (mk_inr (lo := 0) (hi := 3) (by decide) (by decide))
  have hd : am_gi G2 315 = am_gi H 315 := by rw [g2]; exact (gi_rowne (by decide)).trans hd
  have q2 : dl H ≤ dl G2 := by rw [g2]; exact dl_state0 (by decide)
  have qw : a2.toNatClampNeg < (am_gi H 288 30).toNatClampNeg → 2 ≤ (am_gi H 292 a2.toNatClampNeg).toInt → dl G2 = dl H + 1 := fun z1 z2 => by rw [g2]; exact dl_wake (by decide) z1 z2
  have hr : am_gi G2 288 = am_gi H 288 := by rw [g2]; exact (gi_rowne (by decide)).trans hr
  refine ae_aload_n (q := 8) dX7_push_7 rfl rfl rfl ?_
  refine ae_getR (q := 11) dX7_push_8 fl_X7_95 rfl (h.s l288 t288) (h.l l288) (h.mr (k := 28) (b := 317) (by decide) rfl) rfl ?_
  refine ae_bipush (v := 48) (q := 13) dX7_push_11 (by decide) rfl ?_
  refine ae_iload_n (q := 14) dX7_push_13 rfl rfl rfl ?_
  refine ae_imul (q := 15) dX7_push_14 rfl ?_
  obtain ⟨x3, e3⟩ : ∃ z, 48 * a1 = z := ⟨_, rfl⟩
  refine ae_eqi e3 ?_
  have f3 : x3.toInt = 48 * a1.toInt := by rw [← e3]; exact i_mul (by decide) rfl (by omega) (by omega)
  refine ae_aload_n (q := 16) dX7_push_15 rfl rfl rfl ?_
  refine ae_getR (q := 19) dX7_push_16 fl_X7_92 rfl (h.s l288 t288) (h.l l288) (h.mr (k := 27) (b := 316) (by decide) rfl) rfl ?_
  refine ae_iload_n (q := 20) dX7_push_19 rfl rfl rfl ?_
  refine ae_iald (q := 21) dX7_push_20 (h.s l316 t316) (h.l l316) (vin (by omega) (by omega)) rfl ?_
  have m4 : am_gi G2 316 a1.toNatClampNeg = xq := by rw [g2]; exact gi_si e_xq (fun q => absurd q.1 (by decide))
  refine ae_eqi m4 ?_
  refine ae_iadd (q := 22) dX7_push_21 rfl ?_
  obtain ⟨x5, e5⟩ : ∃ z, x3 + xq = z := ⟨_, rfl⟩
  refine ae_eqi e5 ?_
  have f5 : x5.toInt = x3.toInt + xq.toInt := by rw [← e5]; exact i_add rfl rfl (by omega) (by omega)
  refine ae_iload_n (q := 23) dX7_push_22 rfl rfl rfl ?_
  refine ae_iast (q := 24) dX7_push_23 (h.s l317 t317) (h.l l317) (vin (by omega) (by omega)) rfl ?_
  refine ae_gen (fun G6 g6 => ?_)
  have h : jm N B 320 G6 := by rw [g6]; exact h.w t317 (by decide) (by decide) (by decide) (mk_inr (lo := 0) (hi := 47) (by omega) (by omega))
  have hd : am_gi G6 315 = am_gi H 315 := by rw [g6]; exact (gi_rowne (by decide)).trans hd
  have q6 : dl G6 = dl G2 := by rw [g6]; exact dl_ne (by decide) (by decide) (by decide) (fun q => absurd q.1 (by decide))
  have hr : am_gi G6 288 = am_gi H 288 := by rw [g6]; exact (gi_rowne (by decide)).trans hr
  refine ae_aload_n (q := 25) dX7_push_24 rfl rfl rfl ?_
  refine ae_getR (q := 28) dX7_push_25 fl_X7_92 rfl (h.s l288 t288) (h.l l288) (h.mr (k := 27) (b := 316) (by decide) rfl) rfl ?_
  refine ae_iload_n (q := 29) dX7_push_28 rfl rfl rfl ?_
  refine ae_dup2 (q := 30) dX7_push_29 rfl rfl rfl ?_
  refine ae_iald (q := 31) dX7_push_30 (h.s l316 t316) (h.l l316) (vin (by omega) (by omega)) rfl ?_
  have m7 : am_gi G6 316 a1.toNatClampNeg = xq := by rw [g6]; exact gi_si m4 (fun q => absurd q.1 (by decide))
  refine ae_eqi m7 ?_
  refine ae_iconst (v := 1) (q := 32) dX7_push_31 (by decide) rfl ?_
  refine ae_iadd (q := 33) dX7_push_32 rfl ?_
  obtain ⟨x8, e8⟩ : ∃ z, xq + 1 = z := ⟨_, rfl⟩
  refine ae_eqi e8 ?_
  have f8 : x8.toInt = xq.toInt + 1 := by rw [← e8]; exact i_add rfl (by decide) (by omega) (by omega)
  refine ae_iast (q := 34) dX7_push_33 (h.s l316 t316) (h.l l316) (vin (by omega) (by omega)) rfl ?_
  refine ae_gen (fun G9 g9 => ?_)
  have h : jm N B 320 G9 := by rw [g9]; exact h.w t316 (by decide) (by decide) (by decide) (mk_inr (lo := 0) (hi := 48) (by omega) (by omega))
  have hd : am_gi G9 315 = am_gi H 315 := by rw [g9]; exact (gi_rowne (by decide)).trans hd
  have q9 : dl G9 = dl G6 + xq.toInt - x8.toInt := by rw [g9, ← m7]; exact dl_queued (ixn (by omega) (by omega))
  have hr : am_gi G9 288 = am_gi H 288 := by rw [g9]; exact (gi_rowne (by decide)).trans hr
  refine ae_vret dX7_push_34 rfl ?_
  exact ⟨rfl, ⟨h, hd, hr, by omega, fun z1 z2 => by have := qw z1 z2; omega⟩⟩
set_option maxRecDepth 100000 in
set_option maxHeartbeats 4000000 in
theorem c_X7_ready {ox : List (Nat × (Nat → Int32))} {d N : Nat} {B H : am_H} {a1 : Int32} {a2 : Int32}  (h : jm N B 320 H) (u_1 : 0 ≤ a1.toInt) (v_1 : a1.toInt ≤ 2) (u_2 : 0 ≤ a2.toInt) (v_2 : a2.toInt ≤ 47) {xf : Int32} (e_xf : am_gi H 288 38 = xf) (u_xf : -1 ≤ xf.toInt) (v_xf : xf.toInt ≤ 47) {xw : Int32} (e_xw : am_gi H 315 a1.toNatClampNeg = xw) (u_xw : -1 ≤ xw.toInt) (v_xw : xw.toInt ≤ 47) (hq : xf.toInt < 0 ∧ 0 ≤ dl H ∨ 1 ≤ dl H ∧ (0 ≤ xw.toInt ∨ 2 ≤ dl H)) : am_DB 0 ox (d + 2) yX7_ready mX7_ready [.ref 288, .int a1, .int a2] H (fun o H1 => o = .inl none ∧ jm N B 320 H1 ∧ 0 ≤ dl H1) := by
  refine ae_enter rfl rfl rfl rfl (Nat.le_of_ble_eq_true rfl) ?_
  show am_EB 0 ox (d + 2) mX7_ready 0 [(0, .ref 288), (1, .int a1), (2, .int a2)] [] H _
  refine ae_aload_n (q := 1) dX7_ready_0 rfl rfl rfl ?_
  refine ae_getI (q := 4) dX7_ready_1 fl_X7_179 rfl (h.s l288 t288) (h.l l288) rfl ?_
  refine ae_eqi e_xf ?_
  refine ae_if_lt (t := 44) (q := 7) dX7_ready_4 (by decide) rfl (fun c1 => ?_) (fun c1 => ?_)
  · have c1 := i_lt (a := xf.toInt) (b := 0) rfl (by decide) c1
    refine ae_aload_n (q := 45) dX7_ready_44 rfl rfl rfl ?_
    refine ae_getI (q := 48) dX7_ready_45 fl_X7_179 rfl (h.s l288 t288) (h.l l288) rfl ?_
    refine ae_eqi e_xf ?_
    refine ae_if_lt (t := 60) (q := 51) dX7_ready_48 (by decide) rfl (fun c2 => ?_) (fun c2 => ?_)
    · have c2 := i_lt (a := xf.toInt) (b := 0) rfl (by decide) c2
      refine ae_iconst (v := 0) (q := 61) dX7_ready_60 (by decide) rfl ?_
      refine ae_istore_n (lv' := [(3, .int 0), (0, .ref 288), (1, .int a1), (2, .int a2)]) (q := 62) dX7_ready_61 rfl (by decide) rfl rfl ?_
      have lab62 : ∀ (n3 : Nat) (y3_3 : Int32) (K3 : am_H), jm N B 320 K3 → 0 ≤ y3_3.toInt → y3_3.toInt ≤ 48 → 48 - y3_3.toInt ≤ (n3 : Int) → 0 ≤ dl K3 → am_EB 0 ox (d + 2) mX7_ready 62 [(3, .int y3_3), (0, .ref 288), (1, .int a1), (2, .int a2)] [] K3 (fun o H1 => o = .inl none ∧ jm N B 320 H1 ∧ 0 ≤ dl H1) := by
        intro n3
        induction n3 using Nat.strongRecOn with
        | ind n3 ih3 =>
          intro y3_3 K3 h p3_3 q3_3 mm3 hq3
          refine ae_iload_n (q := 63) dX7_ready_62 rfl rfl rfl ?_
          refine ae_aload_n (q := 64) dX7_ready_63 rfl rfl rfl ?_
          refine ae_getI (q := 67) dX7_ready_64 fl_X7_119 rfl (h.s l288 t288) (h.l l288) rfl ?_
          obtain ⟨x4, e4, u4, v4⟩ := rdi (h.i l288 t288 (k := 30) (p := (0, 48)) rfl)
          refine ae_eqi e4 ?_
          refine ae_icmp_ge (t := 122) (q := 70) dX7_ready_67 (by decide) rfl (fun c5 => ?_) (fun c5 => ?_)
          · have c5 := i_le (a := x4.toInt) (b := y3_3.toInt) rfl rfl c5
            refine ae_vret dX7_ready_122 rfl ?_
            exact ⟨rfl, ⟨h, by omega⟩⟩
          · have c5 := i_nle (a := x4.toInt) (b := y3_3.toInt) rfl rfl c5
            refine ae_aload_n (q := 71) dX7_ready_70 rfl rfl rfl ?_
            refine ae_getR (q := 74) dX7_ready_71 fl_X7_19 rfl (h.s l288 t288) (h.l l288) (h.mr (k := 3) (b := 292) (by decide) rfl) rfl ?_
            refine ae_iload_n (q := 75) dX7_ready_74 rfl rfl rfl ?_
            refine ae_iald (q := 76) dX7_ready_75 (h.s l292 t292) (h.l l292) (vin (by omega) (by omega)) rfl ?_
            obtain ⟨x6, e6, u6, v6⟩ := rdi (h.i l292 t292 (k := y3_3.toNatClampNeg) (p := (0, 3)) rfl)
            refine ae_eqi e6 ?_
            refine ae_iconst (v := 2) (q := 77) dX7_ready_76 (by decide) rfl ?_
            refine ae_icmp_ne (t := 92) (q := 80) dX7_ready_77 (by decide) rfl (fun c7 => ?_) (fun c7 => ?_)
            · have c7 := i_ne (a := x6.toInt) (b := 2) rfl (by decide) c7
              refine ae_iconst (v := 0) (q := 93) dX7_ready_92 (by decide) rfl ?_
              refine ae_istore (lv' := [(4, .int 0), (3, .int y3_3), (0, .ref 288), (1, .int a1), (2, .int a2)]) (q := 95) dX7_ready_93 (by decide) rfl rfl ?_
              refine ae_iload (q := 97) dX7_ready_95 rfl rfl ?_
              refine ae_if_ne (t := 103) (q := 100) dX7_ready_97 (by decide) rfl (fun h => absurd h (by decide)) (fun _ => ?_)
              refine ae_goto (q := 116) dX7_ready_100 (by decide) ?_
              obtain ⟨x8, e8⟩ : ∃ z, y3_3 + Int32.ofInt 1 = z := ⟨_, rfl⟩
              have f8 : x8.toInt = y3_3.toInt + 1 := by rw [← e8]; exact i_add rfl (by decide) (by omega) (by omega)
              refine ae_iinc (v := x8) (lv' := [(3, .int x8), (4, .int 0), (0, .ref 288), (1, .int a1), (2, .int a2)]) (q := 119) dX7_ready_116 rfl e8 (by decide) rfl rfl ?_
              refine ae_goto (q := 62) dX7_ready_119 (by decide) ?_
              exact ae_lv (lv' := [(3, .int x8), (0, .ref 288), (1, .int a1), (2, .int a2)]) ⟨rfl, rfl, rfl, rfl, trivial⟩ (ih3 (n3 - 1) (by omega) x8 _ h (by omega) (by omega) (by omega) (by omega))
            · have c7 := i_eq (a := x6.toInt) (b := 2) rfl (by decide) c7
              refine ae_aload_n (q := 81) dX7_ready_80 rfl rfl rfl ?_
              refine ae_iload_n (q := 82) dX7_ready_81 rfl rfl rfl ?_
              refine ae_callV (ci := 7) (as := [.int y3_3]) (b := 288) (st := []) (q := 85) dX7_ready_82 (c_X7_isReady (N := N) (d := d) h (by omega) (by omega)) myX7_isReady lk_X7_203 im_X7_isReady se_X7_isReady rfl (by decide) (h.s l288 t288) (h.l l288) rfl rfl (Nat.le_of_ble_eq_true rfl) rfl (fun o H1 hh => ⟨_, hh.1.choose_spec.1⟩) (fun vv G9 hv => ?_)
              obtain ⟨⟨x9, o9, u9, v9⟩, z9⟩ := hv
              cases o9
              have z9 := z9.symm
              subst z9
              refine ⟨Or.inl rfl, ?_⟩
              refine ae_if_eq (t := 92) (q := 88) dX7_ready_85 (by decide) rfl (fun c10 => ?_) (fun c10 => ?_)
              · have c10 := i_eq (a := x9.toInt) (b := 0) rfl (by decide) c10
                refine ae_iconst (v := 0) (q := 93) dX7_ready_92 (by decide) rfl ?_
                refine ae_istore (lv' := [(4, .int 0), (3, .int y3_3), (0, .ref 288), (1, .int a1), (2, .int a2)]) (q := 95) dX7_ready_93 (by decide) rfl rfl ?_
                refine ae_iload (q := 97) dX7_ready_95 rfl rfl ?_
                refine ae_if_ne (t := 103) (q := 100) dX7_ready_97 (by decide) rfl (fun h => absurd h (by decide)) (fun _ => ?_)
                refine ae_goto (q := 116) dX7_ready_100 (by decide) ?_
                obtain ⟨x11, e11⟩ : ∃ z, y3_3 + Int32.ofInt 1 = z := ⟨_, rfl⟩
                have f11 : x11.toInt = y3_3.toInt + 1 := by rw [← e11]; exact i_add rfl (by decide) (by omega) (by omega)
                refine ae_iinc (v := x11) (lv' := [(3, .int x11), (4, .int 0), (0, .ref 288), (1, .int a1), (2, .int a2)]) (q := 119) dX7_ready_116 rfl e11 (by decide) rfl rfl ?_
                refine ae_goto (q := 62) dX7_ready_119 (by decide) ?_
                exact ae_lv (lv' := [(3, .int x11), (0, .ref 288), (1, .int a1), (2, .int a2)]) ⟨rfl, rfl, rfl, rfl, trivial⟩ (ih3 (n3 - 1) (by omega) x11 _ h (by omega) (by omega) (by omega) (by omega))
              · have c10 := i_ne (a := x9.toInt) (b := 0) rfl (by decide) c10
                refine ae_iconst (v := 1) (q := 89) dX7_ready_88 (by decide) rfl ?_
                refine ae_goto (q := 93) dX7_ready_89 (by decide) ?_
                refine ae_istore (lv' := [(4, .int 1), (3, .int y3_3), (0, .ref 288), (1, .int a1), (2, .int a2)]) (q := 95) dX7_ready_93 (by decide) rfl rfl ?_
                refine ae_iload (q := 97) dX7_ready_95 rfl rfl ?_
                refine ae_if_ne (t := 103) (q := 100) dX7_ready_97 (by decide) rfl (fun _ => ?_) (fun h => absurd h (by decide))
                refine ae_aload_n (q := 104) dX7_ready_103 rfl rfl rfl ?_
                refine ae_getR (q := 107) dX7_ready_104 fl_X7_37 rfl (h.s l288 t288) (h.l l288) (h.mr (k := 9) (b := 298) (by decide) rfl) rfl ?_
                refine ae_iload_n (q := 108) dX7_ready_107 rfl rfl rfl ?_
                refine ae_iconst (v := 0) (q := 109) dX7_ready_108 (by decide) rfl ?_
                refine ae_iast (q := 110) dX7_ready_109 (h.s l298 t298) (h.l l298) (vin (by omega) (by omega)) rfl ?_
                refine ae_gen (fun G12 g12 => ?_)
                have h : jm N B 320 G12 := by rw [g12]; exact h.w t298 (by decide) (by decide) (by decide) (mk_inr (lo := 0) (hi := 4) (by decide) (by decide))
                have q12 : dl G12 = dl K3 := by rw [g12]; exact dl_ne (by decide) (by decide) (by decide) (fun q => absurd q.1 (by decide))
                refine ae_aload_n (q := 111) dX7_ready_110 rfl rfl rfl ?_
                refine ae_iload_n (q := 112) dX7_ready_111 rfl rfl rfl ?_
                refine ae_iload_n (q := 113) dX7_ready_112 rfl rfl rfl ?_
                obtain ⟨x13, e13, u13, v13⟩ := rdi (h.i l316 t316 (k := a1.toNatClampNeg) (p := (0, 48)) rfl)
                have m15 : am_gi G12 288 30 = x4 := by rw [g12]; exact gi_si e4 (fun q => absurd q.1 (by decide))
                have m16 : am_gi G12 292 y3_3.toNatClampNeg = x6 := by rw [g12]; exact gi_si e6 (fun q => absurd q.1 (by decide))
                have wk14 : y3_3.toNatClampNeg < (am_gi G12 288 30).toNatClampNeg := by rw [m15]; exact nlt_of (by omega) (by omega)
                have wl14 : 2 ≤ (am_gi G12 292 y3_3.toNatClampNeg).toInt := by rw [m16]; omega
                have wq14 : x13.toInt ≤ 47 := by rw [← e13]; exact h.room2 (ixn (by omega) (by omega)) (by omega) wk14 wl14
                refine ae_callV (ci := 7) (as := [.int a1, .int y3_3]) (b := 288) (st := []) (q := 116) dX7_ready_113 (c_X7_push (N := N) (d := d + 1) h (by omega) (by omega) (by omega) (by omega) (xq := x13) e13 (by omega) (by omega)) myX7_push lk_X7_152 im_X7_push se_X7_push rfl (by decide) (h.s l288 t288) (h.l l288) rfl rfl (Nat.le_of_ble_eq_true rfl) rfl (fun o H1 hh => ⟨_, hh.1⟩) (fun vv G17 hv => ?_)
                obtain ⟨o17, z17⟩ := hv
                cases o17
                obtain ⟨z17, w17⟩ := z17
                refine ⟨Or.inl (z17.nx.trans h.nx.symm), ?_⟩
                have h : jm N B 320 G17 := z17
                clear z17
                obtain ⟨wa17, wr17, q17, qp17⟩ := w17
                have q17 := qp17 wk14 wl14
                clear qp17
                obtain ⟨x18, e18⟩ : ∃ z, y3_3 + Int32.ofInt 1 = z := ⟨_, rfl⟩
                have f18 : x18.toInt = y3_3.toInt + 1 := by rw [← e18]; exact i_add rfl (by decide) (by omega) (by omega)
                refine ae_iinc (v := x18) (lv' := [(3, .int x18), (4, .int 1), (0, .ref 288), (1, .int a1), (2, .int a2)]) (q := 119) dX7_ready_116 rfl e18 (by decide) rfl rfl ?_
                refine ae_goto (q := 62) dX7_ready_119 (by decide) ?_
                exact ae_lv (lv' := [(3, .int x18), (0, .ref 288), (1, .int a1), (2, .int a2)]) ⟨rfl, rfl, rfl, rfl, trivial⟩ (ih3 (n3 - 1) (by omega) x18 _ h (by omega) (by omega) (by omega) (by omega))
      exact ae_lv (lv' := [(3, .int 0), (0, .ref 288), (1, .int a1), (2, .int a2)]) ⟨rfl, rfl, rfl, rfl, trivial⟩ (lab62 48 0 _ h (by decide) (by decide) (show 48 - (0 : Int32).toInt ≤ _ from by rw [show (0 : Int32).toInt = 0 from by decide]; omega) (by omega))
    · have c2 := i_nlt (a := xf.toInt) (b := 0) rfl (by decide) c2
      exfalso; omega
  · have c1 := i_nlt (a := xf.toInt) (b := 0) rfl (by decide) c1
    refine ae_aload_n (q := 8) dX7_ready_7 rfl rfl rfl ?_
    refine ae_getI (q := 11) dX7_ready_8 fl_X7_141 rfl (h.s l288 t288) (h.l l288) rfl ?_
    obtain ⟨x19, e19⟩ : ∃ x, am_gi H 288 32 = x := ⟨_, rfl⟩
    refine ae_eqi e19 ?_
    refine ae_iconst (v := 1) (q := 12) dX7_ready_11 (by decide) rfl ?_
    refine ae_icmp_ne (t := 44) (q := 15) dX7_ready_12 (by decide) rfl (fun c20 => ?_) (fun c20 => ?_)
    · have c20 := i_ne (a := x19.toInt) (b := 1) rfl (by decide) c20
      refine ae_aload_n (q := 45) dX7_ready_44 rfl rfl rfl ?_
      refine ae_getI (q := 48) dX7_ready_45 fl_X7_179 rfl (h.s l288 t288) (h.l l288) rfl ?_
      refine ae_eqi e_xf ?_
      refine ae_if_lt (t := 60) (q := 51) dX7_ready_48 (by decide) rfl (fun c21 => ?_) (fun c21 => ?_)
      · have c21 := i_lt (a := xf.toInt) (b := 0) rfl (by decide) c21
        exfalso; omega
      · have c21 := i_nlt (a := xf.toInt) (b := 0) rfl (by decide) c21
        refine ae_aload_n (q := 52) dX7_ready_51 rfl rfl rfl ?_
        refine ae_iload_n (q := 53) dX7_ready_52 rfl rfl rfl ?_
        refine ae_aload_n (q := 54) dX7_ready_53 rfl rfl rfl ?_
        refine ae_getI (q := 57) dX7_ready_54 fl_X7_179 rfl (h.s l288 t288) (h.l l288) rfl ?_
        refine ae_eqi e_xf ?_
        obtain ⟨x22, e22, u22, v22⟩ := rdi (h.i l316 t316 (k := a1.toNatClampNeg) (p := (0, 48)) rfl)
        have wq23 : x22.toInt ≤ 47 := by rw [← e22]; exact h.room (ixn (by omega) (by omega)) (by omega)
        refine ae_callV (ci := 7) (as := [.int a1, .int xf]) (b := 288) (st := []) (q := 60) dX7_ready_57 (c_X7_push (N := N) (d := d + 1) h (by omega) (by omega) (by omega) (by omega) (xq := x22) e22 (by omega) (by omega)) myX7_push lk_X7_152 im_X7_push se_X7_push rfl (by decide) (h.s l288 t288) (h.l l288) rfl rfl (Nat.le_of_ble_eq_true rfl) rfl (fun o H1 hh => ⟨_, hh.1⟩) (fun vv G24 hv => ?_)
        obtain ⟨o24, z24⟩ := hv
        cases o24
        obtain ⟨z24, w24⟩ := z24
        refine ⟨Or.inl (z24.nx.trans h.nx.symm), ?_⟩
        have h : jm N B 320 G24 := z24
        clear z24
        obtain ⟨wa24, wr24, q24, qp24⟩ := w24
        clear qp24
        refine ae_iconst (v := 0) (q := 61) dX7_ready_60 (by decide) rfl ?_
        refine ae_istore_n (lv' := [(3, .int 0), (0, .ref 288), (1, .int a1), (2, .int a2)]) (q := 62) dX7_ready_61 rfl (by decide) rfl rfl ?_
        have lab62 : ∀ (n25 : Nat) (y25_3 : Int32) (K25 : am_H), jm N B 320 K25 → 0 ≤ y25_3.toInt → y25_3.toInt ≤ 48 → 48 - y25_3.toInt ≤ (n25 : Int) → 0 ≤ dl K25 → am_EB 0 ox (d + 2) mX7_ready 62 [(3, .int y25_3), (0, .ref 288), (1, .int a1), (2, .int a2)] [] K25 (fun o H1 => o = .inl none ∧ jm N B 320 H1 ∧ 0 ≤ dl H1) := by
          intro n25
          induction n25 using Nat.strongRecOn with
          | ind n25 ih25 =>
            intro y25_3 K25 h p25_3 q25_3 mm25 hq25
            refine ae_iload_n (q := 63) dX7_ready_62 rfl rfl rfl ?_
            refine ae_aload_n (q := 64) dX7_ready_63 rfl rfl rfl ?_
            refine ae_getI (q := 67) dX7_ready_64 fl_X7_119 rfl (h.s l288 t288) (h.l l288) rfl ?_
            obtain ⟨x26, e26, u26, v26⟩ := rdi (h.i l288 t288 (k := 30) (p := (0, 48)) rfl)
            refine ae_eqi e26 ?_
            refine ae_icmp_ge (t := 122) (q := 70) dX7_ready_67 (by decide) rfl (fun c27 => ?_) (fun c27 => ?_)
            · have c27 := i_le (a := x26.toInt) (b := y25_3.toInt) rfl rfl c27
              refine ae_vret dX7_ready_122 rfl ?_
              exact ⟨rfl, ⟨h, by omega⟩⟩
            · have c27 := i_nle (a := x26.toInt) (b := y25_3.toInt) rfl rfl c27
              refine ae_aload_n (q := 71) dX7_ready_70 rfl rfl rfl ?_
              refine ae_getR (q := 74) dX7_ready_71 fl_X7_19 rfl (h.s l288 t288) (h.l l288) (h.mr (k := 3) (b := 292) (by decide) rfl) rfl ?_
              refine ae_iload_n (q := 75) dX7_ready_74 rfl rfl rfl ?_
              refine ae_iald (q := 76) dX7_ready_75 (h.s l292 t292) (h.l l292) (vin (by omega) (by omega)) rfl ?_
              obtain ⟨x28, e28, u28, v28⟩ := rdi (h.i l292 t292 (k := y25_3.toNatClampNeg) (p := (0, 3)) rfl)
              refine ae_eqi e28 ?_
              refine ae_iconst (v := 2) (q := 77) dX7_ready_76 (by decide) rfl ?_
              refine ae_icmp_ne (t := 92) (q := 80) dX7_ready_77 (by decide) rfl (fun c29 => ?_) (fun c29 => ?_)
              · have c29 := i_ne (a := x28.toInt) (b := 2) rfl (by decide) c29
                refine ae_iconst (v := 0) (q := 93) dX7_ready_92 (by decide) rfl ?_
                refine ae_istore (lv' := [(4, .int 0), (3, .int y25_3), (0, .ref 288), (1, .int a1), (2, .int a2)]) (q := 95) dX7_ready_93 (by decide) rfl rfl ?_
                refine ae_iload (q := 97) dX7_ready_95 rfl rfl ?_
                refine ae_if_ne (t := 103) (q := 100) dX7_ready_97 (by decide) rfl (fun h => absurd h (by decide)) (fun _ => ?_)
                refine ae_goto (q := 116) dX7_ready_100 (by decide) ?_
                obtain ⟨x30, e30⟩ : ∃ z, y25_3 + Int32.ofInt 1 = z := ⟨_, rfl⟩
                have f30 : x30.toInt = y25_3.toInt + 1 := by rw [← e30]; exact i_add rfl (by decide) (by omega) (by omega)
                refine ae_iinc (v := x30) (lv' := [(3, .int x30), (4, .int 0), (0, .ref 288), (1, .int a1), (2, .int a2)]) (q := 119) dX7_ready_116 rfl e30 (by decide) rfl rfl ?_
                refine ae_goto (q := 62) dX7_ready_119 (by decide) ?_
                exact ae_lv (lv' := [(3, .int x30), (0, .ref 288), (1, .int a1), (2, .int a2)]) ⟨rfl, rfl, rfl, rfl, trivial⟩ (ih25 (n25 - 1) (by omega) x30 _ h (by omega) (by omega) (by omega) (by omega))
              · have c29 := i_eq (a := x28.toInt) (b := 2) rfl (by decide) c29
                refine ae_aload_n (q := 81) dX7_ready_80 rfl rfl rfl ?_
                refine ae_iload_n (q := 82) dX7_ready_81 rfl rfl rfl ?_
                refine ae_callV (ci := 7) (as := [.int y25_3]) (b := 288) (st := []) (q := 85) dX7_ready_82 (c_X7_isReady (N := N) (d := d) h (by omega) (by omega)) myX7_isReady lk_X7_203 im_X7_isReady se_X7_isReady rfl (by decide) (h.s l288 t288) (h.l l288) rfl rfl (Nat.le_of_ble_eq_true rfl) rfl (fun o H1 hh => ⟨_, hh.1.choose_spec.1⟩) (fun vv G31 hv => ?_)
                obtain ⟨⟨x31, o31, u31, v31⟩, z31⟩ := hv
                cases o31
                have z31 := z31.symm
                subst z31
                refine ⟨Or.inl rfl, ?_⟩
                refine ae_if_eq (t := 92) (q := 88) dX7_ready_85 (by decide) rfl (fun c32 => ?_) (fun c32 => ?_)
                · have c32 := i_eq (a := x31.toInt) (b := 0) rfl (by decide) c32
                  refine ae_iconst (v := 0) (q := 93) dX7_ready_92 (by decide) rfl ?_
                  refine ae_istore (lv' := [(4, .int 0), (3, .int y25_3), (0, .ref 288), (1, .int a1), (2, .int a2)]) (q := 95) dX7_ready_93 (by decide) rfl rfl ?_
                  refine ae_iload (q := 97) dX7_ready_95 rfl rfl ?_
                  refine ae_if_ne (t := 103) (q := 100) dX7_ready_97 (by decide) rfl (fun h => absurd h (by decide)) (fun _ => ?_)
                  refine ae_goto (q := 116) dX7_ready_100 (by decide) ?_
                  obtain ⟨x33, e33⟩ : ∃ z, y25_3 + Int32.ofInt 1 = z := ⟨_, rfl⟩
                  have f33 : x33.toInt = y25_3.toInt + 1 := by rw [← e33]; exact i_add rfl (by decide) (by omega) (by omega)
                  refine ae_iinc (v := x33) (lv' := [(3, .int x33), (4, .int 0), (0, .ref 288), (1, .int a1), (2, .int a2)]) (q := 119) dX7_ready_116 rfl e33 (by decide) rfl rfl ?_
                  refine ae_goto (q := 62) dX7_ready_119 (by decide) ?_
                  exact ae_lv (lv' := [(3, .int x33), (0, .ref 288), (1, .int a1), (2, .int a2)]) ⟨rfl, rfl, rfl, rfl, trivial⟩ (ih25 (n25 - 1) (by omega) x33 _ h (by omega) (by omega) (by omega) (by omega))
                · have c32 := i_ne (a := x31.toInt) (b := 0) rfl (by decide) c32
                  refine ae_iconst (v := 1) (q := 89) dX7_ready_88 (by decide) rfl ?_
                  refine ae_goto (q := 93) dX7_ready_89 (by decide) ?_
                  refine ae_istore (lv' := [(4, .int 1), (3, .int y25_3), (0, .ref 288), (1, .int a1), (2, .int a2)]) (q := 95) dX7_ready_93 (by decide) rfl rfl ?_
                  refine ae_iload (q := 97) dX7_ready_95 rfl rfl ?_
                  refine ae_if_ne (t := 103) (q := 100) dX7_ready_97 (by decide) rfl (fun _ => ?_) (fun h => absurd h (by decide))
                  refine ae_aload_n (q := 104) dX7_ready_103 rfl rfl rfl ?_
                  refine ae_getR (q := 107) dX7_ready_104 fl_X7_37 rfl (h.s l288 t288) (h.l l288) (h.mr (k := 9) (b := 298) (by decide) rfl) rfl ?_
                  refine ae_iload_n (q := 108) dX7_ready_107 rfl rfl rfl ?_
                  refine ae_iconst (v := 0) (q := 109) dX7_ready_108 (by decide) rfl ?_
                  refine ae_iast (q := 110) dX7_ready_109 (h.s l298 t298) (h.l l298) (vin (by omega) (by omega)) rfl ?_
                  refine ae_gen (fun G34 g34 => ?_)
                  have h : jm N B 320 G34 := by rw [g34]; exact h.w t298 (by decide) (by decide) (by decide) (mk_inr (lo := 0) (hi := 4) (by decide) (by decide))
                  have q34 : dl G34 = dl K25 := by rw [g34]; exact dl_ne (by decide) (by decide) (by decide) (fun q => absurd q.1 (by decide))
                  refine ae_aload_n (q := 111) dX7_ready_110 rfl rfl rfl ?_
                  refine ae_iload_n (q := 112) dX7_ready_111 rfl rfl rfl ?_
                  refine ae_iload_n (q := 113) dX7_ready_112 rfl rfl rfl ?_
                  obtain ⟨x35, e35, u35, v35⟩ := rdi (h.i l316 t316 (k := a1.toNatClampNeg) (p := (0, 48)) rfl)
                  have m37 : am_gi G34 288 30 = x26 := by rw [g34]; exact gi_si e26 (fun q => absurd q.1 (by decide))
                  have m38 : am_gi G34 292 y25_3.toNatClampNeg = x28 := by rw [g34]; exact gi_si e28 (fun q => absurd q.1 (by decide))
                  have wk36 : y25_3.toNatClampNeg < (am_gi G34 288 30).toNatClampNeg := by rw [m37]; exact nlt_of (by omega) (by omega)
                  have wl36 : 2 ≤ (am_gi G34 292 y25_3.toNatClampNeg).toInt := by rw [m38]; omega
                  have wq36 : x35.toInt ≤ 47 := by rw [← e35]; exact h.room2 (ixn (by omega) (by omega)) (by omega) wk36 wl36
                  refine ae_callV (ci := 7) (as := [.int a1, .int y25_3]) (b := 288) (st := []) (q := 116) dX7_ready_113 (c_X7_push (N := N) (d := d + 1) h (by omega) (by omega) (by omega) (by omega) (xq := x35) e35 (by omega) (by omega)) myX7_push lk_X7_152 im_X7_push se_X7_push rfl (by decide) (h.s l288 t288) (h.l l288) rfl rfl (Nat.le_of_ble_eq_true rfl) rfl (fun o H1 hh => ⟨_, hh.1⟩) (fun vv G39 hv => ?_)
                  obtain ⟨o39, z39⟩ := hv
                  cases o39
                  obtain ⟨z39, w39⟩ := z39
                  refine ⟨Or.inl (z39.nx.trans h.nx.symm), ?_⟩
                  have h : jm N B 320 G39 := z39
                  clear z39
                  obtain ⟨wa39, wr39, q39, qp39⟩ := w39
                  have q39 := qp39 wk36 wl36
                  clear qp39
                  obtain ⟨x40, e40⟩ : ∃ z, y25_3 + Int32.ofInt 1 = z := ⟨_, rfl⟩
                  have f40 : x40.toInt = y25_3.toInt + 1 := by rw [← e40]; exact i_add rfl (by decide) (by omega) (by omega)
                  refine ae_iinc (v := x40) (lv' := [(3, .int x40), (4, .int 1), (0, .ref 288), (1, .int a1), (2, .int a2)]) (q := 119) dX7_ready_116 rfl e40 (by decide) rfl rfl ?_
                  refine ae_goto (q := 62) dX7_ready_119 (by decide) ?_
                  exact ae_lv (lv' := [(3, .int x40), (0, .ref 288), (1, .int a1), (2, .int a2)]) ⟨rfl, rfl, rfl, rfl, trivial⟩ (ih25 (n25 - 1) (by omega) x40 _ h (by omega) (by omega) (by omega) (by omega))
        exact ae_lv (lv' := [(3, .int 0), (0, .ref 288), (1, .int a1), (2, .int a2)]) ⟨rfl, rfl, rfl, rfl, trivial⟩ (lab62 48 0 _ h (by decide) (by decide) (show 48 - (0 : Int32).toInt ≤ _ from by rw [show (0 : Int32).toInt = 0 from by decide]; omega) (by omega))
    · have c20 := i_eq (a := x19.toInt) (b := 1) rfl (by decide) c20
      refine ae_aload_n (q := 16) dX7_ready_15 rfl rfl rfl ?_
      refine ae_iload_n (q := 17) dX7_ready_16 rfl rfl rfl ?_
      refine ae_iload_n (q := 18) dX7_ready_17 rfl rfl rfl ?_
      obtain ⟨x41, e41, u41, v41⟩ := rdi (h.i l316 t316 (k := a1.toNatClampNeg) (p := (0, 48)) rfl)
      have wq42 : x41.toInt ≤ 47 := by rw [← e41]; exact h.room (ixn (by omega) (by omega)) (by omega)
      refine ae_callV (ci := 7) (as := [.int a1, .int a2]) (b := 288) (st := []) (q := 21) dX7_ready_18 (c_X7_push (N := N) (d := d + 1) h (by omega) (by omega) (by omega) (by omega) (xq := x41) e41 (by omega) (by omega)) myX7_push lk_X7_152 im_X7_push se_X7_push rfl (by decide) (h.s l288 t288) (h.l l288) rfl rfl (Nat.le_of_ble_eq_true rfl) rfl (fun o H1 hh => ⟨_, hh.1⟩) (fun vv G43 hv => ?_)
      obtain ⟨o43, z43⟩ := hv
      cases o43
      obtain ⟨z43, w43⟩ := z43
      refine ⟨Or.inl (z43.nx.trans h.nx.symm), ?_⟩
      have h : jm N B 320 G43 := z43
      clear z43
      obtain ⟨wa43, wr43, q43, qp43⟩ := w43
      clear qp43
      refine ae_aload_n (q := 22) dX7_ready_21 rfl rfl rfl ?_
      refine ae_getR (q := 25) dX7_ready_22 fl_X7_89 rfl (h.s l288 t288) (h.l l288) (h.mr (k := 26) (b := 315) (by decide) rfl) rfl ?_
      refine ae_iload_n (q := 26) dX7_ready_25 rfl rfl rfl ?_
      refine ae_aload_n (q := 27) dX7_ready_26 rfl rfl rfl ?_
      refine ae_getI (q := 30) dX7_ready_27 fl_X7_179 rfl (h.s l288 t288) (h.l l288) rfl ?_
      have m44 : am_gi G43 288 38 = xf := (congrFun wr43 38).trans e_xf
      refine ae_eqi m44 ?_
      refine ae_iast (q := 31) dX7_ready_30 (h.s l315 t315) (h.l l315) (vin (by omega) (by omega)) rfl ?_
      have m45 : am_gi G43 315 a1.toNatClampNeg = xw := (congrFun wa43 a1.toNatClampNeg).trans e_xw
      refine ae_gen (fun G46 g46 => ?_)
      have h : jm N B 320 G46 := by rw [g46]; exact h.w t315 (by decide) (by decide) (by decide) (mk_inr (lo := (-1)) (hi := 47) (by omega) (by omega))
      have q46 : dl G46 = dl G43 + h1 xw - h1 xf := by rw [g46, ← m45]; exact dl_hand (ixn (by omega) (by omega))
      have qa46 := h1_sp xw
      have qb46 := h1_sp xf
      refine ae_aload_n (q := 32) dX7_ready_31 rfl rfl rfl ?_
      refine ae_getR (q := 35) dX7_ready_32 fl_X7_19 rfl (h.s l288 t288) (h.l l288) (h.mr (k := 3) (b := 292) (by decide) rfl) rfl ?_
      refine ae_aload_n (q := 36) dX7_ready_35 rfl rfl rfl ?_
      refine ae_getI (q := 39) dX7_ready_36 fl_X7_179 rfl (h.s l288 t288) (h.l l288) rfl ?_
      have m47 : am_gi G46 288 38 = xf := by rw [g46]; exact gi_si m44 (fun q => absurd q.1 (by decide))
      refine ae_eqi m47 ?_
      refine ae_iconst (v := 1) (q := 40) dX7_ready_39 (by decide) rfl ?_
      refine ae_iast (q := 41) dX7_ready_40 (h.s l292 t292) (h.l l292) (vin (by omega) (by omega)) rfl ?_
      refine ae_gen (fun G48 g48 => ?_)
      have h : jm N B 320 G48 := by rw [g48]; exact h.w t292 (by decide) (by decide) (by decide) (mk_inr (lo := 0) (hi := 3) (by decide) (by decide))
      have q48 : dl G46 ≤ dl G48 := by rw [g48]; exact dl_state0 (by decide)
      refine ae_goto (q := 60) dX7_ready_41 (by decide) ?_
      refine ae_iconst (v := 0) (q := 61) dX7_ready_60 (by decide) rfl ?_
      refine ae_istore_n (lv' := [(3, .int 0), (0, .ref 288), (1, .int a1), (2, .int a2)]) (q := 62) dX7_ready_61 rfl (by decide) rfl rfl ?_
      have lab62 : ∀ (n49 : Nat) (y49_3 : Int32) (K49 : am_H), jm N B 320 K49 → 0 ≤ y49_3.toInt → y49_3.toInt ≤ 48 → 48 - y49_3.toInt ≤ (n49 : Int) → 0 ≤ dl K49 → am_EB 0 ox (d + 2) mX7_ready 62 [(3, .int y49_3), (0, .ref 288), (1, .int a1), (2, .int a2)] [] K49 (fun o H1 => o = .inl none ∧ jm N B 320 H1 ∧ 0 ≤ dl H1) := by
        intro n49
        induction n49 using Nat.strongRecOn with
        | ind n49 ih49 =>
          intro y49_3 K49 h p49_3 q49_3 mm49 hq49
          refine ae_iload_n (q := 63) dX7_ready_62 rfl rfl rfl ?_
          refine ae_aload_n (q := 64) dX7_ready_63 rfl rfl rfl ?_
          refine ae_getI (q := 67) dX7_ready_64 fl_X7_119 rfl (h.s l288 t288) (h.l l288) rfl ?_
          obtain ⟨x50, e50, u50, v50⟩ := rdi (h.i l288 t288 (k := 30) (p := (0, 48)) rfl)
          refine ae_eqi e50 ?_
          refine ae_icmp_ge (t := 122) (q := 70) dX7_ready_67 (by decide) rfl (fun c51 => ?_) (fun c51 => ?_)
          · have c51 := i_le (a := x50.toInt) (b := y49_3.toInt) rfl rfl c51
            refine ae_vret dX7_ready_122 rfl ?_
            exact ⟨rfl, ⟨h, by omega⟩⟩
          · have c51 := i_nle (a := x50.toInt) (b := y49_3.toInt) rfl rfl c51
            refine ae_aload_n (q := 71) dX7_ready_70 rfl rfl rfl ?_
            refine ae_getR (q := 74) dX7_ready_71 fl_X7_19 rfl (h.s l288 t288) (h.l l288) (h.mr (k := 3) (b := 292) (by decide) rfl) rfl ?_
            refine ae_iload_n (q := 75) dX7_ready_74 rfl rfl rfl ?_
            refine ae_iald (q := 76) dX7_ready_75 (h.s l292 t292) (h.l l292) (vin (by omega) (by omega)) rfl ?_
            obtain ⟨x52, e52, u52, v52⟩ := rdi (h.i l292 t292 (k := y49_3.toNatClampNeg) (p := (0, 3)) rfl)
            refine ae_eqi e52 ?_
            refine ae_iconst (v := 2) (q := 77) dX7_ready_76 (by decide) rfl ?_
            refine ae_icmp_ne (t := 92) (q := 80) dX7_ready_77 (by decide) rfl (fun c53 => ?_) (fun c53 => ?_)
            · have c53 := i_ne (a := x52.toInt) (b := 2) rfl (by decide) c53
              refine ae_iconst (v := 0) (q := 93) dX7_ready_92 (by decide) rfl ?_
              refine ae_istore (lv' := [(4, .int 0), (3, .int y49_3), (0, .ref 288), (1, .int a1), (2, .int a2)]) (q := 95) dX7_ready_93 (by decide) rfl rfl ?_
              refine ae_iload (q := 97) dX7_ready_95 rfl rfl ?_
              refine ae_if_ne (t := 103) (q := 100) dX7_ready_97 (by decide) rfl (fun h => absurd h (by decide)) (fun _ => ?_)
              refine ae_goto (q := 116) dX7_ready_100 (by decide) ?_
              obtain ⟨x54, e54⟩ : ∃ z, y49_3 + Int32.ofInt 1 = z := ⟨_, rfl⟩
              have f54 : x54.toInt = y49_3.toInt + 1 := by rw [← e54]; exact i_add rfl (by decide) (by omega) (by omega)
              refine ae_iinc (v := x54) (lv' := [(3, .int x54), (4, .int 0), (0, .ref 288), (1, .int a1), (2, .int a2)]) (q := 119) dX7_ready_116 rfl e54 (by decide) rfl rfl ?_
              refine ae_goto (q := 62) dX7_ready_119 (by decide) ?_
              exact ae_lv (lv' := [(3, .int x54), (0, .ref 288), (1, .int a1), (2, .int a2)]) ⟨rfl, rfl, rfl, rfl, trivial⟩ (ih49 (n49 - 1) (by omega) x54 _ h (by omega) (by omega) (by omega) (by omega))
            · have c53 := i_eq (a := x52.toInt) (b := 2) rfl (by decide) c53
              refine ae_aload_n (q := 81) dX7_ready_80 rfl rfl rfl ?_
              refine ae_iload_n (q := 82) dX7_ready_81 rfl rfl rfl ?_
              refine ae_callV (ci := 7) (as := [.int y49_3]) (b := 288) (st := []) (q := 85) dX7_ready_82 (c_X7_isReady (N := N) (d := d) h (by omega) (by omega)) myX7_isReady lk_X7_203 im_X7_isReady se_X7_isReady rfl (by decide) (h.s l288 t288) (h.l l288) rfl rfl (Nat.le_of_ble_eq_true rfl) rfl (fun o H1 hh => ⟨_, hh.1.choose_spec.1⟩) (fun vv G55 hv => ?_)
              obtain ⟨⟨x55, o55, u55, v55⟩, z55⟩ := hv
              cases o55
              have z55 := z55.symm
              subst z55
              refine ⟨Or.inl rfl, ?_⟩
              refine ae_if_eq (t := 92) (q := 88) dX7_ready_85 (by decide) rfl (fun c56 => ?_) (fun c56 => ?_)
              · have c56 := i_eq (a := x55.toInt) (b := 0) rfl (by decide) c56
                refine ae_iconst (v := 0) (q := 93) dX7_ready_92 (by decide) rfl ?_
                refine ae_istore (lv' := [(4, .int 0), (3, .int y49_3), (0, .ref 288), (1, .int a1), (2, .int a2)]) (q := 95) dX7_ready_93 (by decide) rfl rfl ?_
                refine ae_iload (q := 97) dX7_ready_95 rfl rfl ?_
                refine ae_if_ne (t := 103) (q := 100) dX7_ready_97 (by decide) rfl (fun h => absurd h (by decide)) (fun _ => ?_)
                refine ae_goto (q := 116) dX7_ready_100 (by decide) ?_
                obtain ⟨x57, e57⟩ : ∃ z, y49_3 + Int32.ofInt 1 = z := ⟨_, rfl⟩
                have f57 : x57.toInt = y49_3.toInt + 1 := by rw [← e57]; exact i_add rfl (by decide) (by omega) (by omega)
                refine ae_iinc (v := x57) (lv' := [(3, .int x57), (4, .int 0), (0, .ref 288), (1, .int a1), (2, .int a2)]) (q := 119) dX7_ready_116 rfl e57 (by decide) rfl rfl ?_
                refine ae_goto (q := 62) dX7_ready_119 (by decide) ?_
                exact ae_lv (lv' := [(3, .int x57), (0, .ref 288), (1, .int a1), (2, .int a2)]) ⟨rfl, rfl, rfl, rfl, trivial⟩ (ih49 (n49 - 1) (by omega) x57 _ h (by omega) (by omega) (by omega) (by omega))
              · have c56 := i_ne (a := x55.toInt) (b := 0) rfl (by decide) c56
                refine ae_iconst (v := 1) (q := 89) dX7_ready_88 (by decide) rfl ?_
                refine ae_goto (q := 93) dX7_ready_89 (by decide) ?_
                refine ae_istore (lv' := [(4, .int 1), (3, .int y49_3), (0, .ref 288), (1, .int a1), (2, .int a2)]) (q := 95) dX7_ready_93 (by decide) rfl rfl ?_
                refine ae_iload (q := 97) dX7_ready_95 rfl rfl ?_
                refine ae_if_ne (t := 103) (q := 100) dX7_ready_97 (by decide) rfl (fun _ => ?_) (fun h => absurd h (by decide))
                refine ae_aload_n (q := 104) dX7_ready_103 rfl rfl rfl ?_
                refine ae_getR (q := 107) dX7_ready_104 fl_X7_37 rfl (h.s l288 t288) (h.l l288) (h.mr (k := 9) (b := 298) (by decide) rfl) rfl ?_
                refine ae_iload_n (q := 108) dX7_ready_107 rfl rfl rfl ?_
                refine ae_iconst (v := 0) (q := 109) dX7_ready_108 (by decide) rfl ?_
                refine ae_iast (q := 110) dX7_ready_109 (h.s l298 t298) (h.l l298) (vin (by omega) (by omega)) rfl ?_
                refine ae_gen (fun G58 g58 => ?_)
                have h : jm N B 320 G58 := by rw [g58]; exact h.w t298 (by decide) (by decide) (by decide) (mk_inr (lo := 0) (hi := 4) (by decide) (by decide))
                have q58 : dl G58 = dl K49 := by rw [g58]; exact dl_ne (by decide) (by decide) (by decide) (fun q => absurd q.1 (by decide))
                refine ae_aload_n (q := 111) dX7_ready_110 rfl rfl rfl ?_
                refine ae_iload_n (q := 112) dX7_ready_111 rfl rfl rfl ?_
                refine ae_iload_n (q := 113) dX7_ready_112 rfl rfl rfl ?_
                obtain ⟨x59, e59, u59, v59⟩ := rdi (h.i l316 t316 (k := a1.toNatClampNeg) (p := (0, 48)) rfl)
                have m61 : am_gi G58 288 30 = x50 := by rw [g58]; exact gi_si e50 (fun q => absurd q.1 (by decide))
                have m62 : am_gi G58 292 y49_3.toNatClampNeg = x52 := by rw [g58]; exact gi_si e52 (fun q => absurd q.1 (by decide))
                have wk60 : y49_3.toNatClampNeg < (am_gi G58 288 30).toNatClampNeg := by rw [m61]; exact nlt_of (by omega) (by omega)
                have wl60 : 2 ≤ (am_gi G58 292 y49_3.toNatClampNeg).toInt := by rw [m62]; omega
                have wq60 : x59.toInt ≤ 47 := by rw [← e59]; exact h.room2 (ixn (by omega) (by omega)) (by omega) wk60 wl60
                refine ae_callV (ci := 7) (as := [.int a1, .int y49_3]) (b := 288) (st := []) (q := 116) dX7_ready_113 (c_X7_push (N := N) (d := d + 1) h (by omega) (by omega) (by omega) (by omega) (xq := x59) e59 (by omega) (by omega)) myX7_push lk_X7_152 im_X7_push se_X7_push rfl (by decide) (h.s l288 t288) (h.l l288) rfl rfl (Nat.le_of_ble_eq_true rfl) rfl (fun o H1 hh => ⟨_, hh.1⟩) (fun vv G63 hv => ?_)
                obtain ⟨o63, z63⟩ := hv
                cases o63
                obtain ⟨z63, w63⟩ := z63
                refine ⟨Or.inl (z63.nx.trans h.nx.symm), ?_⟩
                have h : jm N B 320 G63 := z63
                clear z63
                obtain ⟨wa63, wr63, q63, qp63⟩ := w63
                have q63 := qp63 wk60 wl60
                clear qp63
                obtain ⟨x64, e64⟩ : ∃ z, y49_3 + Int32.ofInt 1 = z := ⟨_, rfl⟩
                have f64 : x64.toInt = y49_3.toInt + 1 := by rw [← e64]; exact i_add rfl (by decide) (by omega) (by omega)
                refine ae_iinc (v := x64) (lv' := [(3, .int x64), (4, .int 1), (0, .ref 288), (1, .int a1), (2, .int a2)]) (q := 119) dX7_ready_116 rfl e64 (by decide) rfl rfl ?_
                refine ae_goto (q := 62) dX7_ready_119 (by decide) ?_
                exact ae_lv (lv' := [(3, .int x64), (0, .ref 288), (1, .int a1), (2, .int a2)]) ⟨rfl, rfl, rfl, rfl, trivial⟩ (ih49 (n49 - 1) (by omega) x64 _ h (by omega) (by omega) (by omega) (by omega))
      exact ae_lv (lv' := [(3, .int 0), (0, .ref 288), (1, .int a1), (2, .int a2)]) ⟨rfl, rfl, rfl, rfl, trivial⟩ (lab62 48 0 _ h (by decide) (by decide) (show 48 - (0 : Int32).toInt ≤ _ from by rw [show (0 : Int32).toInt = 0 from by decide]; omega) (by omega))
set_option maxRecDepth 100000 in
set_option maxHeartbeats 4000000 in
theorem c_X7_take {ox : List (Nat × (Nat → Int32))} {d N : Nat} {B H : am_H} {a1 : Int32}  (h : jm N B 320 H) (u_1 : 0 ≤ a1.toInt) (v_1 : a1.toInt ≤ 2) : am_DB 0 ox d yX7_take mX7_take [.ref 288, .int a1] H (fun o H1 => (∃ v : Int32, o = .inl (some (.int v)) ∧ (-1) ≤ v.toInt ∧ v.toInt ≤ 47 ∧ (v.toInt < 0 ∧ dl H ≤ dl H1 ∨ dl H + 1 ≤ dl H1)) ∧ jm N B 320 H1 ∧ am_gi H1 315 = am_gi H 315) := by
  refine ae_enter rfl rfl rfl rfl (Nat.le_of_ble_eq_true rfl) ?_
  show am_EB 0 ox d mX7_take 0 [(0, .ref 288), (1, .int a1)] [] H _
  have hd : am_gi H 315 = am_gi H 315 := rfl
  refine ae_aload_n (q := 1) dX7_take_0 rfl rfl rfl ?_
  refine ae_getR (q := 4) dX7_take_1 fl_X7_92 rfl (h.s l288 t288) (h.l l288) (h.mr (k := 27) (b := 316) (by decide) rfl) rfl ?_
  refine ae_iload_n (q := 5) dX7_take_4 rfl rfl rfl ?_
  refine ae_iald (q := 6) dX7_take_5 (h.s l316 t316) (h.l l316) (vin (by omega) (by omega)) rfl ?_
  obtain ⟨x1, e1, u1, v1⟩ := rdi (h.i l316 t316 (k := a1.toNatClampNeg) (p := (0, 48)) rfl)
  refine ae_eqi e1 ?_
  refine ae_if_le (t := 36) (q := 9) dX7_take_6 (by decide) rfl (fun c2 => ?_) (fun c2 => ?_)
  · have c2 := i_le (a := x1.toInt) (b := 0) rfl (by decide) c2
    refine ae_iconst (v := 1) (q := 37) dX7_take_36 (by decide) rfl ?_
    refine ae_istore_n (lv' := [(2, .int 1), (0, .ref 288), (1, .int a1)]) (q := 38) dX7_take_37 rfl (by decide) rfl rfl ?_
    have lab38 : ∀ (n3 : Nat) (y3_2 : Int32), 1 ≤ y3_2.toInt → y3_2.toInt ≤ 3 → 3 - y3_2.toInt ≤ (n3 : Int) → am_EB 0 ox d mX7_take 38 [(2, .int y3_2), (0, .ref 288), (1, .int a1)] [] H (fun o H1 => (∃ v : Int32, o = .inl (some (.int v)) ∧ (-1) ≤ v.toInt ∧ v.toInt ≤ 47 ∧ (v.toInt < 0 ∧ dl H ≤ dl H1 ∨ dl H + 1 ≤ dl H1)) ∧ jm N B 320 H1 ∧ am_gi H1 315 = am_gi H 315) := by
      intro n3
      induction n3 using Nat.strongRecOn with
      | ind n3 ih3 =>
        intro y3_2 p3_2 q3_2 mm3
        refine ae_iload_n (q := 39) dX7_take_38 rfl rfl rfl ?_
        refine ae_aload_n (q := 40) dX7_take_39 rfl rfl rfl ?_
        refine ae_getI (q := 43) dX7_take_40 fl_X7_138 rfl (h.s l288 t288) (h.l l288) rfl ?_
        obtain ⟨x4, e4, u4, v4⟩ := rdi (h.i l288 t288 (k := 31) (p := (0, 3)) rfl)
        refine ae_eqi e4 ?_
        refine ae_icmp_ge (t := 153) (q := 46) dX7_take_43 (by decide) rfl (fun c5 => ?_) (fun c5 => ?_)
        · have c5 := i_le (a := x4.toInt) (b := y3_2.toInt) rfl rfl c5
          refine ae_iconst (v := (-1)) (q := 154) dX7_take_153 (by decide) rfl ?_
          refine ae_iret dX7_take_154 rfl rfl ?_
          exact ⟨⟨_, rfl, (by decide), (by decide), (Or.inl ⟨by decide, by omega⟩)⟩, ⟨h, hd⟩⟩
        · have c5 := i_nle (a := x4.toInt) (b := y3_2.toInt) rfl rfl c5
          refine ae_iload_n (q := 47) dX7_take_46 rfl rfl rfl ?_
          refine ae_iload_n (q := 48) dX7_take_47 rfl rfl rfl ?_
          refine ae_iadd (q := 49) dX7_take_48 rfl ?_
          obtain ⟨x6, e6⟩ : ∃ z, a1 + y3_2 = z := ⟨_, rfl⟩
          refine ae_eqi e6 ?_
          have f6 : x6.toInt = a1.toInt + y3_2.toInt := by rw [← e6]; exact i_add rfl rfl (by omega) (by omega)
          refine ae_aload_n (q := 50) dX7_take_49 rfl rfl rfl ?_
          refine ae_getI (q := 53) dX7_take_50 fl_X7_138 rfl (h.s l288 t288) (h.l l288) rfl ?_
          refine ae_eqi e4 ?_
          refine ae_irem (q := 54) dX7_take_53 (fun q0 => by have q1 := i_eq (a := x4.toInt) (b := 0) rfl (by decide) q0; omega) rfl ?_
          obtain ⟨x7, e7⟩ : ∃ z, x6 - x6 / x4 * x4 = z := ⟨_, rfl⟩
          refine ae_eqi e7 ?_
          have f7 : x7.toInt = x6.toInt % x4.toInt ∧ 0 ≤ x6.toInt % x4.toInt ∧ x6.toInt % x4.toInt < x4.toInt := by rw [← e7]; exact i_rem rfl rfl (by omega) (by omega)
          obtain ⟨f7, g7, k7⟩ := f7
          have a7 : 0 ≤ x7.toInt := by rw [f7]; exact g7
          have b7 : x7.toInt < x4.toInt := by rw [f7]; exact k7
          clear g7 k7 f7
          refine ae_istore_n (lv' := [(3, .int x7), (2, .int y3_2), (0, .ref 288), (1, .int a1)]) (q := 55) dX7_take_54 rfl (by decide) rfl rfl ?_
          refine ae_aload_n (q := 56) dX7_take_55 rfl rfl rfl ?_
          refine ae_getR (q := 59) dX7_take_56 fl_X7_92 rfl (h.s l288 t288) (h.l l288) (h.mr (k := 27) (b := 316) (by decide) rfl) rfl ?_
          refine ae_iload_n (q := 60) dX7_take_59 rfl rfl rfl ?_
          refine ae_iald (q := 61) dX7_take_60 (h.s l316 t316) (h.l l316) (vin (by omega) (by omega)) rfl ?_
          obtain ⟨x8, e8, u8, v8⟩ := rdi (h.i l316 t316 (k := x7.toNatClampNeg) (p := (0, 48)) rfl)
          refine ae_eqi e8 ?_
          refine ae_if_ne (t := 67) (q := 64) dX7_take_61 (by decide) rfl (fun c9 => ?_) (fun c9 => ?_)
          · have c9 := i_ne (a := x8.toInt) (b := 0) rfl (by decide) c9
            refine ae_aload_n (q := 68) dX7_take_67 rfl rfl rfl ?_
            refine ae_getR (q := 71) dX7_take_68 fl_X7_95 rfl (h.s l288 t288) (h.l l288) (h.mr (k := 28) (b := 317) (by decide) rfl) rfl ?_
            refine ae_bipush (v := 48) (q := 73) dX7_take_71 (by decide) rfl ?_
            refine ae_iload_n (q := 74) dX7_take_73 rfl rfl rfl ?_
            refine ae_imul (q := 75) dX7_take_74 rfl ?_
            obtain ⟨x10, e10⟩ : ∃ z, 48 * x7 = z := ⟨_, rfl⟩
            refine ae_eqi e10 ?_
            have f10 : x10.toInt = 48 * x7.toInt := by rw [← e10]; exact i_mul (by decide) rfl (by omega) (by omega)
            refine ae_iald (q := 76) dX7_take_75 (h.s l317 t317) (h.l l317) (vin (by omega) (by omega)) rfl ?_
            obtain ⟨x11, e11, u11, v11⟩ := rdi (h.i l317 t317 (k := x10.toNatClampNeg) (p := (0, 47)) rfl)
            refine ae_eqi e11 ?_
            refine ae_istore (lv' := [(4, .int x11), (3, .int x7), (2, .int y3_2), (0, .ref 288), (1, .int a1)]) (q := 78) dX7_take_76 (by decide) rfl rfl ?_
            refine ae_aload_n (q := 79) dX7_take_78 rfl rfl rfl ?_
            refine ae_getR (q := 82) dX7_take_79 fl_X7_92 rfl (h.s l288 t288) (h.l l288) (h.mr (k := 27) (b := 316) (by decide) rfl) rfl ?_
            refine ae_iload_n (q := 83) dX7_take_82 rfl rfl rfl ?_
            refine ae_dup2 (q := 84) dX7_take_83 rfl rfl rfl ?_
            refine ae_iald (q := 85) dX7_take_84 (h.s l316 t316) (h.l l316) (vin (by omega) (by omega)) rfl ?_
            refine ae_eqi e8 ?_
            refine ae_iconst (v := 1) (q := 86) dX7_take_85 (by decide) rfl ?_
            refine ae_isub (q := 87) dX7_take_86 rfl ?_
            obtain ⟨x12, e12⟩ : ∃ z, x8 - 1 = z := ⟨_, rfl⟩
            refine ae_eqi e12 ?_
            have f12 : x12.toInt = x8.toInt - 1 := by rw [← e12]; exact i_sub rfl (by decide) (by omega) (by omega)
            refine ae_iast (q := 88) dX7_take_87 (h.s l316 t316) (h.l l316) (vin (by omega) (by omega)) rfl ?_
            refine ae_gen (fun G13 g13 => ?_)
            have h : jm N B 320 G13 := by rw [g13]; exact h.w t316 (by decide) (by decide) (by decide) (mk_inr (lo := 0) (hi := 48) (by omega) (by omega))
            have hd : am_gi G13 315 = am_gi H 315 := by rw [g13]; exact (gi_rowne (by decide)).trans hd
            have q13 : dl G13 = dl H + x8.toInt - x12.toInt := by rw [g13, ← e8]; exact dl_queued (ixn (by omega) (by omega))
            refine ae_iconst (v := 0) (q := 89) dX7_take_88 (by decide) rfl ?_
            refine ae_istore (lv' := [(5, .int 0), (4, .int x11), (3, .int x7), (2, .int y3_2), (0, .ref 288), (1, .int a1)]) (q := 91) dX7_take_89 (by decide) rfl rfl ?_
            have lab91 : ∀ (n14 : Nat) (y14_5 : Int32) (K14 : am_H), jm N B 320 K14 → 0 ≤ y14_5.toInt → y14_5.toInt ≤ 48 → 48 - y14_5.toInt ≤ (n14 : Int) → am_gi K14 315 = am_gi H 315 → am_gi K14 316 = am_gi G13 316 → dl H + 1 ≤ dl K14 → am_EB 0 ox d mX7_take 91 [(5, .int y14_5), (4, .int x11), (3, .int x7), (2, .int y3_2), (0, .ref 288), (1, .int a1)] [] K14 (fun o H1 => (∃ v : Int32, o = .inl (some (.int v)) ∧ (-1) ≤ v.toInt ∧ v.toInt ≤ 47 ∧ (v.toInt < 0 ∧ dl H ≤ dl H1 ∨ dl H + 1 ≤ dl H1)) ∧ jm N B 320 H1 ∧ am_gi H1 315 = am_gi H 315) := by
              intro n14
              induction n14 using Nat.strongRecOn with
              | ind n14 ih14 =>
                intro y14_5 K14 h p14_5 q14_5 mm14 ha14 hb14 hc14
                have hd := ha14
                refine ae_iload (q := 93) dX7_take_91 rfl rfl ?_
                refine ae_aload_n (q := 94) dX7_take_93 rfl rfl rfl ?_
                refine ae_getR (q := 97) dX7_take_94 fl_X7_92 rfl (h.s l288 t288) (h.l l288) (h.mr (k := 27) (b := 316) (by decide) rfl) rfl ?_
                refine ae_iload_n (q := 98) dX7_take_97 rfl rfl rfl ?_
                refine ae_iald (q := 99) dX7_take_98 (h.s l316 t316) (h.l l316) (vin (by omega) (by omega)) rfl ?_
                have m15 : am_gi K14 316 x7.toNatClampNeg = x12 := (congrFun hb14 x7.toNatClampNeg).trans (show am_gi G13 316 x7.toNatClampNeg = x12 by rw [g13]; exact gi_set)
                refine ae_eqi m15 ?_
                refine ae_icmp_ge (t := 134) (q := 102) dX7_take_99 (by decide) rfl (fun c16 => ?_) (fun c16 => ?_)
                · have c16 := i_le (a := x12.toInt) (b := y14_5.toInt) rfl rfl c16
                  refine ae_aload_n (q := 135) dX7_take_134 rfl rfl rfl ?_
                  refine ae_dup (q := 136) dX7_take_135 rfl rfl ?_
                  refine ae_getI (q := 139) dX7_take_136 fl_X7_132 rfl (h.s l288 t288) (h.l l288) rfl ?_
                  obtain ⟨x17, e17⟩ : ∃ x, am_gi K14 288 35 = x := ⟨_, rfl⟩
                  refine ae_eqi e17 ?_
                  refine ae_iconst (v := 1) (q := 140) dX7_take_139 (by decide) rfl ?_
                  refine ae_iadd (q := 141) dX7_take_140 rfl ?_
                  obtain ⟨x18, e18⟩ : ∃ z, x17 + 1 = z := ⟨_, rfl⟩
                  refine ae_eqi e18 ?_
                  refine ae_putI (q := 144) dX7_take_141 fl_X7_132 rfl rfl rfl (h.s l288 t288) (h.l l288) rfl ?_
                  refine ae_gen (fun G19 g19 => ?_)
                  have h : jm N B 320 G19 := by rw [g19]; exact h.w t288 (by decide) (by decide) (by decide) inr_any
                  have hd : am_gi G19 315 = am_gi H 315 := by rw [g19]; exact (gi_rowne (by decide)).trans hd
                  have q19 : dl G19 = dl K14 := by rw [g19]; exact dl_ne (by decide) (by decide) (by decide) (fun q => absurd q.2 (by decide))
                  refine ae_iload (q := 146) dX7_take_144 rfl rfl ?_
                  refine ae_iret dX7_take_146 rfl rfl ?_
                  exact ⟨⟨_, rfl, (by omega), (by omega), (by omega)⟩, ⟨h, hd⟩⟩
                · have c16 := i_nle (a := x12.toInt) (b := y14_5.toInt) rfl rfl c16
                  refine ae_aload_n (q := 103) dX7_take_102 rfl rfl rfl ?_
                  refine ae_getR (q := 106) dX7_take_103 fl_X7_95 rfl (h.s l288 t288) (h.l l288) (h.mr (k := 28) (b := 317) (by decide) rfl) rfl ?_
                  refine ae_bipush (v := 48) (q := 108) dX7_take_106 (by decide) rfl ?_
                  refine ae_iload_n (q := 109) dX7_take_108 rfl rfl rfl ?_
                  refine ae_imul (q := 110) dX7_take_109 rfl ?_
                  refine ae_eqi e10 ?_
                  refine ae_iload (q := 112) dX7_take_110 rfl rfl ?_
                  refine ae_iadd (q := 113) dX7_take_112 rfl ?_
                  obtain ⟨x20, e20⟩ : ∃ z, x10 + y14_5 = z := ⟨_, rfl⟩
                  refine ae_eqi e20 ?_
                  have f20 : x20.toInt = x10.toInt + y14_5.toInt := by rw [← e20]; exact i_add rfl rfl (by omega) (by omega)
                  refine ae_aload_n (q := 114) dX7_take_113 rfl rfl rfl ?_
                  refine ae_getR (q := 117) dX7_take_114 fl_X7_95 rfl (h.s l288 t288) (h.l l288) (h.mr (k := 28) (b := 317) (by decide) rfl) rfl ?_
                  refine ae_bipush (v := 48) (q := 119) dX7_take_117 (by decide) rfl ?_
                  refine ae_iload_n (q := 120) dX7_take_119 rfl rfl rfl ?_
                  refine ae_imul (q := 121) dX7_take_120 rfl ?_
                  refine ae_eqi e10 ?_
                  refine ae_iload (q := 123) dX7_take_121 rfl rfl ?_
                  refine ae_iadd (q := 124) dX7_take_123 rfl ?_
                  refine ae_eqi e20 ?_
                  refine ae_iconst (v := 1) (q := 125) dX7_take_124 (by decide) rfl ?_
                  refine ae_iadd (q := 126) dX7_take_125 rfl ?_
                  obtain ⟨x21, e21⟩ : ∃ z, x20 + 1 = z := ⟨_, rfl⟩
                  refine ae_eqi e21 ?_
                  have f21 : x21.toInt = x20.toInt + 1 := by rw [← e21]; exact i_add rfl (by decide) (by omega) (by omega)
                  refine ae_iald (q := 127) dX7_take_126 (h.s l317 t317) (h.l l317) (vin (by omega) (by omega)) rfl ?_
                  obtain ⟨x22, e22, u22, v22⟩ := rdi (h.i l317 t317 (k := x21.toNatClampNeg) (p := (0, 47)) rfl)
                  refine ae_eqi e22 ?_
                  refine ae_iast (q := 128) dX7_take_127 (h.s l317 t317) (h.l l317) (vin (by omega) (by omega)) rfl ?_
                  refine ae_gen (fun G23 g23 => ?_)
                  have h : jm N B 320 G23 := by rw [g23]; exact h.w t317 (by decide) (by decide) (by decide) (mk_inr (lo := 0) (hi := 47) (by omega) (by omega))
                  have hd : am_gi G23 315 = am_gi H 315 := by rw [g23]; exact (gi_rowne (by decide)).trans hd
                  have q23 : dl G23 = dl K14 := by rw [g23]; exact dl_ne (by decide) (by decide) (by decide) (fun q => absurd q.1 (by decide))
                  obtain ⟨x24, e24⟩ : ∃ z, y14_5 + Int32.ofInt 1 = z := ⟨_, rfl⟩
                  have f24 : x24.toInt = y14_5.toInt + 1 := by rw [← e24]; exact i_add rfl (by decide) (by omega) (by omega)
                  refine ae_iinc (v := x24) (lv' := [(5, .int x24), (4, .int x11), (3, .int x7), (2, .int y3_2), (0, .ref 288), (1, .int a1)]) (q := 131) dX7_take_128 rfl e24 (by decide) rfl rfl ?_
                  refine ae_goto (q := 91) dX7_take_131 (by decide) ?_
                  exact ae_lv (lv' := [(5, .int x24), (4, .int x11), (3, .int x7), (2, .int y3_2), (0, .ref 288), (1, .int a1)]) ⟨rfl, rfl, rfl, rfl, rfl, rfl, trivial⟩ (ih14 (n14 - 1) (by omega) x24 _ h (by omega) (by omega) (by omega) hd (by rw [g23]; exact (gi_rowne (by decide)).trans hb14) (by omega))
            exact ae_lv (lv' := [(5, .int 0), (4, .int x11), (3, .int x7), (2, .int y3_2), (0, .ref 288), (1, .int a1)]) ⟨rfl, rfl, rfl, rfl, rfl, rfl, trivial⟩ (lab91 48 0 _ h (by decide) (by decide) (show 48 - (0 : Int32).toInt ≤ _ from by rw [show (0 : Int32).toInt = 0 from by decide]; omega) hd rfl (by omega))
          · have c9 := i_eq (a := x8.toInt) (b := 0) rfl (by decide) c9
            refine ae_goto (q := 147) dX7_take_64 (by decide) ?_
            obtain ⟨x25, e25⟩ : ∃ z, y3_2 + Int32.ofInt 1 = z := ⟨_, rfl⟩
            have f25 : x25.toInt = y3_2.toInt + 1 := by rw [← e25]; exact i_add rfl (by decide) (by omega) (by omega)
            refine ae_iinc (v := x25) (lv' := [(2, .int x25), (3, .int x7), (0, .ref 288), (1, .int a1)]) (q := 150) dX7_take_147 rfl e25 (by decide) rfl rfl ?_
            refine ae_goto (q := 38) dX7_take_150 (by decide) ?_
            exact ae_lv (lv' := [(2, .int x25), (0, .ref 288), (1, .int a1)]) ⟨rfl, rfl, rfl, trivial⟩ (ih3 (n3 - 1) (by omega) x25 (by omega) (by omega) (by omega))
    exact ae_lv (lv' := [(2, .int 1), (0, .ref 288), (1, .int a1)]) ⟨rfl, rfl, rfl, trivial⟩ (lab38 3 1 (by decide) (by decide) (show 3 - (1 : Int32).toInt ≤ _ from by rw [show (1 : Int32).toInt = 1 from by decide]; omega))
  · have c2 := i_nle (a := x1.toInt) (b := 0) rfl (by decide) c2
    refine ae_aload_n (q := 10) dX7_take_9 rfl rfl rfl ?_
    refine ae_getR (q := 13) dX7_take_10 fl_X7_92 rfl (h.s l288 t288) (h.l l288) (h.mr (k := 27) (b := 316) (by decide) rfl) rfl ?_
    refine ae_iload_n (q := 14) dX7_take_13 rfl rfl rfl ?_
    refine ae_dup2 (q := 15) dX7_take_14 rfl rfl rfl ?_
    refine ae_iald (q := 16) dX7_take_15 (h.s l316 t316) (h.l l316) (vin (by omega) (by omega)) rfl ?_
    refine ae_eqi e1 ?_
    refine ae_iconst (v := 1) (q := 17) dX7_take_16 (by decide) rfl ?_
    refine ae_isub (q := 18) dX7_take_17 rfl ?_
    obtain ⟨x26, e26⟩ : ∃ z, x1 - 1 = z := ⟨_, rfl⟩
    refine ae_eqi e26 ?_
    have f26 : x26.toInt = x1.toInt - 1 := by rw [← e26]; exact i_sub rfl (by decide) (by omega) (by omega)
    refine ae_iast (q := 19) dX7_take_18 (h.s l316 t316) (h.l l316) (vin (by omega) (by omega)) rfl ?_
    refine ae_gen (fun G27 g27 => ?_)
    have h : jm N B 320 G27 := by rw [g27]; exact h.w t316 (by decide) (by decide) (by decide) (mk_inr (lo := 0) (hi := 48) (by omega) (by omega))
    have hd : am_gi G27 315 = am_gi H 315 := by rw [g27]; exact (gi_rowne (by decide)).trans hd
    have q27 : dl G27 = dl H + x1.toInt - x26.toInt := by rw [g27, ← e1]; exact dl_queued (ixn (by omega) (by omega))
    refine ae_aload_n (q := 20) dX7_take_19 rfl rfl rfl ?_
    refine ae_getR (q := 23) dX7_take_20 fl_X7_95 rfl (h.s l288 t288) (h.l l288) (h.mr (k := 28) (b := 317) (by decide) rfl) rfl ?_
    refine ae_bipush (v := 48) (q := 25) dX7_take_23 (by decide) rfl ?_
    refine ae_iload_n (q := 26) dX7_take_25 rfl rfl rfl ?_
    refine ae_imul (q := 27) dX7_take_26 rfl ?_
    obtain ⟨x28, e28⟩ : ∃ z, 48 * a1 = z := ⟨_, rfl⟩
    refine ae_eqi e28 ?_
    have f28 : x28.toInt = 48 * a1.toInt := by rw [← e28]; exact i_mul (by decide) rfl (by omega) (by omega)
    refine ae_aload_n (q := 28) dX7_take_27 rfl rfl rfl ?_
    refine ae_getR (q := 31) dX7_take_28 fl_X7_92 rfl (h.s l288 t288) (h.l l288) (h.mr (k := 27) (b := 316) (by decide) rfl) rfl ?_
    refine ae_iload_n (q := 32) dX7_take_31 rfl rfl rfl ?_
    refine ae_iald (q := 33) dX7_take_32 (h.s l316 t316) (h.l l316) (vin (by omega) (by omega)) rfl ?_
    refine ae_eqi (show am_gi G27 316 a1.toNatClampNeg = x26 by rw [g27]; exact gi_set) ?_
    refine ae_iadd (q := 34) dX7_take_33 rfl ?_
    obtain ⟨x29, e29⟩ : ∃ z, x28 + x26 = z := ⟨_, rfl⟩
    refine ae_eqi e29 ?_
    have f29 : x29.toInt = x28.toInt + x26.toInt := by rw [← e29]; exact i_add rfl rfl (by omega) (by omega)
    refine ae_iald (q := 35) dX7_take_34 (h.s l317 t317) (h.l l317) (vin (by omega) (by omega)) rfl ?_
    obtain ⟨x30, e30, u30, v30⟩ := rdi (h.i l317 t317 (k := x29.toNatClampNeg) (p := (0, 47)) rfl)
    refine ae_eqi e30 ?_
    refine ae_iret dX7_take_35 rfl rfl ?_
    exact ⟨⟨_, rfl, (by omega), (by omega), (by omega)⟩, ⟨h, hd⟩⟩
set_option maxRecDepth 100000 in
set_option maxHeartbeats 4000000 in
theorem c_X7_work {ox : List (Nat × (Nat → Int32))} {d N : Nat} {B H : am_H} {a1 : Int32} (hR : R3 B) (hN : N + 2 ≤ 1000000) (h : jm N B 320 H) (u_1 : 0 ≤ a1.toInt) (v_1 : a1.toInt ≤ 2) (hq : 0 ≤ dl H) : am_DB 0 ox (d + 5) yX7_work mX7_work [.ref 288, .int a1] H (fun o H1 => o = .inl none ∧ jm (N + 2) B 320 H1 ∧ 0 ≤ dl H1) := by
  refine ae_enter rfl rfl rfl rfl (Nat.le_of_ble_eq_true rfl) ?_
  show am_EB 0 ox (d + 5) mX7_work 0 [(0, .ref 288), (1, .int a1)] [] H _
  refine ae_aload_n (q := 1) dX7_work_0 rfl rfl rfl ?_
  refine ae_getR (q := 4) dX7_work_1 fl_X7_89 rfl (h.s l288 t288) (h.l l288) (h.mr (k := 26) (b := 315) (by decide) rfl) rfl ?_
  refine ae_iload_n (q := 5) dX7_work_4 rfl rfl rfl ?_
  refine ae_iald (q := 6) dX7_work_5 (h.s l315 t315) (h.l l315) (vin (by omega) (by omega)) rfl ?_
  obtain ⟨x1, e1, u1, v1⟩ := rdi (h.i l315 t315 (k := a1.toNatClampNeg) (p := ((-1), 47)) rfl)
  refine ae_eqi e1 ?_
  refine ae_istore_n (lv' := [(2, .int x1), (0, .ref 288), (1, .int a1)]) (q := 7) dX7_work_6 rfl (by decide) rfl rfl ?_
  refine ae_iload_n (q := 8) dX7_work_7 rfl rfl rfl ?_
  refine ae_if_ge (t := 36) (q := 11) dX7_work_8 (by decide) rfl (fun c2 => ?_) (fun c2 => ?_)
  · have c2 := i_le (a := 0) (b := x1.toInt) (by decide) rfl c2
    refine ae_aload_n (q := 37) dX7_work_36 rfl rfl rfl ?_
    refine ae_iload_n (q := 38) dX7_work_37 rfl rfl rfl ?_
    refine ae_callV (ci := 7) (as := [.int x1]) (b := 288) (st := []) (q := 41) dX7_work_38 (c_X7_step (N := N) (d := d) hR (by omega) h (by omega) (by omega)) myX7_step lk_X7_209 im_X7_step se_X7_step rfl (by decide) (h.s l288 t288) (h.l l288) rfl rfl (Nat.le_of_ble_eq_true rfl) rfl (fun o H1 hh => ⟨_, hh.1⟩) (fun vv G3 hv => ?_)
    obtain ⟨o3, z3⟩ := hv
    cases o3
    obtain ⟨z3, w3⟩ := z3
    refine ⟨Or.inl (z3.nx.trans h.nx.symm), ?_⟩
    have h : jm (N + 2) B 320 G3 := z3
    clear z3
    obtain ⟨wa3, q3⟩ := w3
    obtain ⟨x4, e4, u4, v4⟩ := rdi (h.i l288 t288 (k := 38) (p := ((-1), 47)) rfl)
    obtain ⟨x5, e5, u5, v5⟩ := rdi (h.i l292 t292 (k := x1.toNatClampNeg) (p := (0, 3)) rfl)
    rw [e4, e5] at q3
    refine ae_aload_n (q := 42) dX7_work_41 rfl rfl rfl ?_
    refine ae_getR (q := 45) dX7_work_42 fl_X7_19 rfl (h.s l288 t288) (h.l l288) (h.mr (k := 3) (b := 292) (by decide) rfl) rfl ?_
    refine ae_iload_n (q := 46) dX7_work_45 rfl rfl rfl ?_
    refine ae_iald (q := 47) dX7_work_46 (h.s l292 t292) (h.l l292) (vin (by omega) (by omega)) rfl ?_
    refine ae_eqi e5 ?_
    refine ae_iconst (v := 1) (q := 48) dX7_work_47 (by decide) rfl ?_
    refine ae_icmp_eq (t := 58) (q := 51) dX7_work_48 (by decide) rfl (fun c6 => ?_) (fun c6 => ?_)
    · have c6 := i_eq (a := x5.toInt) (b := 1) rfl (by decide) c6
      refine ae_aload_n (q := 59) dX7_work_58 rfl rfl rfl ?_
      refine ae_iload_n (q := 60) dX7_work_59 rfl rfl rfl ?_
      refine ae_iload_n (q := 61) dX7_work_60 rfl rfl rfl ?_
      have m7 : am_gi G3 315 a1.toNatClampNeg = x1 := (congrFun wa3 a1.toNatClampNeg).trans e1
      refine ae_callV (ci := 7) (as := [.int a1, .int x1]) (b := 288) (st := []) (q := 64) dX7_work_61 (c_X7_ready (N := (N + 2)) (d := d + 2) h (by omega) (by omega) (by omega) (by omega) (xf := x4) e4 (by omega) (by omega) (xw := x1) m7 (by omega) (by omega) (by omega)) myX7_ready lk_X7_212 im_X7_ready se_X7_ready rfl (by decide) (h.s l288 t288) (h.l l288) rfl rfl (Nat.le_of_ble_eq_true rfl) rfl (fun o H1 hh => ⟨_, hh.1⟩) (fun vv G8 hv => ?_)
      obtain ⟨o8, z8⟩ := hv
      cases o8
      obtain ⟨z8, w8⟩ := z8
      refine ⟨Or.inl (z8.nx.trans h.nx.symm), ?_⟩
      have h : jm (N + 2) B 320 G8 := z8
      clear z8
      refine ae_vret dX7_work_64 rfl ?_
      exact ⟨rfl, ⟨h, by omega⟩⟩
    · have c6 := i_ne (a := x5.toInt) (b := 1) rfl (by decide) c6
      refine ae_aload_n (q := 52) dX7_work_51 rfl rfl rfl ?_
      refine ae_getR (q := 55) dX7_work_52 fl_X7_89 rfl (h.s l288 t288) (h.l l288) (h.mr (k := 26) (b := 315) (by decide) rfl) rfl ?_
      refine ae_iload_n (q := 56) dX7_work_55 rfl rfl rfl ?_
      refine ae_iconst (v := (-1)) (q := 57) dX7_work_56 (by decide) rfl ?_
      refine ae_iast (q := 58) dX7_work_57 (h.s l315 t315) (h.l l315) (vin (by omega) (by omega)) rfl ?_
      have m9 : am_gi G3 315 a1.toNatClampNeg = x1 := (congrFun wa3 a1.toNatClampNeg).trans e1
      refine ae_gen (fun G10 g10 => ?_)
      have h : jm (N + 2) B 320 G10 := by rw [g10]; exact h.w t315 (by decide) (by decide) (by decide) (mk_inr (lo := (-1)) (hi := 47) (by decide) (by decide))
      have q10 : dl G10 = dl G3 + h1 x1 - h1 (-1) := by rw [g10, ← m9]; exact dl_hand (ixn (by omega) (by omega))
      have qa10 := h1_sp x1
      have qb10 : h1 (-1) = 0 := by decide
      refine ae_aload_n (q := 59) dX7_work_58 rfl rfl rfl ?_
      refine ae_iload_n (q := 60) dX7_work_59 rfl rfl rfl ?_
      refine ae_iload_n (q := 61) dX7_work_60 rfl rfl rfl ?_
      have m11 : am_gi G10 288 38 = x4 := by rw [g10]; exact gi_si e4 (fun q => absurd q.1 (by decide))
      refine ae_callV (ci := 7) (as := [.int a1, .int x1]) (b := 288) (st := []) (q := 64) dX7_work_61 (c_X7_ready (N := (N + 2)) (d := d + 2) h (by omega) (by omega) (by omega) (by omega) (xf := x4) m11 (by omega) (by omega) (xw := (-1)) (show am_gi G10 315 a1.toNatClampNeg = (-1) by rw [g10]; exact gi_set) (by decide) (by decide) (by omega)) myX7_ready lk_X7_212 im_X7_ready se_X7_ready rfl (by decide) (h.s l288 t288) (h.l l288) rfl rfl (Nat.le_of_ble_eq_true rfl) rfl (fun o H1 hh => ⟨_, hh.1⟩) (fun vv G12 hv => ?_)
      obtain ⟨o12, z12⟩ := hv
      cases o12
      obtain ⟨z12, w12⟩ := z12
      refine ⟨Or.inl (z12.nx.trans h.nx.symm), ?_⟩
      have h : jm (N + 2) B 320 G12 := z12
      clear z12
      refine ae_vret dX7_work_64 rfl ?_
      exact ⟨rfl, ⟨h, by omega⟩⟩
  · have c2 := i_nle (a := 0) (b := x1.toInt) (by decide) rfl c2
    refine ae_aload_n (q := 12) dX7_work_11 rfl rfl rfl ?_
    refine ae_iload_n (q := 13) dX7_work_12 rfl rfl rfl ?_
    refine ae_callV (ci := 7) (as := [.int a1]) (b := 288) (st := []) (q := 16) dX7_work_13 (c_X7_take (N := N) (d := d + 4) h (by omega) (by omega)) myX7_take lk_X7_206 im_X7_take se_X7_take rfl (by decide) (h.s l288 t288) (h.l l288) rfl rfl (Nat.le_of_ble_eq_true rfl) rfl (fun o H1 hh => ⟨_, hh.1.choose_spec.1⟩) (fun vv G13 hv => ?_)
    obtain ⟨⟨x13, o13, u13, v13, y13⟩, z13⟩ := hv
    cases o13
    obtain ⟨z13, w13⟩ := z13
    refine ⟨Or.inl (z13.nx.trans h.nx.symm), ?_⟩
    have h : jm N B 320 G13 := z13
    clear z13
    have wa13 := w13
    have q13 := y13
    refine ae_istore_n (lv' := [(2, .int x13), (0, .ref 288), (1, .int a1)]) (q := 17) dX7_work_16 rfl (by decide) rfl rfl ?_
    refine ae_aload_n (q := 18) dX7_work_17 rfl rfl rfl ?_
    refine ae_getR (q := 21) dX7_work_18 fl_X7_89 rfl (h.s l288 t288) (h.l l288) (h.mr (k := 26) (b := 315) (by decide) rfl) rfl ?_
    refine ae_iload_n (q := 22) dX7_work_21 rfl rfl rfl ?_
    refine ae_iload_n (q := 23) dX7_work_22 rfl rfl rfl ?_
    refine ae_iast (q := 24) dX7_work_23 (h.s l315 t315) (h.l l315) (vin (by omega) (by omega)) rfl ?_
    have m14 : am_gi G13 315 a1.toNatClampNeg = x1 := (congrFun wa13 a1.toNatClampNeg).trans e1
    refine ae_gen (fun G15 g15 => ?_)
    have h : jm N B 320 G15 := by rw [g15]; exact h.w t315 (by decide) (by decide) (by decide) (mk_inr (lo := (-1)) (hi := 47) (by omega) (by omega))
    have q15 : dl G15 = dl G13 + h1 x1 - h1 x13 := by rw [g15, ← m14]; exact dl_hand (ixn (by omega) (by omega))
    have qa15 := h1_sp x1
    have qb15 := h1_sp x13
    refine ae_iload_n (q := 25) dX7_work_24 rfl rfl rfl ?_
    refine ae_if_lt (t := 35) (q := 28) dX7_work_25 (by decide) rfl (fun c16 => ?_) (fun c16 => ?_)
    · have c16 := i_lt (a := x13.toInt) (b := 0) rfl (by decide) c16
      refine ae_vret dX7_work_35 rfl ?_
      exact ⟨rfl, ⟨(h.up (by omega)), by omega⟩⟩
    · have c16 := i_nlt (a := x13.toInt) (b := 0) rfl (by decide) c16
      refine ae_aload_n (q := 29) dX7_work_28 rfl rfl rfl ?_
      refine ae_getR (q := 32) dX7_work_29 fl_X7_19 rfl (h.s l288 t288) (h.l l288) (h.mr (k := 3) (b := 292) (by decide) rfl) rfl ?_
      refine ae_iload_n (q := 33) dX7_work_32 rfl rfl rfl ?_
      refine ae_iconst (v := 1) (q := 34) dX7_work_33 (by decide) rfl ?_
      refine ae_iast (q := 35) dX7_work_34 (h.s l292 t292) (h.l l292) (vin (by omega) (by omega)) rfl ?_
      refine ae_gen (fun G17 g17 => ?_)
      have h : jm N B 320 G17 := by rw [g17]; exact h.w t292 (by decide) (by decide) (by decide) (mk_inr (lo := 0) (hi := 3) (by decide) (by decide))
      have q17 : dl G15 ≤ dl G17 := by rw [g17]; exact dl_state0 (by decide)
      refine ae_vret dX7_work_35 rfl ?_
      exact ⟨rfl, ⟨(h.up (by omega)), by omega⟩⟩
