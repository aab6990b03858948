set_option maxRecDepth 100000 in
set_option maxHeartbeats 4000000 in
theorem c_X7_fail {ox : List (Nat × (Nat → Int32))} {d N : Nat} {B H : am_H} {a1 : Int32}  (h : jm N B 320 H)  : am_DB 0 ox d yX7_fail mX7_fail [.ref 288, .int a1] H (fun o H1 => (∃ v : Int32, o = .inl (some (.int v))) ∧ jm N B 320 H1 ∧ dl H1 = dl H ∧ am_gi H1 288 39 = am_gi H 288 39) := by
  refine ae_enter rfl rfl rfl rfl (Nat.le_of_ble_eq_true rfl) ?_
  show am_EB 0 ox d mX7_fail 0 [(0, .ref 288), (1, .int a1)] [] H _
  have hz : am_gi H 288 39 = am_gi H 288 39 := rfl
  refine ae_aload_n (q := 1) dX7_fail_0 rfl rfl rfl ?_
  refine ae_iload_n (q := 2) dX7_fail_1 rfl rfl rfl ?_
  refine ae_putI (q := 5) dX7_fail_2 fl_X7_101 rfl rfl rfl (h.s l288 t288) (h.l l288) rfl ?_
  refine ae_gen (fun G1 g1 => ?_)
  have h : jm N B 320 G1 := by rw [g1]; exact h.w t288 (by decide) (by decide) (by decide) inr_any
  have q1 : dl G1 = dl H := by rw [g1]; exact dl_ne (by decide) (by decide) (by decide) (fun q => absurd q.2 (by decide))
  have hz : am_gi G1 288 39 = am_gi H 288 39 := by rw [g1]; exact gi_si hz (fun q => absurd q.2 (by decide))
  refine ae_iconst (v := 0) (q := 6) dX7_fail_5 (by decide) rfl ?_
  refine ae_iret dX7_fail_6 rfl rfl ?_
  exact ⟨⟨_, rfl⟩, ⟨h, by omega, hz⟩⟩
set_option maxRecDepth 100000 in
set_option maxHeartbeats 4000000 in
theorem c_X7_result {ox : List (Nat × (Nat → Int32))} {d N : Nat} {B H : am_H}   (h : jm N B 320 H)  : am_DB 0 ox (d + 1) yX7_result mX7_result [.ref 288] H (fun o H1 => (∃ v : Int32, o = .inl (some (.int v))) ∧ jm N B 320 H1 ∧ dl H1 = dl H ∧ am_gi H1 288 39 = am_gi H 288 39) := by
  refine ae_enter rfl rfl rfl rfl (Nat.le_of_ble_eq_true rfl) ?_
  show am_EB 0 ox (d + 1) mX7_result 0 [(0, .ref 288)] [] H _
  have hz : am_gi H 288 39 = am_gi H 288 39 := rfl
  refine ae_aload_n (q := 1) dX7_result_0 rfl rfl rfl ?_
  refine ae_callV (ci := 7) (as := []) (b := 288) (st := []) (q := 4) dX7_result_1 (c_X7_isOver (N := N) (d := d) h) myX7_isOver lk_X7_215 im_X7_isOver se_X7_isOver rfl (by decide) (h.s l288 t288) (h.l l288) rfl rfl (Nat.le_of_ble_eq_true rfl) rfl (fun o H1 hh => ⟨_, hh.1.choose_spec.1⟩) (fun vv G1 hv => ?_)
  obtain ⟨⟨x1, o1, u1, v1⟩, z1⟩ := hv
  cases o1
  have z1 := z1.symm
  subst z1
  refine ⟨Or.inl rfl, ?_⟩
  refine ae_istore_n (lv' := [(1, .int x1), (0, .ref 288)]) (q := 5) dX7_result_4 rfl (by decide) rfl rfl ?_
  refine ae_iload_n (q := 6) dX7_result_5 rfl rfl rfl ?_
  refine ae_if_ne (t := 15) (q := 9) dX7_result_6 (by decide) rfl (fun c2 => ?_) (fun c2 => ?_)
  · have c2 := i_ne (a := x1.toInt) (b := 0) rfl (by decide) c2
    refine ae_aload_n (q := 16) dX7_result_15 rfl rfl rfl ?_
    refine ae_getR (q := 19) dX7_result_16 fl_X7_83 rfl (h.s l288 t288) (h.l l288) (h.mr (k := 24) (b := 313) (by decide) rfl) rfl ?_
    refine ae_sipush (v := 144) (q := 22) dX7_result_19 (by decide) rfl ?_
    refine ae_iald (q := 23) dX7_result_22 (h.s l313 t313) (h.l l313) (by unfold vp_in; decide) rfl ?_
    refine ae_eqi (show am_gi H 313 (144 : Int32).toNatClampNeg = am_gi H 313 144 from by rw [show (144 : Int32).toNatClampNeg = 144 from by decide]) ?_
    obtain ⟨x3, e3⟩ : ∃ x, am_gi H 313 144 = x := ⟨_, rfl⟩
    refine ae_eqi e3 ?_
    refine ae_if_le (t := 32) (q := 26) dX7_result_23 (by decide) rfl (fun c4 => ?_) (fun c4 => ?_)
    · have c4 := i_le (a := x3.toInt) (b := 0) rfl (by decide) c4
      refine ae_aload_n (q := 33) dX7_result_32 rfl rfl rfl ?_
      refine ae_iconst (v := 0) (q := 34) dX7_result_33 (by decide) rfl ?_
      refine ae_putI (q := 37) dX7_result_34 fl_X7_101 rfl rfl rfl (h.s l288 t288) (h.l l288) rfl ?_
      refine ae_gen (fun G5 g5 => ?_)
      have h : jm N B 320 G5 := by rw [g5]; exact h.w t288 (by decide) (by decide) (by decide) inr_any
      have q5 : dl G5 = dl H := by rw [g5]; exact dl_ne (by decide) (by decide) (by decide) (fun q => absurd q.2 (by decide))
      have hz : am_gi G5 288 39 = am_gi H 288 39 := by rw [g5]; exact gi_si hz (fun q => absurd q.2 (by decide))
      refine ae_aload_n (q := 38) dX7_result_37 rfl rfl rfl ?_
      refine ae_getR (q := 41) dX7_result_38 fl_X7_22 rfl (h.s l288 t288) (h.l l288) (h.mr (k := 4) (b := 293) (by decide) rfl) rfl ?_
      refine ae_iconst (v := 0) (q := 42) dX7_result_41 (by decide) rfl ?_
      refine ae_iald (q := 43) dX7_result_42 (h.s l293 t293) (h.l l293) (by unfold vp_in; decide) rfl ?_
      refine ae_eqi (show am_gi G5 293 (0 : Int32).toNatClampNeg = am_gi G5 293 0 from by rw [show (0 : Int32).toNatClampNeg = 0 from by decide]) ?_
      obtain ⟨x6, e6⟩ : ∃ x, am_gi G5 293 0 = x := ⟨_, rfl⟩
      refine ae_eqi e6 ?_
      refine ae_aload_n (q := 44) dX7_result_43 rfl rfl rfl ?_
      refine ae_getR (q := 47) dX7_result_44 fl_X7_74 rfl (h.s l288 t288) (h.l l288) (h.mr (k := 21) (b := 310) (by decide) rfl) rfl ?_
      refine ae_sipush (v := 144) (q := 50) dX7_result_47 (by decide) rfl ?_
      refine ae_iald (q := 51) dX7_result_50 (h.s l310 t310) (h.l l310) (by unfold vp_in; decide) rfl ?_
      refine ae_eqi (show am_gi G5 310 (144 : Int32).toNatClampNeg = am_gi G5 310 144 from by rw [show (144 : Int32).toNatClampNeg = 144 from by decide]) ?_
      obtain ⟨x7, e7⟩ : ∃ x, am_gi G5 310 144 = x := ⟨_, rfl⟩
      refine ae_eqi e7 ?_
      refine ae_iadd (q := 52) dX7_result_51 rfl ?_
      obtain ⟨x8, e8⟩ : ∃ z, x6 + x7 = z := ⟨_, rfl⟩
      refine ae_eqi e8 ?_
      refine ae_iret dX7_result_52 rfl rfl ?_
      exact ⟨⟨_, rfl⟩, ⟨h, by omega, hz⟩⟩
    · have c4 := i_nle (a := x3.toInt) (b := 0) rfl (by decide) c4
      refine ae_aload_n (q := 27) dX7_result_26 rfl rfl rfl ?_
      refine ae_iconst (v := 2) (q := 28) dX7_result_27 (by decide) rfl ?_
      refine ae_callV (ci := 7) (as := [.int 2]) (b := 288) (st := []) (q := 31) dX7_result_28 (c_X7_fail (N := N) (d := d) h) myX7_fail lk_X7_109 im_X7_fail se_X7_fail rfl (by decide) (h.s l288 t288) (h.l l288) rfl rfl (Nat.le_of_ble_eq_true rfl) rfl (fun o H1 hh => ⟨_, hh.1.choose_spec⟩) (fun vv G9 hv => ?_)
      obtain ⟨⟨x9, o9⟩, z9⟩ := hv
      cases o9
      obtain ⟨z9, w9⟩ := z9
      refine ⟨Or.inl (z9.nx.trans h.nx.symm), ?_⟩
      have h : jm N B 320 G9 := z9
      clear z9
      obtain ⟨q9, wz9⟩ := w9
      have hz : am_gi G9 288 39 = am_gi H 288 39 := wz9.trans hz
      refine ae_iret dX7_result_31 rfl rfl ?_
      exact ⟨⟨_, rfl⟩, ⟨h, by omega, hz⟩⟩
  · have c2 := i_eq (a := x1.toInt) (b := 0) rfl (by decide) c2
    refine ae_aload_n (q := 10) dX7_result_9 rfl rfl rfl ?_
    refine ae_iconst (v := 1) (q := 11) dX7_result_10 (by decide) rfl ?_
    refine ae_callV (ci := 7) (as := [.int 1]) (b := 288) (st := []) (q := 14) dX7_result_11 (c_X7_fail (N := N) (d := d) h) myX7_fail lk_X7_109 im_X7_fail se_X7_fail rfl (by decide) (h.s l288 t288) (h.l l288) rfl rfl (Nat.le_of_ble_eq_true rfl) rfl (fun o H1 hh => ⟨_, hh.1.choose_spec⟩) (fun vv G10 hv => ?_)
    obtain ⟨⟨x10, o10⟩, z10⟩ := hv
    cases o10
    obtain ⟨z10, w10⟩ := z10
    refine ⟨Or.inl (z10.nx.trans h.nx.symm), ?_⟩
    have h : jm N B 320 G10 := z10
    clear z10
    obtain ⟨q10, wz10⟩ := w10
    have hz : am_gi G10 288 39 = am_gi H 288 39 := wz10.trans hz
    refine ae_iret dX7_result_14 rfl rfl ?_
    exact ⟨⟨_, rfl⟩, ⟨h, by omega, hz⟩⟩
set_option maxRecDepth 100000 in
set_option maxHeartbeats 4000000 in
theorem c_X7_said {ox : List (Nat × (Nat → Int32))} {d N : Nat} {B H : am_H} {a1 : Int32}  (h : jm N B 320 H)  : am_DB 0 ox (d + 1) yX7_said mX7_said [.ref 288, .int a1] H (fun o H1 => (∃ v : Int32, o = .inl (some (.int v))) ∧ jm N B 320 H1 ∧ dl H1 = dl H ∧ am_gi H1 288 39 = am_gi H 288 39) := by
  refine ae_enter rfl rfl rfl rfl (Nat.le_of_ble_eq_true rfl) ?_
  show am_EB 0 ox (d + 1) mX7_said 0 [(0, .ref 288), (1, .int a1)] [] H _
  have hz : am_gi H 288 39 = am_gi H 288 39 := rfl
  refine ae_aload_n (q := 1) dX7_said_0 rfl rfl rfl ?_
  refine ae_iload_n (q := 2) dX7_said_1 rfl rfl rfl ?_
  refine ae_iconst (v := 0) (q := 3) dX7_said_2 (by decide) rfl ?_
  refine ae_aload_n (q := 4) dX7_said_3 rfl rfl rfl ?_
  refine ae_getI (q := 7) dX7_said_4 fl_X7_135 rfl (h.s l288 t288) (h.l l288) rfl ?_
  obtain ⟨x1, e1, u1, v1⟩ := rdi (h.i l288 t288 (k := 36) (p := (0, ((N : Nat) : Int))) rfl)
  refine ae_eqi e1 ?_
  refine ae_bipush (v := 40) (q := 9) dX7_said_7 (by decide) rfl ?_
  refine ae_icmp_ge (t := 19) (q := 12) dX7_said_9 (by decide) rfl (fun c2 => ?_) (fun c2 => ?_)
  · have c2 := i_le (a := 40) (b := x1.toInt) (by decide) rfl c2
    refine ae_bipush (v := 40) (q := 21) dX7_said_19 (by decide) rfl ?_
    refine ae_iconst (v := 1) (q := 22) dX7_said_21 (by decide) rfl ?_
    refine ae_isub (q := 23) dX7_said_22 rfl ?_
    refine ae_eqi (show (40 : Int32) - 1 = 39 by decide) ?_
    refine ae_wX7 (q := 26) dX7_said_23 lk_X7_105 (Nat.le_of_ble_eq_true rfl) rfl (fun c3 => ?_) (fun c3 => ?_)
    · have d3 := i_le (a := 0) (b := a1.toInt) (by decide) rfl c3.1
      have f3 := i_le (a := a1.toInt) (b := 39) rfl (by decide) c3.2
      refine ae_if_eq (t := 33) (q := 29) dX7_said_26 (by decide) rfl (fun h => absurd h (by decide)) (fun _ => ?_)
      refine ae_iconst (v := 0) (q := 30) dX7_said_29 (by decide) rfl ?_
      refine ae_goto (q := 34) dX7_said_30 (by decide) ?_
      refine ae_putI (q := 37) dX7_said_34 fl_X7_101 rfl rfl rfl (h.s l288 t288) (h.l l288) rfl ?_
      refine ae_gen (fun G4 g4 => ?_)
      have h : jm N B 320 G4 := by rw [g4]; exact h.w t288 (by decide) (by decide) (by decide) inr_any
      have q4 : dl G4 = dl H := by rw [g4]; exact dl_ne (by decide) (by decide) (by decide) (fun q => absurd q.2 (by decide))
      have hz : am_gi G4 288 39 = am_gi H 288 39 := by rw [g4]; exact gi_si hz (fun q => absurd q.2 (by decide))
      refine ae_aload_n (q := 38) dX7_said_37 rfl rfl rfl ?_
      refine ae_getI (q := 41) dX7_said_38 fl_X7_101 rfl (h.s l288 t288) (h.l l288) rfl ?_
      refine ae_eqi (show am_gi G4 288 37 = 0 by rw [g4]; exact gi_set) ?_
      refine ae_if_le (t := 48) (q := 44) dX7_said_41 (by decide) rfl (fun _ => ?_) (fun h => absurd h (by decide))
      refine ae_aload_n (q := 49) dX7_said_48 rfl rfl rfl ?_
      refine ae_getR (q := 52) dX7_said_49 fl_X7_98 rfl (h.s l288 t288) (h.l l288) (h.mr (k := 29) (b := 318) (by decide) rfl) rfl ?_
      refine ae_iload_n (q := 53) dX7_said_52 rfl rfl rfl ?_
      refine ae_iald (q := 54) dX7_said_53 (h.s l318 t318) (h.l l318) (vin (by omega) (by omega)) rfl ?_
      obtain ⟨x5, e5⟩ : ∃ x, am_gi G4 318 a1.toNatClampNeg = x := ⟨_, rfl⟩
      refine ae_eqi e5 ?_
      refine ae_iret dX7_said_54 rfl rfl ?_
      exact ⟨⟨_, rfl⟩, ⟨h, by omega, hz⟩⟩
    · have d3 := i_out (a := 0) (b := a1.toInt) (c := 39) (by decide) rfl (by decide) c3
      refine ae_if_eq (t := 33) (q := 29) dX7_said_26 (by decide) rfl (fun _ => ?_) (fun h => absurd h (by decide))
      refine ae_iconst (v := 1) (q := 34) dX7_said_33 (by decide) rfl ?_
      refine ae_putI (q := 37) dX7_said_34 fl_X7_101 rfl rfl rfl (h.s l288 t288) (h.l l288) rfl ?_
      refine ae_gen (fun G6 g6 => ?_)
      have h : jm N B 320 G6 := by rw [g6]; exact h.w t288 (by decide) (by decide) (by decide) inr_any
      have q6 : dl G6 = dl H := by rw [g6]; exact dl_ne (by decide) (by decide) (by decide) (fun q => absurd q.2 (by decide))
      have hz : am_gi G6 288 39 = am_gi H 288 39 := by rw [g6]; exact gi_si hz (fun q => absurd q.2 (by decide))
      refine ae_aload_n (q := 38) dX7_said_37 rfl rfl rfl ?_
      refine ae_getI (q := 41) dX7_said_38 fl_X7_101 rfl (h.s l288 t288) (h.l l288) rfl ?_
      refine ae_eqi (show am_gi G6 288 37 = 1 by rw [g6]; exact gi_set) ?_
      refine ae_if_le (t := 48) (q := 44) dX7_said_41 (by decide) rfl (fun h => absurd h (by decide)) (fun _ => ?_)
      refine ae_iconst (v := 0) (q := 45) dX7_said_44 (by decide) rfl ?_
      refine ae_goto (q := 54) dX7_said_45 (by decide) ?_
      refine ae_iret dX7_said_54 rfl rfl ?_
      exact ⟨⟨_, rfl⟩, ⟨h, by omega, hz⟩⟩
  · have c2 := i_nle (a := 40) (b := x1.toInt) (by decide) rfl c2
    refine ae_aload_n (q := 13) dX7_said_12 rfl rfl rfl ?_
    refine ae_getI (q := 16) dX7_said_13 fl_X7_135 rfl (h.s l288 t288) (h.l l288) rfl ?_
    refine ae_eqi e1 ?_
    refine ae_goto (q := 21) dX7_said_16 (by decide) ?_
    refine ae_iconst (v := 1) (q := 22) dX7_said_21 (by decide) rfl ?_
    refine ae_isub (q := 23) dX7_said_22 rfl ?_
    obtain ⟨x7, e7⟩ : ∃ z, x1 - 1 = z := ⟨_, rfl⟩
    refine ae_eqi e7 ?_
    have f7 : x7.toInt = x1.toInt - 1 := by rw [← e7]; exact i_sub rfl (by decide) (by omega) (by omega)
    refine ae_wX7 (q := 26) dX7_said_23 lk_X7_105 (Nat.le_of_ble_eq_true rfl) rfl (fun c8 => ?_) (fun c8 => ?_)
    · have d8 := i_le (a := 0) (b := a1.toInt) (by decide) rfl c8.1
      have f8 := i_le (a := a1.toInt) (b := x7.toInt) rfl rfl c8.2
      refine ae_if_eq (t := 33) (q := 29) dX7_said_26 (by decide) rfl (fun h => absurd h (by decide)) (fun _ => ?_)
      refine ae_iconst (v := 0) (q := 30) dX7_said_29 (by decide) rfl ?_
      refine ae_goto (q := 34) dX7_said_30 (by decide) ?_
      refine ae_putI (q := 37) dX7_said_34 fl_X7_101 rfl rfl rfl (h.s l288 t288) (h.l l288) rfl ?_
      refine ae_gen (fun G9 g9 => ?_)
      have h : jm N B 320 G9 := by rw [g9]; exact h.w t288 (by decide) (by decide) (by decide) inr_any
      have q9 : dl G9 = dl H := by rw [g9]; exact dl_ne (by decide) (by decide) (by decide) (fun q => absurd q.2 (by decide))
      have hz : am_gi G9 288 39 = am_gi H 288 39 := by rw [g9]; exact gi_si hz (fun q => absurd q.2 (by decide))
      refine ae_aload_n (q := 38) dX7_said_37 rfl rfl rfl ?_
      refine ae_getI (q := 41) dX7_said_38 fl_X7_101 rfl (h.s l288 t288) (h.l l288) rfl ?_
      refine ae_eqi (show am_gi G9 288 37 = 0 by rw [g9]; exact gi_set) ?_
      refine ae_if_le (t := 48) (q := 44) dX7_said_41 (by decide) rfl (fun _ => ?_) (fun h => absurd h (by decide))
      refine ae_aload_n (q := 49) dX7_said_48 rfl rfl rfl ?_
      refine ae_getR (q := 52) dX7_said_49 fl_X7_98 rfl (h.s l288 t288) (h.l l288) (h.mr (k := 29) (b := 318) (by decide) rfl) rfl ?_
      refine ae_iload_n (q := 53) dX7_said_52 rfl rfl rfl ?_
      refine ae_iald (q := 54) dX7_said_53 (h.s l318 t318) (h.l l318) (vin (by omega) (by omega)) rfl ?_
      obtain ⟨x10, e10⟩ : ∃ x, am_gi G9 318 a1.toNatClampNeg = x := ⟨_, rfl⟩
      refine ae_eqi e10 ?_
      refine ae_iret dX7_said_54 rfl rfl ?_
      exact ⟨⟨_, rfl⟩, ⟨h, by omega, hz⟩⟩
    · have d8 := i_out (a := 0) (b := a1.toInt) (c := x7.toInt) (by decide) rfl rfl c8
      refine ae_if_eq (t := 33) (q := 29) dX7_said_26 (by decide) rfl (fun _ => ?_) (fun h => absurd h (by decide))
      refine ae_iconst (v := 1) (q := 34) dX7_said_33 (by decide) rfl ?_
      refine ae_putI (q := 37) dX7_said_34 fl_X7_101 rfl rfl rfl (h.s l288 t288) (h.l l288) rfl ?_
      refine ae_gen (fun G11 g11 => ?_)
      have h : jm N B 320 G11 := by rw [g11]; exact h.w t288 (by decide) (by decide) (by decide) inr_any
      have q11 : dl G11 = dl H := by rw [g11]; exact dl_ne (by decide) (by decide) (by decide) (fun q => absurd q.2 (by decide))
      have hz : am_gi G11 288 39 = am_gi H 288 39 := by rw [g11]; exact gi_si hz (fun q => absurd q.2 (by decide))
      refine ae_aload_n (q := 38) dX7_said_37 rfl rfl rfl ?_
      refine ae_getI (q := 41) dX7_said_38 fl_X7_101 rfl (h.s l288 t288) (h.l l288) rfl ?_
      refine ae_eqi (show am_gi G11 288 37 = 1 by rw [g11]; exact gi_set) ?_
      refine ae_if_le (t := 48) (q := 44) dX7_said_41 (by decide) rfl (fun h => absurd h (by decide)) (fun _ => ?_)
      refine ae_iconst (v := 0) (q := 45) dX7_said_44 (by decide) rfl ?_
      refine ae_goto (q := 54) dX7_said_45 (by decide) ?_
      refine ae_iret dX7_said_54 rfl rfl ?_
      exact ⟨⟨_, rfl⟩, ⟨h, by omega, hz⟩⟩
set_option maxRecDepth 100000 in
set_option maxHeartbeats 4000000 in
theorem c_X7_task {ox : List (Nat × (Nat → Int32))} {d N : Nat} {B H : am_H} {a1 : Int32} {a2 : Int32}  (h : jm N B 320 H)  : am_DB 0 ox (d + 1) yX7_task mX7_task [.ref 288, .int a1, .int a2] H (fun o H1 => (∃ v : Int32, o = .inl (some (.int v))) ∧ jm N B 320 H1 ∧ dl H1 = dl H ∧ am_gi H1 288 39 = am_gi H 288 39) := by
  refine ae_enter rfl rfl rfl rfl (Nat.le_of_ble_eq_true rfl) ?_
  show am_EB 0 ox (d + 1) mX7_task 0 [(0, .ref 288), (1, .int a1), (2, .int a2)] [] H _
  have hz : am_gi H 288 39 = am_gi H 288 39 := rfl
  refine ae_iload_n (q := 1) dX7_task_0 rfl rfl rfl ?_
  refine ae_iconst (v := 0) (q := 2) dX7_task_1 (by decide) rfl ?_
  refine ae_bipush (v := 6) (q := 4) dX7_task_2 (by decide) rfl ?_
  refine ae_wX7 (q := 7) dX7_task_4 lk_X7_105 (Nat.le_of_ble_eq_true rfl) rfl (fun c1 => ?_) (fun c1 => ?_)
  · have d1 := i_le (a := 0) (b := a2.toInt) (by decide) rfl c1.1
    have f1 := i_le (a := a2.toInt) (b := 6) rfl (by decide) c1.2
    refine ae_if_ne (t := 16) (q := 10) dX7_task_7 (by decide) rfl (fun _ => ?_) (fun h => absurd h (by decide))
    refine ae_aload_n (q := 17) dX7_task_16 rfl rfl rfl ?_
    refine ae_getI (q := 20) dX7_task_17 fl_X7_122 rfl (h.s l288 t288) (h.l l288) rfl ?_
    obtain ⟨x2, e2, u2, v2⟩ := rdi (h.i l288 t288 (k := 39) (p := (0, 1)) rfl)
    refine ae_eqi e2 ?_
    refine ae_if_eq (t := 37) (q := 23) dX7_task_20 (by decide) rfl (fun c3 => ?_) (fun c3 => ?_)
    · have c3 := i_eq (a := x2.toInt) (b := 0) rfl (by decide) c3
      refine ae_aload_n (q := 38) dX7_task_37 rfl rfl rfl ?_
      refine ae_iconst (v := 2) (q := 39) dX7_task_38 (by decide) rfl ?_
      refine ae_callV (ci := 7) (as := [.int 2]) (b := 288) (st := []) (q := 42) dX7_task_39 (c_X7_fail (N := N) (d := d) h) myX7_fail lk_X7_109 im_X7_fail se_X7_fail rfl (by decide) (h.s l288 t288) (h.l l288) rfl rfl (Nat.le_of_ble_eq_true rfl) rfl (fun o H1 hh => ⟨_, hh.1.choose_spec⟩) (fun vv G4 hv => ?_)
      obtain ⟨⟨x4, o4⟩, z4⟩ := hv
      cases o4
      obtain ⟨z4, w4⟩ := z4
      refine ⟨Or.inl (z4.nx.trans h.nx.symm), ?_⟩
      have h : jm N B 320 G4 := z4
      clear z4
      obtain ⟨q4, wz4⟩ := w4
      have hz : am_gi G4 288 39 = am_gi H 288 39 := wz4.trans hz
      refine ae_iret dX7_task_42 rfl rfl ?_
      exact ⟨⟨_, rfl⟩, ⟨h, by omega, hz⟩⟩
    · have c3 := i_ne (a := x2.toInt) (b := 0) rfl (by decide) c3
      refine ae_iload_n (q := 24) dX7_task_23 rfl rfl rfl ?_
      refine ae_iconst (v := 0) (q := 25) dX7_task_24 (by decide) rfl ?_
      refine ae_aload_n (q := 26) dX7_task_25 rfl rfl rfl ?_
      refine ae_getI (q := 29) dX7_task_26 fl_X7_119 rfl (h.s l288 t288) (h.l l288) rfl ?_
      obtain ⟨x5, e5, u5, v5⟩ := rdi (h.i l288 t288 (k := 30) (p := (0, 48)) rfl)
      refine ae_eqi e5 ?_
      refine ae_iconst (v := 1) (q := 30) dX7_task_29 (by decide) rfl ?_
      refine ae_isub (q := 31) dX7_task_30 rfl ?_
      obtain ⟨x6, e6⟩ : ∃ z, x5 - 1 = z := ⟨_, rfl⟩
      refine ae_eqi e6 ?_
      have f6 : x6.toInt = x5.toInt - 1 := by rw [← e6]; exact i_sub rfl (by decide) (by omega) (by omega)
      refine ae_wX7 (q := 34) dX7_task_31 lk_X7_105 (Nat.le_of_ble_eq_true rfl) rfl (fun c7 => ?_) (fun c7 => ?_)
      · have d7 := i_le (a := 0) (b := a1.toInt) (by decide) rfl c7.1
        have f7 := i_le (a := a1.toInt) (b := x6.toInt) rfl rfl c7.2
        refine ae_if_ne (t := 43) (q := 37) dX7_task_34 (by decide) rfl (fun _ => ?_) (fun h => absurd h (by decide))
        refine ae_aload_n (q := 44) dX7_task_43 rfl rfl rfl ?_
        refine ae_iconst (v := 0) (q := 45) dX7_task_44 (by decide) rfl ?_
        refine ae_putI (q := 48) dX7_task_45 fl_X7_101 rfl rfl rfl (h.s l288 t288) (h.l l288) rfl ?_
        refine ae_gen (fun G8 g8 => ?_)
        have h : jm N B 320 G8 := by rw [g8]; exact h.w t288 (by decide) (by decide) (by decide) inr_any
        have q8 : dl G8 = dl H := by rw [g8]; exact dl_ne (by decide) (by decide) (by decide) (fun q => absurd q.2 (by decide))
        have hz : am_gi G8 288 39 = am_gi H 288 39 := by rw [g8]; exact gi_si hz (fun q => absurd q.2 (by decide))
        refine ae_iload_n (q := 49) dX7_task_48 rfl rfl rfl ?_
        have c9 : a2.toInt = 0 ∨ a2.toInt = 1 ∨ a2.toInt = 2 ∨ a2.toInt = 3 ∨ a2.toInt = 4 ∨ a2.toInt = 5 ∨ a2.toInt = 6 := by omega
        rcases c9 with c9 | c9 | c9 | c9 | c9 | c9 | c9
        · have j9 : a2 = 0 := Int32.toInt_inj.mp (by rw [c9]; decide)
          refine ae_tableIn (off := 35) (q := 84) dX7_task_49 (by rw [j9]; decide) (by rw [j9]; decide) (by rw [j9]; decide) (by decide) ?_
          refine ae_aload_n (q := 85) dX7_task_84 rfl rfl rfl ?_
          refine ae_getR (q := 88) dX7_task_85 fl_X7_19 rfl (h.s l288 t288) (h.l l288) (h.mr (k := 3) (b := 292) (by decide) rfl) rfl ?_
          refine ae_iload_n (q := 89) dX7_task_88 rfl rfl rfl ?_
          refine ae_iald (q := 90) dX7_task_89 (h.s l292 t292) (h.l l292) (vin (by omega) (by omega)) rfl ?_
          obtain ⟨x10, e10, u10, v10⟩ := rdi (h.i l292 t292 (k := a1.toNatClampNeg) (p := (0, 3)) rfl)
          refine ae_eqi e10 ?_
          refine ae_iret dX7_task_90 rfl rfl ?_
          exact ⟨⟨_, rfl⟩, ⟨h, by omega, hz⟩⟩
        · have j9 : a2 = 1 := Int32.toInt_inj.mp (by rw [c9]; decide)
          refine ae_tableIn (off := 42) (q := 91) dX7_task_49 (by rw [j9]; decide) (by rw [j9]; decide) (by rw [j9]; decide) (by decide) ?_
          refine ae_aload_n (q := 92) dX7_task_91 rfl rfl rfl ?_
          refine ae_getR (q := 95) dX7_task_92 fl_X7_22 rfl (h.s l288 t288) (h.l l288) (h.mr (k := 4) (b := 293) (by decide) rfl) rfl ?_
          refine ae_iload_n (q := 96) dX7_task_95 rfl rfl rfl ?_
          refine ae_iald (q := 97) dX7_task_96 (h.s l293 t293) (h.l l293) (vin (by omega) (by omega)) rfl ?_
          obtain ⟨x11, e11⟩ : ∃ x, am_gi G8 293 a1.toNatClampNeg = x := ⟨_, rfl⟩
          refine ae_eqi e11 ?_
          refine ae_iret dX7_task_97 rfl rfl ?_
          exact ⟨⟨_, rfl⟩, ⟨h, by omega, hz⟩⟩
        · have j9 : a2 = 2 := Int32.toInt_inj.mp (by rw [c9]; decide)
          refine ae_tableIn (off := 49) (q := 98) dX7_task_49 (by rw [j9]; decide) (by rw [j9]; decide) (by rw [j9]; decide) (by decide) ?_
          refine ae_aload_n (q := 99) dX7_task_98 rfl rfl rfl ?_
          refine ae_getR (q := 102) dX7_task_99 fl_X7_25 rfl (h.s l288 t288) (h.l l288) (h.mr (k := 5) (b := 294) (by decide) rfl) rfl ?_
          refine ae_iload_n (q := 103) dX7_task_102 rfl rfl rfl ?_
          refine ae_iald (q := 104) dX7_task_103 (h.s l294 t294) (h.l l294) (vin (by omega) (by omega)) rfl ?_
          obtain ⟨x12, e12, u12, v12⟩ := rdi (h.i l294 t294 (k := a1.toNatClampNeg) (p := (0, 16 + ((N : Nat) : Int))) rfl)
          refine ae_eqi e12 ?_
          refine ae_iret dX7_task_104 rfl rfl ?_
          exact ⟨⟨_, rfl⟩, ⟨h, by omega, hz⟩⟩
        · have j9 : a2 = 3 := Int32.toInt_inj.mp (by rw [c9]; decide)
          refine ae_tableIn (off := 56) (q := 105) dX7_task_49 (by rw [j9]; decide) (by rw [j9]; decide) (by rw [j9]; decide) (by decide) ?_
          refine ae_aload_n (q := 106) dX7_task_105 rfl rfl rfl ?_
          refine ae_getR (q := 109) dX7_task_106 fl_X7_28 rfl (h.s l288 t288) (h.l l288) (h.mr (k := 6) (b := 295) (by decide) rfl) rfl ?_
          refine ae_iload_n (q := 110) dX7_task_109 rfl rfl rfl ?_
          refine ae_iald (q := 111) dX7_task_110 (h.s l295 t295) (h.l l295) (vin (by omega) (by omega)) rfl ?_
          obtain ⟨x13, e13, u13, v13⟩ := rdi (h.i l295 t295 (k := a1.toNatClampNeg) (p := (0, 7)) rfl)
          refine ae_eqi e13 ?_
          refine ae_iret dX7_task_111 rfl rfl ?_
          exact ⟨⟨_, rfl⟩, ⟨h, by omega, hz⟩⟩
        · have j9 : a2 = 4 := Int32.toInt_inj.mp (by rw [c9]; decide)
          refine ae_tableIn (off := 63) (q := 112) dX7_task_49 (by rw [j9]; decide) (by rw [j9]; decide) (by rw [j9]; decide) (by decide) ?_
          refine ae_aload_n (q := 113) dX7_task_112 rfl rfl rfl ?_
          refine ae_getR (q := 116) dX7_task_113 fl_X7_34 rfl (h.s l288 t288) (h.l l288) (h.mr (k := 8) (b := 297) (by decide) rfl) rfl ?_
          refine ae_iload_n (q := 117) dX7_task_116 rfl rfl rfl ?_
          refine ae_iald (q := 118) dX7_task_117 (h.s l297 t297) (h.l l297) (vin (by omega) (by omega)) rfl ?_
          obtain ⟨x14, e14, u14, v14⟩ := rdi (h.i l297 t297 (k := a1.toNatClampNeg) (p := (0, 3)) rfl)
          refine ae_eqi e14 ?_
          refine ae_iret dX7_task_118 rfl rfl ?_
          exact ⟨⟨_, rfl⟩, ⟨h, by omega, hz⟩⟩
        · have j9 : a2 = 5 := Int32.toInt_inj.mp (by rw [c9]; decide)
          refine ae_tableOut (q := 119) dX7_task_49 (by rw [j9]; decide) (by decide) ?_
          refine ae_aload_n (q := 120) dX7_task_119 rfl rfl rfl ?_
          refine ae_getR (q := 123) dX7_task_120 fl_X7_59 rfl (h.s l288 t288) (h.l l288) (h.mr (k := 16) (b := 305) (by decide) rfl) rfl ?_
          refine ae_iconst (v := 2) (q := 124) dX7_task_123 (by decide) rfl ?_
          refine ae_iload_n (q := 125) dX7_task_124 rfl rfl rfl ?_
          refine ae_imul (q := 126) dX7_task_125 rfl ?_
          obtain ⟨x15, e15⟩ : ∃ z, 2 * a1 = z := ⟨_, rfl⟩
          refine ae_eqi e15 ?_
          have f15 : x15.toInt = 2 * a1.toInt := by rw [← e15]; exact i_mul (by decide) rfl (by omega) (by omega)
          refine ae_iload_n (q := 127) dX7_task_126 rfl rfl rfl ?_
          refine ae_iadd (q := 128) dX7_task_127 rfl ?_
          obtain ⟨x16, e16⟩ : ∃ z, x15 + a2 = z := ⟨_, rfl⟩
          refine ae_eqi e16 ?_
          have f16 : x16.toInt = x15.toInt + a2.toInt := by rw [← e16]; exact i_add rfl rfl (by omega) (by omega)
          refine ae_iconst (v := 5) (q := 129) dX7_task_128 (by decide) rfl ?_
          refine ae_isub (q := 130) dX7_task_129 rfl ?_
          obtain ⟨x17, e17⟩ : ∃ z, x16 - 5 = z := ⟨_, rfl⟩
          refine ae_eqi e17 ?_
          have f17 : x17.toInt = x16.toInt - 5 := by rw [← e17]; exact i_sub rfl (by decide) (by omega) (by omega)
          refine ae_iald (q := 131) dX7_task_130 (h.s l305 t305) (h.l l305) (vin (by omega) (by omega)) rfl ?_
          obtain ⟨x18, e18⟩ : ∃ x, am_gi G8 305 x17.toNatClampNeg = x := ⟨_, rfl⟩
          refine ae_eqi e18 ?_
          refine ae_iret dX7_task_131 rfl rfl ?_
          exact ⟨⟨_, rfl⟩, ⟨h, by omega, hz⟩⟩
        · have j9 : a2 = 6 := Int32.toInt_inj.mp (by rw [c9]; decide)
          refine ae_tableOut (q := 119) dX7_task_49 (by rw [j9]; decide) (by decide) ?_
          refine ae_aload_n (q := 120) dX7_task_119 rfl rfl rfl ?_
          refine ae_getR (q := 123) dX7_task_120 fl_X7_59 rfl (h.s l288 t288) (h.l l288) (h.mr (k := 16) (b := 305) (by decide) rfl) rfl ?_
          refine ae_iconst (v := 2) (q := 124) dX7_task_123 (by decide) rfl ?_
          refine ae_iload_n (q := 125) dX7_task_124 rfl rfl rfl ?_
          refine ae_imul (q := 126) dX7_task_125 rfl ?_
          obtain ⟨x19, e19⟩ : ∃ z, 2 * a1 = z := ⟨_, rfl⟩
          refine ae_eqi e19 ?_
          have f19 : x19.toInt = 2 * a1.toInt := by rw [← e19]; exact i_mul (by decide) rfl (by omega) (by omega)
          refine ae_iload_n (q := 127) dX7_task_126 rfl rfl rfl ?_
          refine ae_iadd (q := 128) dX7_task_127 rfl ?_
          obtain ⟨x20, e20⟩ : ∃ z, x19 + a2 = z := ⟨_, rfl⟩
          refine ae_eqi e20 ?_
          have f20 : x20.toInt = x19.toInt + a2.toInt := by rw [← e20]; exact i_add rfl rfl (by omega) (by omega)
          refine ae_iconst (v := 5) (q := 129) dX7_task_128 (by decide) rfl ?_
          refine ae_isub (q := 130) dX7_task_129 rfl ?_
          obtain ⟨x21, e21⟩ : ∃ z, x20 - 5 = z := ⟨_, rfl⟩
          refine ae_eqi e21 ?_
          have f21 : x21.toInt = x20.toInt - 5 := by rw [← e21]; exact i_sub rfl (by decide) (by omega) (by omega)
          refine ae_iald (q := 131) dX7_task_130 (h.s l305 t305) (h.l l305) (vin (by omega) (by omega)) rfl ?_
          obtain ⟨x22, e22⟩ : ∃ x, am_gi G8 305 x21.toNatClampNeg = x := ⟨_, rfl⟩
          refine ae_eqi e22 ?_
          refine ae_iret dX7_task_131 rfl rfl ?_
          exact ⟨⟨_, rfl⟩, ⟨h, by omega, hz⟩⟩
      · have d7 := i_out (a := 0) (b := a1.toInt) (c := x6.toInt) (by decide) rfl rfl c7
        refine ae_if_ne (t := 43) (q := 37) dX7_task_34 (by decide) rfl (fun h => absurd h (by decide)) (fun _ => ?_)
        refine ae_aload_n (q := 38) dX7_task_37 rfl rfl rfl ?_
        refine ae_iconst (v := 2) (q := 39) dX7_task_38 (by decide) rfl ?_
        refine ae_callV (ci := 7) (as := [.int 2]) (b := 288) (st := []) (q := 42) dX7_task_39 (c_X7_fail (N := N) (d := d) h) myX7_fail lk_X7_109 im_X7_fail se_X7_fail rfl (by decide) (h.s l288 t288) (h.l l288) rfl rfl (Nat.le_of_ble_eq_true rfl) rfl (fun o H1 hh => ⟨_, hh.1.choose_spec⟩) (fun vv G23 hv => ?_)
        obtain ⟨⟨x23, o23⟩, z23⟩ := hv
        cases o23
        obtain ⟨z23, w23⟩ := z23
        refine ⟨Or.inl (z23.nx.trans h.nx.symm), ?_⟩
        have h : jm N B 320 G23 := z23
        clear z23
        obtain ⟨q23, wz23⟩ := w23
        have hz : am_gi G23 288 39 = am_gi H 288 39 := wz23.trans hz
        refine ae_iret dX7_task_42 rfl rfl ?_
        exact ⟨⟨_, rfl⟩, ⟨h, by omega, hz⟩⟩
  · have d1 := i_out (a := 0) (b := a2.toInt) (c := 6) (by decide) rfl (by decide) c1
    refine ae_if_ne (t := 16) (q := 10) dX7_task_7 (by decide) rfl (fun h => absurd h (by decide)) (fun _ => ?_)
    refine ae_aload_n (q := 11) dX7_task_10 rfl rfl rfl ?_
    refine ae_iconst (v := 1) (q := 12) dX7_task_11 (by decide) rfl ?_
    refine ae_callV (ci := 7) (as := [.int 1]) (b := 288) (st := []) (q := 15) dX7_task_12 (c_X7_fail (N := N) (d := d) h) myX7_fail lk_X7_109 im_X7_fail se_X7_fail rfl (by decide) (h.s l288 t288) (h.l l288) rfl rfl (Nat.le_of_ble_eq_true rfl) rfl (fun o H1 hh => ⟨_, hh.1.choose_spec⟩) (fun vv G24 hv => ?_)
    obtain ⟨⟨x24, o24⟩, z24⟩ := hv
    cases o24
    obtain ⟨z24, w24⟩ := z24
    refine ⟨Or.inl (z24.nx.trans h.nx.symm), ?_⟩
    have h : jm N B 320 G24 := z24
    clear z24
    obtain ⟨q24, wz24⟩ := w24
    have hz : am_gi G24 288 39 = am_gi H 288 39 := wz24.trans hz
    refine ae_iret dX7_task_15 rfl rfl ?_
    exact ⟨⟨_, rfl⟩, ⟨h, by omega, hz⟩⟩
set_option maxRecDepth 100000 in
set_option maxHeartbeats 4000000 in
theorem c_X7_future {ox : List (Nat × (Nat → Int32))} {d N : Nat} {B H : am_H} {a1 : Int32}  (h : jm N B 320 H)  : am_DB 0 ox (d + 1) yX7_future mX7_future [.ref 288, .int a1] H (fun o H1 => (∃ v : Int32, o = .inl (some (.int v))) ∧ jm N B 320 H1 ∧ dl H1 = dl H ∧ am_gi H1 288 39 = am_gi H 288 39) := by
  refine ae_enter rfl rfl rfl rfl (Nat.le_of_ble_eq_true rfl) ?_
  show am_EB 0 ox (d + 1) mX7_future 0 [(0, .ref 288), (1, .int a1)] [] H _
  have hz : am_gi H 288 39 = am_gi H 288 39 := rfl
  refine ae_aload_n (q := 1) dX7_future_0 rfl rfl rfl ?_
  refine ae_iload_n (q := 2) dX7_future_1 rfl rfl rfl ?_
  refine ae_iconst (v := 0) (q := 3) dX7_future_2 (by decide) rfl ?_
  refine ae_iconst (v := 3) (q := 4) dX7_future_3 (by decide) rfl ?_
  refine ae_wX7 (q := 7) dX7_future_4 lk_X7_105 (Nat.le_of_ble_eq_true rfl) rfl (fun c1 => ?_) (fun c1 => ?_)
  · have d1 := i_le (a := 0) (b := a1.toInt) (by decide) rfl c1.1
    have f1 := i_le (a := a1.toInt) (b := 3) rfl (by decide) c1.2
    refine ae_if_ne (t := 14) (q := 10) dX7_future_7 (by decide) rfl (fun _ => ?_) (fun h => absurd h (by decide))
    refine ae_aload_n (q := 15) dX7_future_14 rfl rfl rfl ?_
    refine ae_getR (q := 18) dX7_future_15 fl_X7_56 rfl (h.s l288 t288) (h.l l288) (h.mr (k := 15) (b := 304) (by decide) rfl) rfl ?_
    refine ae_iload_n (q := 19) dX7_future_18 rfl rfl rfl ?_
    refine ae_zald (q := 20) dX7_future_19 (h.s l304 t304) (h.l l304) (vin (by omega) (by omega)) rfl ?_
    obtain ⟨x2, e2, u2, v2⟩ := rdi (h.i l304 t304 (k := a1.toNatClampNeg) (p := (0, 1)) rfl)
    refine ae_eqi e2 ?_
    refine ae_if_ne (t := 27) (q := 23) dX7_future_20 (by decide) rfl (fun c3 => ?_) (fun c3 => ?_)
    · have c3 := i_ne (a := x2.toInt) (b := 0) rfl (by decide) c3
      refine ae_iconst (v := 0) (q := 28) dX7_future_27 (by decide) rfl ?_
      refine ae_putI (q := 31) dX7_future_28 fl_X7_101 rfl rfl rfl (h.s l288 t288) (h.l l288) rfl ?_
      refine ae_gen (fun G4 g4 => ?_)
      have h : jm N B 320 G4 := by rw [g4]; exact h.w t288 (by decide) (by decide) (by decide) inr_any
      have q4 : dl G4 = dl H := by rw [g4]; exact dl_ne (by decide) (by decide) (by decide) (fun q => absurd q.2 (by decide))
      have hz : am_gi G4 288 39 = am_gi H 288 39 := by rw [g4]; exact gi_si hz (fun q => absurd q.2 (by decide))
      refine ae_aload_n (q := 32) dX7_future_31 rfl rfl rfl ?_
      refine ae_getI (q := 35) dX7_future_32 fl_X7_101 rfl (h.s l288 t288) (h.l l288) rfl ?_
      refine ae_eqi (show am_gi G4 288 37 = 0 by rw [g4]; exact gi_set) ?_
      refine ae_if_le (t := 42) (q := 38) dX7_future_35 (by decide) rfl (fun _ => ?_) (fun h => absurd h (by decide))
      refine ae_aload_n (q := 43) dX7_future_42 rfl rfl rfl ?_
      refine ae_getR (q := 46) dX7_future_43 fl_X7_43 rfl (h.s l288 t288) (h.l l288) (h.mr (k := 11) (b := 300) (by decide) rfl) rfl ?_
      refine ae_iload_n (q := 47) dX7_future_46 rfl rfl rfl ?_
      refine ae_iald (q := 48) dX7_future_47 (h.s l300 t300) (h.l l300) (vin (by omega) (by omega)) rfl ?_
      obtain ⟨x5, e5⟩ : ∃ x, am_gi G4 300 a1.toNatClampNeg = x := ⟨_, rfl⟩
      refine ae_eqi e5 ?_
      refine ae_iret dX7_future_48 rfl rfl ?_
      exact ⟨⟨_, rfl⟩, ⟨h, by omega, hz⟩⟩
    · have c3 := i_eq (a := x2.toInt) (b := 0) rfl (by decide) c3
      refine ae_iconst (v := 2) (q := 24) dX7_future_23 (by decide) rfl ?_
      refine ae_goto (q := 28) dX7_future_24 (by decide) ?_
      refine ae_putI (q := 31) dX7_future_28 fl_X7_101 rfl rfl rfl (h.s l288 t288) (h.l l288) rfl ?_
      refine ae_gen (fun G6 g6 => ?_)
      have h : jm N B 320 G6 := by rw [g6]; exact h.w t288 (by decide) (by decide) (by decide) inr_any
      have q6 : dl G6 = dl H := by rw [g6]; exact dl_ne (by decide) (by decide) (by decide) (fun q => absurd q.2 (by decide))
      have hz : am_gi G6 288 39 = am_gi H 288 39 := by rw [g6]; exact gi_si hz (fun q => absurd q.2 (by decide))
      refine ae_aload_n (q := 32) dX7_future_31 rfl rfl rfl ?_
      refine ae_getI (q := 35) dX7_future_32 fl_X7_101 rfl (h.s l288 t288) (h.l l288) rfl ?_
      refine ae_eqi (show am_gi G6 288 37 = 2 by rw [g6]; exact gi_set) ?_
      refine ae_if_le (t := 42) (q := 38) dX7_future_35 (by decide) rfl (fun h => absurd h (by decide)) (fun _ => ?_)
      refine ae_iconst (v := 0) (q := 39) dX7_future_38 (by decide) rfl ?_
      refine ae_goto (q := 48) dX7_future_39 (by decide) ?_
      refine ae_iret dX7_future_48 rfl rfl ?_
      exact ⟨⟨_, rfl⟩, ⟨h, by omega, hz⟩⟩
  · have d1 := i_out (a := 0) (b := a1.toInt) (c := 3) (by decide) rfl (by decide) c1
    refine ae_if_ne (t := 14) (q := 10) dX7_future_7 (by decide) rfl (fun h => absurd h (by decide)) (fun _ => ?_)
    refine ae_iconst (v := 1) (q := 11) dX7_future_10 (by decide) rfl ?_
    refine ae_goto (q := 28) dX7_future_11 (by decide) ?_
    refine ae_putI (q := 31) dX7_future_28 fl_X7_101 rfl rfl rfl (h.s l288 t288) (h.l l288) rfl ?_
    refine ae_gen (fun G7 g7 => ?_)
    have h : jm N B 320 G7 := by rw [g7]; exact h.w t288 (by decide) (by decide) (by decide) inr_any
    have q7 : dl G7 = dl H := by rw [g7]; exact dl_ne (by decide) (by decide) (by decide) (fun q => absurd q.2 (by decide))
    have hz : am_gi G7 288 39 = am_gi H 288 39 := by rw [g7]; exact gi_si hz (fun q => absurd q.2 (by decide))
    refine ae_aload_n (q := 32) dX7_future_31 rfl rfl rfl ?_
    refine ae_getI (q := 35) dX7_future_32 fl_X7_101 rfl (h.s l288 t288) (h.l l288) rfl ?_
    refine ae_eqi (show am_gi G7 288 37 = 1 by rw [g7]; exact gi_set) ?_
    refine ae_if_le (t := 42) (q := 38) dX7_future_35 (by decide) rfl (fun h => absurd h (by decide)) (fun _ => ?_)
    refine ae_iconst (v := 0) (q := 39) dX7_future_38 (by decide) rfl ?_
    refine ae_goto (q := 48) dX7_future_39 (by decide) ?_
    refine ae_iret dX7_future_48 rfl rfl ?_
    exact ⟨⟨_, rfl⟩, ⟨h, by omega, hz⟩⟩
set_option maxRecDepth 100000 in
set_option maxHeartbeats 4000000 in
theorem c_X7_queuedAt {ox : List (Nat × (Nat → Int32))} {d N : Nat} {B H : am_H} {a1 : Int32} {a2 : Int32}  (h : jm N B 320 H) (u_1 : 0 ≤ a1.toInt) (v_1 : a1.toInt ≤ 1) (u_2 : 0 ≤ a2.toInt) (v_2 : a2.toInt ≤ 47) : am_DB 0 ox d yX7_queuedAt mX7_queuedAt [.ref 288, .int a1, .int a2] H (fun o H1 => (∃ v : Int32, o = .inl (some (.int v)) ∧ (-1) ≤ v.toInt ∧ v.toInt ≤ 47) ∧ H1 = H) := by
  refine ae_enter rfl rfl rfl rfl (Nat.le_of_ble_eq_true rfl) ?_
  show am_EB 0 ox d mX7_queuedAt 0 [(0, .ref 288), (1, .int a1), (2, .int a2)] [] H _
  refine ae_aload_n (q := 1) dX7_queuedAt_0 rfl rfl rfl ?_
  refine ae_getI (q := 4) dX7_queuedAt_1 fl_X7_122 rfl (h.s l288 t288) (h.l l288) rfl ?_
  obtain ⟨x1, e1, u1, v1⟩ := rdi (h.i l288 t288 (k := 39) (p := (0, 1)) rfl)
  refine ae_eqi e1 ?_
  refine ae_if_eq (t := 39) (q := 7) dX7_queuedAt_4 (by decide) rfl (fun c2 => ?_) (fun c2 => ?_)
  · have c2 := i_eq (a := x1.toInt) (b := 0) rfl (by decide) c2
    refine ae_iconst (v := (-1)) (q := 40) dX7_queuedAt_39 (by decide) rfl ?_
    refine ae_iret dX7_queuedAt_40 rfl rfl ?_
    exact ⟨⟨_, rfl, (by decide), (by decide)⟩, rfl⟩
  · have c2 := i_ne (a := x1.toInt) (b := 0) rfl (by decide) c2
    refine ae_iload_n (q := 8) dX7_queuedAt_7 rfl rfl rfl ?_
    refine ae_aload_n (q := 9) dX7_queuedAt_8 rfl rfl rfl ?_
    refine ae_getI (q := 12) dX7_queuedAt_9 fl_X7_138 rfl (h.s l288 t288) (h.l l288) rfl ?_
    obtain ⟨x3, e3, u3, v3⟩ := rdi (h.i l288 t288 (k := 31) (p := (0, 3)) rfl)
    refine ae_eqi e3 ?_
    refine ae_icmp_ge (t := 39) (q := 15) dX7_queuedAt_12 (by decide) rfl (fun c4 => ?_) (fun c4 => ?_)
    · have c4 := i_le (a := x3.toInt) (b := a1.toInt) rfl rfl c4
      refine ae_iconst (v := (-1)) (q := 40) dX7_queuedAt_39 (by decide) rfl ?_
      refine ae_iret dX7_queuedAt_40 rfl rfl ?_
      exact ⟨⟨_, rfl, (by decide), (by decide)⟩, rfl⟩
    · have c4 := i_nle (a := x3.toInt) (b := a1.toInt) rfl rfl c4
      refine ae_iload_n (q := 16) dX7_queuedAt_15 rfl rfl rfl ?_
      refine ae_aload_n (q := 17) dX7_queuedAt_16 rfl rfl rfl ?_
      refine ae_getR (q := 20) dX7_queuedAt_17 fl_X7_92 rfl (h.s l288 t288) (h.l l288) (h.mr (k := 27) (b := 316) (by decide) rfl) rfl ?_
      refine ae_iload_n (q := 21) dX7_queuedAt_20 rfl rfl rfl ?_
      refine ae_iald (q := 22) dX7_queuedAt_21 (h.s l316 t316) (h.l l316) (vin (by omega) (by omega)) rfl ?_
      obtain ⟨x5, e5, u5, v5⟩ := rdi (h.i l316 t316 (k := a1.toNatClampNeg) (p := (0, 48)) rfl)
      refine ae_eqi e5 ?_
      refine ae_icmp_ge (t := 39) (q := 25) dX7_queuedAt_22 (by decide) rfl (fun c6 => ?_) (fun c6 => ?_)
      · have c6 := i_le (a := x5.toInt) (b := a2.toInt) rfl rfl c6
        refine ae_iconst (v := (-1)) (q := 40) dX7_queuedAt_39 (by decide) rfl ?_
        refine ae_iret dX7_queuedAt_40 rfl rfl ?_
        exact ⟨⟨_, rfl, (by decide), (by decide)⟩, rfl⟩
      · have c6 := i_nle (a := x5.toInt) (b := a2.toInt) rfl rfl c6
        refine ae_aload_n (q := 26) dX7_queuedAt_25 rfl rfl rfl ?_
        refine ae_getR (q := 29) dX7_queuedAt_26 fl_X7_95 rfl (h.s l288 t288) (h.l l288) (h.mr (k := 28) (b := 317) (by decide) rfl) rfl ?_
        refine ae_bipush (v := 48) (q := 31) dX7_queuedAt_29 (by decide) rfl ?_
        refine ae_iload_n (q := 32) dX7_queuedAt_31 rfl rfl rfl ?_
        refine ae_imul (q := 33) dX7_queuedAt_32 rfl ?_
        obtain ⟨x7, e7⟩ : ∃ z, 48 * a1 = z := ⟨_, rfl⟩
        refine ae_eqi e7 ?_
        have f7 : x7.toInt = 48 * a1.toInt := by rw [← e7]; exact i_mul (by decide) rfl (by omega) (by omega)
        refine ae_iload_n (q := 34) dX7_queuedAt_33 rfl rfl rfl ?_
        refine ae_iadd (q := 35) dX7_queuedAt_34 rfl ?_
        obtain ⟨x8, e8⟩ : ∃ z, x7 + a2 = z := ⟨_, rfl⟩
        refine ae_eqi e8 ?_
        have f8 : x8.toInt = x7.toInt + a2.toInt := by rw [← e8]; exact i_add rfl rfl (by omega) (by omega)
        refine ae_iald (q := 36) dX7_queuedAt_35 (h.s l317 t317) (h.l l317) (vin (by omega) (by omega)) rfl ?_
        obtain ⟨x9, e9, u9, v9⟩ := rdi (h.i l317 t317 (k := x8.toNatClampNeg) (p := (0, 47)) rfl)
        refine ae_eqi e9 ?_
        refine ae_goto (q := 40) dX7_queuedAt_36 (by decide) ?_
        refine ae_iret dX7_queuedAt_40 rfl rfl ?_
        exact ⟨⟨_, rfl, (by omega), (by omega)⟩, rfl⟩
set_option maxRecDepth 100000 in
set_option maxHeartbeats 4000000 in
theorem c_X7_count {ox : List (Nat × (Nat → Int32))} {d N : Nat} {B H : am_H} {a1 : Int32}  (h : jm N B 320 H)  : am_DB 0 ox (d + 1) yX7_count mX7_count [.ref 288, .int a1] H (fun o H1 => (∃ v : Int32, o = .inl (some (.int v))) ∧ jm N B 320 H1 ∧ dl H1 = dl H ∧ am_gi H1 288 39 = am_gi H 288 39) := by
  refine ae_enter rfl rfl rfl rfl (Nat.le_of_ble_eq_true rfl) ?_
  show am_EB 0 ox (d + 1) mX7_count 0 [(0, .ref 288), (1, .int a1)] [] H _
  have hz : am_gi H 288 39 = am_gi H 288 39 := rfl
  refine ae_iload_n (q := 1) dX7_count_0 rfl rfl rfl ?_
  refine ae_bipush (v := 20) (q := 3) dX7_count_1 (by decide) rfl ?_
  refine ae_bipush (v := 22) (q := 5) dX7_count_3 (by decide) rfl ?_
  refine ae_wX7 (q := 8) dX7_count_5 lk_X7_105 (Nat.le_of_ble_eq_true rfl) rfl (fun c1 => ?_) (fun c1 => ?_)
  · have d1 := i_le (a := 20) (b := a1.toInt) (by decide) rfl c1.1
    have f1 := i_le (a := a1.toInt) (b := 22) rfl (by decide) c1.2
    refine ae_if_ne (t := 45) (q := 11) dX7_count_8 (by decide) rfl (fun _ => ?_) (fun h => absurd h (by decide))
    refine ae_iconst (v := 1) (q := 46) dX7_count_45 (by decide) rfl ?_
    refine ae_goto (q := 50) dX7_count_46 (by decide) ?_
    refine ae_istore_n (lv' := [(2, .int 1), (0, .ref 288), (1, .int a1)]) (q := 51) dX7_count_50 rfl (by decide) rfl rfl ?_
    refine ae_iload_n (q := 52) dX7_count_51 rfl rfl rfl ?_
    refine ae_iconst (v := 0) (q := 53) dX7_count_52 (by decide) rfl ?_
    refine ae_bipush (v := 10) (q := 55) dX7_count_53 (by decide) rfl ?_
    refine ae_wX7 (q := 58) dX7_count_55 lk_X7_105 (Nat.le_of_ble_eq_true rfl) rfl (fun c2 => ?_) (fun c2 => ?_)
    · have d2 := i_le (a := 0) (b := a1.toInt) (by decide) rfl c2.1
      have f2 := i_le (a := a1.toInt) (b := 10) rfl (by decide) c2.2
      refine ae_if_ne (t := 71) (q := 61) dX7_count_58 (by decide) rfl (fun _ => ?_) (fun h => absurd h (by decide))
      refine ae_aload_n (q := 72) dX7_count_71 rfl rfl rfl ?_
      refine ae_iconst (v := 0) (q := 73) dX7_count_72 (by decide) rfl ?_
      refine ae_putI (q := 76) dX7_count_73 fl_X7_101 rfl rfl rfl (h.s l288 t288) (h.l l288) rfl ?_
      refine ae_gen (fun G3 g3 => ?_)
      have h : jm N B 320 G3 := by rw [g3]; exact h.w t288 (by decide) (by decide) (by decide) inr_any
      have q3 : dl G3 = dl H := by rw [g3]; exact dl_ne (by decide) (by decide) (by decide) (fun q => absurd q.2 (by decide))
      have hz : am_gi G3 288 39 = am_gi H 288 39 := by rw [g3]; exact gi_si hz (fun q => absurd q.2 (by decide))
      refine ae_iload_n (q := 77) dX7_count_76 rfl rfl rfl ?_
      refine ae_bipush (v := 99) (q := 79) dX7_count_77 (by decide) rfl ?_
      refine ae_icmp_le (t := 92) (q := 82) dX7_count_79 (by decide) rfl (fun c4 => ?_) (fun c4 => ?_)
      · have c4 := i_le (a := a1.toInt) (b := 99) rfl (by decide) c4
        exfalso; omega
      · have c4 := i_nle (a := a1.toInt) (b := 99) rfl (by decide) c4
        exfalso; omega
    · have d2 := i_out (a := 0) (b := a1.toInt) (c := 10) (by decide) rfl (by decide) c2
      refine ae_if_ne (t := 71) (q := 61) dX7_count_58 (by decide) rfl (fun h => absurd h (by decide)) (fun _ => ?_)
      refine ae_iload_n (q := 62) dX7_count_61 rfl rfl rfl ?_
      refine ae_if_ne (t := 71) (q := 65) dX7_count_62 (by decide) rfl (fun _ => ?_) (fun h => absurd h (by decide))
      refine ae_aload_n (q := 72) dX7_count_71 rfl rfl rfl ?_
      refine ae_iconst (v := 0) (q := 73) dX7_count_72 (by decide) rfl ?_
      refine ae_putI (q := 76) dX7_count_73 fl_X7_101 rfl rfl rfl (h.s l288 t288) (h.l l288) rfl ?_
      refine ae_gen (fun G5 g5 => ?_)
      have h : jm N B 320 G5 := by rw [g5]; exact h.w t288 (by decide) (by decide) (by decide) inr_any
      have q5 : dl G5 = dl H := by rw [g5]; exact dl_ne (by decide) (by decide) (by decide) (fun q => absurd q.2 (by decide))
      have hz : am_gi G5 288 39 = am_gi H 288 39 := by rw [g5]; exact gi_si hz (fun q => absurd q.2 (by decide))
      refine ae_iload_n (q := 77) dX7_count_76 rfl rfl rfl ?_
      refine ae_bipush (v := 99) (q := 79) dX7_count_77 (by decide) rfl ?_
      refine ae_icmp_le (t := 92) (q := 82) dX7_count_79 (by decide) rfl (fun c6 => ?_) (fun c6 => ?_)
      · have c6 := i_le (a := a1.toInt) (b := 99) rfl (by decide) c6
        refine ae_iload_n (q := 93) dX7_count_92 rfl rfl rfl ?_
        refine ae_bipush (v := 39) (q := 95) dX7_count_93 (by decide) rfl ?_
        refine ae_icmp_le (t := 108) (q := 98) dX7_count_95 (by decide) rfl (fun c7 => ?_) (fun c7 => ?_)
        · have c7 := i_le (a := a1.toInt) (b := 39) rfl (by decide) c7
          refine ae_iload_n (q := 109) dX7_count_108 rfl rfl rfl ?_
          refine ae_bipush (v := 29) (q := 111) dX7_count_109 (by decide) rfl ?_
          refine ae_icmp_le (t := 146) (q := 114) dX7_count_111 (by decide) rfl (fun c8 => ?_) (fun c8 => ?_)
          · have c8 := i_le (a := a1.toInt) (b := 29) rfl (by decide) c8
            refine ae_iload_n (q := 147) dX7_count_146 rfl rfl rfl ?_
            refine ae_bipush (v := 19) (q := 149) dX7_count_147 (by decide) rfl ?_
            refine ae_icmp_le (t := 184) (q := 152) dX7_count_149 (by decide) rfl (fun c9 => ?_) (fun c9 => ?_)
            · have c9 := i_le (a := a1.toInt) (b := 19) rfl (by decide) c9
              exfalso; omega
            · have c9 := i_nle (a := a1.toInt) (b := 19) rfl (by decide) c9
              refine ae_aload_n (q := 153) dX7_count_152 rfl rfl rfl ?_
              refine ae_getI (q := 156) dX7_count_153 fl_X7_122 rfl (h.s l288 t288) (h.l l288) rfl ?_
              obtain ⟨x10, e10, u10, v10⟩ := rdi (h.i l288 t288 (k := 39) (p := (0, 1)) rfl)
              refine ae_eqi e10 ?_
              refine ae_if_eq (t := 182) (q := 159) dX7_count_156 (by decide) rfl (fun c11 => ?_) (fun c11 => ?_)
              · have c11 := i_eq (a := x10.toInt) (b := 0) rfl (by decide) c11
                refine ae_iconst (v := (-1)) (q := 183) dX7_count_182 (by decide) rfl ?_
                refine ae_iret dX7_count_183 rfl rfl ?_
                exact ⟨⟨_, rfl⟩, ⟨h, by omega, hz⟩⟩
              · have c11 := i_ne (a := x10.toInt) (b := 0) rfl (by decide) c11
                refine ae_iload_n (q := 160) dX7_count_159 rfl rfl rfl ?_
                refine ae_bipush (v := 20) (q := 162) dX7_count_160 (by decide) rfl ?_
                refine ae_isub (q := 163) dX7_count_162 rfl ?_
                obtain ⟨x12, e12⟩ : ∃ z, a1 - 20 = z := ⟨_, rfl⟩
                refine ae_eqi e12 ?_
                have f12 : x12.toInt = a1.toInt - 20 := by rw [← e12]; exact i_sub rfl (by decide) (by omega) (by omega)
                refine ae_aload_n (q := 164) dX7_count_163 rfl rfl rfl ?_
                refine ae_getI (q := 167) dX7_count_164 fl_X7_138 rfl (h.s l288 t288) (h.l l288) rfl ?_
                obtain ⟨x13, e13, u13, v13⟩ := rdi (h.i l288 t288 (k := 31) (p := (0, 3)) rfl)
                refine ae_eqi e13 ?_
                refine ae_icmp_ge (t := 182) (q := 170) dX7_count_167 (by decide) rfl (fun c14 => ?_) (fun c14 => ?_)
                · have c14 := i_le (a := x13.toInt) (b := x12.toInt) rfl rfl c14
                  refine ae_iconst (v := (-1)) (q := 183) dX7_count_182 (by decide) rfl ?_
                  refine ae_iret dX7_count_183 rfl rfl ?_
                  exact ⟨⟨_, rfl⟩, ⟨h, by omega, hz⟩⟩
                · have c14 := i_nle (a := x13.toInt) (b := x12.toInt) rfl rfl c14
                  refine ae_aload_n (q := 171) dX7_count_170 rfl rfl rfl ?_
                  refine ae_getR (q := 174) dX7_count_171 fl_X7_89 rfl (h.s l288 t288) (h.l l288) (h.mr (k := 26) (b := 315) (by decide) rfl) rfl ?_
                  refine ae_iload_n (q := 175) dX7_count_174 rfl rfl rfl ?_
                  refine ae_bipush (v := 20) (q := 177) dX7_count_175 (by decide) rfl ?_
                  refine ae_isub (q := 178) dX7_count_177 rfl ?_
                  refine ae_eqi e12 ?_
                  refine ae_iald (q := 179) dX7_count_178 (h.s l315 t315) (h.l l315) (vin (by omega) (by omega)) rfl ?_
                  obtain ⟨x15, e15, u15, v15⟩ := rdi (h.i l315 t315 (k := x12.toNatClampNeg) (p := ((-1), 47)) rfl)
                  refine ae_eqi e15 ?_
                  refine ae_goto (q := 183) dX7_count_179 (by decide) ?_
                  refine ae_iret dX7_count_183 rfl rfl ?_
                  exact ⟨⟨_, rfl⟩, ⟨h, by omega, hz⟩⟩
          · have c8 := i_nle (a := a1.toInt) (b := 29) rfl (by decide) c8
            exfalso; omega
        · have c7 := i_nle (a := a1.toInt) (b := 39) rfl (by decide) c7
          exfalso; omega
      · have c6 := i_nle (a := a1.toInt) (b := 99) rfl (by decide) c6
        exfalso; omega
  · have d1 := i_out (a := 20) (b := a1.toInt) (c := 22) (by decide) rfl (by decide) c1
    refine ae_if_ne (t := 45) (q := 11) dX7_count_8 (by decide) rfl (fun h => absurd h (by decide)) (fun _ => ?_)
    refine ae_iload_n (q := 12) dX7_count_11 rfl rfl rfl ?_
    refine ae_bipush (v := 30) (q := 14) dX7_count_12 (by decide) rfl ?_
    refine ae_bipush (v := 32) (q := 16) dX7_count_14 (by decide) rfl ?_
    refine ae_wX7 (q := 19) dX7_count_16 lk_X7_105 (Nat.le_of_ble_eq_true rfl) rfl (fun c16 => ?_) (fun c16 => ?_)
    · have d16 := i_le (a := 30) (b := a1.toInt) (by decide) rfl c16.1
      have f16 := i_le (a := a1.toInt) (b := 32) rfl (by decide) c16.2
      refine ae_if_ne (t := 45) (q := 22) dX7_count_19 (by decide) rfl (fun _ => ?_) (fun h => absurd h (by decide))
      refine ae_iconst (v := 1) (q := 46) dX7_count_45 (by decide) rfl ?_
      refine ae_goto (q := 50) dX7_count_46 (by decide) ?_
      refine ae_istore_n (lv' := [(2, .int 1), (0, .ref 288), (1, .int a1)]) (q := 51) dX7_count_50 rfl (by decide) rfl rfl ?_
      refine ae_iload_n (q := 52) dX7_count_51 rfl rfl rfl ?_
      refine ae_iconst (v := 0) (q := 53) dX7_count_52 (by decide) rfl ?_
      refine ae_bipush (v := 10) (q := 55) dX7_count_53 (by decide) rfl ?_
      refine ae_wX7 (q := 58) dX7_count_55 lk_X7_105 (Nat.le_of_ble_eq_true rfl) rfl (fun c17 => ?_) (fun c17 => ?_)
      · have d17 := i_le (a := 0) (b := a1.toInt) (by decide) rfl c17.1
        have f17 := i_le (a := a1.toInt) (b := 10) rfl (by decide) c17.2
        refine ae_if_ne (t := 71) (q := 61) dX7_count_58 (by decide) rfl (fun _ => ?_) (fun h => absurd h (by decide))
        refine ae_aload_n (q := 72) dX7_count_71 rfl rfl rfl ?_
        refine ae_iconst (v := 0) (q := 73) dX7_count_72 (by decide) rfl ?_
        refine ae_putI (q := 76) dX7_count_73 fl_X7_101 rfl rfl rfl (h.s l288 t288) (h.l l288) rfl ?_
        refine ae_gen (fun G18 g18 => ?_)
        have h : jm N B 320 G18 := by rw [g18]; exact h.w t288 (by decide) (by decide) (by decide) inr_any
        have q18 : dl G18 = dl H := by rw [g18]; exact dl_ne (by decide) (by decide) (by decide) (fun q => absurd q.2 (by decide))
        have hz : am_gi G18 288 39 = am_gi H 288 39 := by rw [g18]; exact gi_si hz (fun q => absurd q.2 (by decide))
        refine ae_iload_n (q := 77) dX7_count_76 rfl rfl rfl ?_
        refine ae_bipush (v := 99) (q := 79) dX7_count_77 (by decide) rfl ?_
        refine ae_icmp_le (t := 92) (q := 82) dX7_count_79 (by decide) rfl (fun c19 => ?_) (fun c19 => ?_)
        · have c19 := i_le (a := a1.toInt) (b := 99) rfl (by decide) c19
          exfalso; omega
        · have c19 := i_nle (a := a1.toInt) (b := 99) rfl (by decide) c19
          exfalso; omega
      · have d17 := i_out (a := 0) (b := a1.toInt) (c := 10) (by decide) rfl (by decide) c17
        refine ae_if_ne (t := 71) (q := 61) dX7_count_58 (by decide) rfl (fun h => absurd h (by decide)) (fun _ => ?_)
        refine ae_iload_n (q := 62) dX7_count_61 rfl rfl rfl ?_
        refine ae_if_ne (t := 71) (q := 65) dX7_count_62 (by decide) rfl (fun _ => ?_) (fun h => absurd h (by decide))
        refine ae_aload_n (q := 72) dX7_count_71 rfl rfl rfl ?_
        refine ae_iconst (v := 0) (q := 73) dX7_count_72 (by decide) rfl ?_
        refine ae_putI (q := 76) dX7_count_73 fl_X7_101 rfl rfl rfl (h.s l288 t288) (h.l l288) rfl ?_
        refine ae_gen (fun G20 g20 => ?_)
        have h : jm N B 320 G20 := by rw [g20]; exact h.w t288 (by decide) (by decide) (by decide) inr_any
        have q20 : dl G20 = dl H := by rw [g20]; exact dl_ne (by decide) (by decide) (by decide) (fun q => absurd q.2 (by decide))
        have hz : am_gi G20 288 39 = am_gi H 288 39 := by rw [g20]; exact gi_si hz (fun q => absurd q.2 (by decide))
        refine ae_iload_n (q := 77) dX7_count_76 rfl rfl rfl ?_
        refine ae_bipush (v := 99) (q := 79) dX7_count_77 (by decide) rfl ?_
        refine ae_icmp_le (t := 92) (q := 82) dX7_count_79 (by decide) rfl (fun c21 => ?_) (fun c21 => ?_)
        · have c21 := i_le (a := a1.toInt) (b := 99) rfl (by decide) c21
          refine ae_iload_n (q := 93) dX7_count_92 rfl rfl rfl ?_
          refine ae_bipush (v := 39) (q := 95) dX7_count_93 (by decide) rfl ?_
          refine ae_icmp_le (t := 108) (q := 98) dX7_count_95 (by decide) rfl (fun c22 => ?_) (fun c22 => ?_)
          · have c22 := i_le (a := a1.toInt) (b := 39) rfl (by decide) c22
            refine ae_iload_n (q := 109) dX7_count_108 rfl rfl rfl ?_
            refine ae_bipush (v := 29) (q := 111) dX7_count_109 (by decide) rfl ?_
            refine ae_icmp_le (t := 146) (q := 114) dX7_count_111 (by decide) rfl (fun c23 => ?_) (fun c23 => ?_)
            · have c23 := i_le (a := a1.toInt) (b := 29) rfl (by decide) c23
              exfalso; omega
            · have c23 := i_nle (a := a1.toInt) (b := 29) rfl (by decide) c23
              refine ae_aload_n (q := 115) dX7_count_114 rfl rfl rfl ?_
              refine ae_getI (q := 118) dX7_count_115 fl_X7_122 rfl (h.s l288 t288) (h.l l288) rfl ?_
              obtain ⟨x24, e24, u24, v24⟩ := rdi (h.i l288 t288 (k := 39) (p := (0, 1)) rfl)
              refine ae_eqi e24 ?_
              refine ae_if_eq (t := 144) (q := 121) dX7_count_118 (by decide) rfl (fun c25 => ?_) (fun c25 => ?_)
              · have c25 := i_eq (a := x24.toInt) (b := 0) rfl (by decide) c25
                refine ae_iconst (v := 0) (q := 145) dX7_count_144 (by decide) rfl ?_
                refine ae_iret dX7_count_145 rfl rfl ?_
                exact ⟨⟨_, rfl⟩, ⟨h, by omega, hz⟩⟩
              · have c25 := i_ne (a := x24.toInt) (b := 0) rfl (by decide) c25
                refine ae_iload_n (q := 122) dX7_count_121 rfl rfl rfl ?_
                refine ae_bipush (v := 30) (q := 124) dX7_count_122 (by decide) rfl ?_
                refine ae_isub (q := 125) dX7_count_124 rfl ?_
                obtain ⟨x26, e26⟩ : ∃ z, a1 - 30 = z := ⟨_, rfl⟩
                refine ae_eqi e26 ?_
                have f26 : x26.toInt = a1.toInt - 30 := by rw [← e26]; exact i_sub rfl (by decide) (by omega) (by omega)
                refine ae_aload_n (q := 126) dX7_count_125 rfl rfl rfl ?_
                refine ae_getI (q := 129) dX7_count_126 fl_X7_138 rfl (h.s l288 t288) (h.l l288) rfl ?_
                obtain ⟨x27, e27, u27, v27⟩ := rdi (h.i l288 t288 (k := 31) (p := (0, 3)) rfl)
                refine ae_eqi e27 ?_
                refine ae_icmp_ge (t := 144) (q := 132) dX7_count_129 (by decide) rfl (fun c28 => ?_) (fun c28 => ?_)
                · have c28 := i_le (a := x27.toInt) (b := x26.toInt) rfl rfl c28
                  refine ae_iconst (v := 0) (q := 145) dX7_count_144 (by decide) rfl ?_
                  refine ae_iret dX7_count_145 rfl rfl ?_
                  exact ⟨⟨_, rfl⟩, ⟨h, by omega, hz⟩⟩
                · have c28 := i_nle (a := x27.toInt) (b := x26.toInt) rfl rfl c28
                  refine ae_aload_n (q := 133) dX7_count_132 rfl rfl rfl ?_
                  refine ae_getR (q := 136) dX7_count_133 fl_X7_92 rfl (h.s l288 t288) (h.l l288) (h.mr (k := 27) (b := 316) (by decide) rfl) rfl ?_
                  refine ae_iload_n (q := 137) dX7_count_136 rfl rfl rfl ?_
                  refine ae_bipush (v := 30) (q := 139) dX7_count_137 (by decide) rfl ?_
                  refine ae_isub (q := 140) dX7_count_139 rfl ?_
                  refine ae_eqi e26 ?_
                  refine ae_iald (q := 141) dX7_count_140 (h.s l316 t316) (h.l l316) (vin (by omega) (by omega)) rfl ?_
                  obtain ⟨x29, e29, u29, v29⟩ := rdi (h.i l316 t316 (k := x26.toNatClampNeg) (p := (0, 48)) rfl)
                  refine ae_eqi e29 ?_
                  refine ae_goto (q := 145) dX7_count_141 (by decide) ?_
                  refine ae_iret dX7_count_145 rfl rfl ?_
                  exact ⟨⟨_, rfl⟩, ⟨h, by omega, hz⟩⟩
          · have c22 := i_nle (a := a1.toInt) (b := 39) rfl (by decide) c22
            exfalso; omega
        · have c21 := i_nle (a := a1.toInt) (b := 99) rfl (by decide) c21
          exfalso; omega
    · have d16 := i_out (a := 30) (b := a1.toInt) (c := 32) (by decide) rfl (by decide) c16
      refine ae_if_ne (t := 45) (q := 22) dX7_count_19 (by decide) rfl (fun h => absurd h (by decide)) (fun _ => ?_)
      refine ae_iload_n (q := 23) dX7_count_22 rfl rfl rfl ?_
      refine ae_bipush (v := 40) (q := 25) dX7_count_23 (by decide) rfl ?_
      refine ae_bipush (v := 87) (q := 27) dX7_count_25 (by decide) rfl ?_
      refine ae_wX7 (q := 30) dX7_count_27 lk_X7_105 (Nat.le_of_ble_eq_true rfl) rfl (fun c30 => ?_) (fun c30 => ?_)
      · have d30 := i_le (a := 40) (b := a1.toInt) (by decide) rfl c30.1
        have f30 := i_le (a := a1.toInt) (b := 87) rfl (by decide) c30.2
        refine ae_if_ne (t := 45) (q := 33) dX7_count_30 (by decide) rfl (fun _ => ?_) (fun h => absurd h (by decide))
        refine ae_iconst (v := 1) (q := 46) dX7_count_45 (by decide) rfl ?_
        refine ae_goto (q := 50) dX7_count_46 (by decide) ?_
        refine ae_istore_n (lv' := [(2, .int 1), (0, .ref 288), (1, .int a1)]) (q := 51) dX7_count_50 rfl (by decide) rfl rfl ?_
        refine ae_iload_n (q := 52) dX7_count_51 rfl rfl rfl ?_
        refine ae_iconst (v := 0) (q := 53) dX7_count_52 (by decide) rfl ?_
        refine ae_bipush (v := 10) (q := 55) dX7_count_53 (by decide) rfl ?_
        refine ae_wX7 (q := 58) dX7_count_55 lk_X7_105 (Nat.le_of_ble_eq_true rfl) rfl (fun c31 => ?_) (fun c31 => ?_)
        · have d31 := i_le (a := 0) (b := a1.toInt) (by decide) rfl c31.1
          have f31 := i_le (a := a1.toInt) (b := 10) rfl (by decide) c31.2
          refine ae_if_ne (t := 71) (q := 61) dX7_count_58 (by decide) rfl (fun _ => ?_) (fun h => absurd h (by decide))
          refine ae_aload_n (q := 72) dX7_count_71 rfl rfl rfl ?_
          refine ae_iconst (v := 0) (q := 73) dX7_count_72 (by decide) rfl ?_
          refine ae_putI (q := 76) dX7_count_73 fl_X7_101 rfl rfl rfl (h.s l288 t288) (h.l l288) rfl ?_
          refine ae_gen (fun G32 g32 => ?_)
          have h : jm N B 320 G32 := by rw [g32]; exact h.w t288 (by decide) (by decide) (by decide) inr_any
          have q32 : dl G32 = dl H := by rw [g32]; exact dl_ne (by decide) (by decide) (by decide) (fun q => absurd q.2 (by decide))
          have hz : am_gi G32 288 39 = am_gi H 288 39 := by rw [g32]; exact gi_si hz (fun q => absurd q.2 (by decide))
          refine ae_iload_n (q := 77) dX7_count_76 rfl rfl rfl ?_
          refine ae_bipush (v := 99) (q := 79) dX7_count_77 (by decide) rfl ?_
          refine ae_icmp_le (t := 92) (q := 82) dX7_count_79 (by decide) rfl (fun c33 => ?_) (fun c33 => ?_)
          · have c33 := i_le (a := a1.toInt) (b := 99) rfl (by decide) c33
            exfalso; omega
          · have c33 := i_nle (a := a1.toInt) (b := 99) rfl (by decide) c33
            exfalso; omega
        · have d31 := i_out (a := 0) (b := a1.toInt) (c := 10) (by decide) rfl (by decide) c31
          refine ae_if_ne (t := 71) (q := 61) dX7_count_58 (by decide) rfl (fun h => absurd h (by decide)) (fun _ => ?_)
          refine ae_iload_n (q := 62) dX7_count_61 rfl rfl rfl ?_
          refine ae_if_ne (t := 71) (q := 65) dX7_count_62 (by decide) rfl (fun _ => ?_) (fun h => absurd h (by decide))
          refine ae_aload_n (q := 72) dX7_count_71 rfl rfl rfl ?_
          refine ae_iconst (v := 0) (q := 73) dX7_count_72 (by decide) rfl ?_
          refine ae_putI (q := 76) dX7_count_73 fl_X7_101 rfl rfl rfl (h.s l288 t288) (h.l l288) rfl ?_
          refine ae_gen (fun G34 g34 => ?_)
          have h : jm N B 320 G34 := by rw [g34]; exact h.w t288 (by decide) (by decide) (by decide) inr_any
          have q34 : dl G34 = dl H := by rw [g34]; exact dl_ne (by decide) (by decide) (by decide) (fun q => absurd q.2 (by decide))
          have hz : am_gi G34 288 39 = am_gi H 288 39 := by rw [g34]; exact gi_si hz (fun q => absurd q.2 (by decide))
          refine ae_iload_n (q := 77) dX7_count_76 rfl rfl rfl ?_
          refine ae_bipush (v := 99) (q := 79) dX7_count_77 (by decide) rfl ?_
          refine ae_icmp_le (t := 92) (q := 82) dX7_count_79 (by decide) rfl (fun c35 => ?_) (fun c35 => ?_)
          · have c35 := i_le (a := a1.toInt) (b := 99) rfl (by decide) c35
            refine ae_iload_n (q := 93) dX7_count_92 rfl rfl rfl ?_
            refine ae_bipush (v := 39) (q := 95) dX7_count_93 (by decide) rfl ?_
            refine ae_icmp_le (t := 108) (q := 98) dX7_count_95 (by decide) rfl (fun c36 => ?_) (fun c36 => ?_)
            · have c36 := i_le (a := a1.toInt) (b := 39) rfl (by decide) c36
              exfalso; omega
            · have c36 := i_nle (a := a1.toInt) (b := 39) rfl (by decide) c36
              refine ae_aload_n (q := 99) dX7_count_98 rfl rfl rfl ?_
              refine ae_iconst (v := 0) (q := 100) dX7_count_99 (by decide) rfl ?_
              refine ae_iload_n (q := 101) dX7_count_100 rfl rfl rfl ?_
              refine ae_bipush (v := 40) (q := 103) dX7_count_101 (by decide) rfl ?_
              refine ae_isub (q := 104) dX7_count_103 rfl ?_
              obtain ⟨x37, e37⟩ : ∃ z, a1 - 40 = z := ⟨_, rfl⟩
              refine ae_eqi e37 ?_
              have f37 : x37.toInt = a1.toInt - 40 := by rw [← e37]; exact i_sub rfl (by decide) (by omega) (by omega)
              refine ae_callV (ci := 7) (as := [.int 0, .int x37]) (b := 288) (st := []) (q := 107) dX7_count_104 (c_X7_queuedAt (N := N) (d := d) h (by decide) (by decide) (by omega) (by omega)) myX7_queuedAt lk_X7_225 im_X7_queuedAt se_X7_queuedAt rfl (by decide) (h.s l288 t288) (h.l l288) rfl rfl (Nat.le_of_ble_eq_true rfl) rfl (fun o H1 hh => ⟨_, hh.1.choose_spec.1⟩) (fun vv G38 hv => ?_)
              obtain ⟨⟨x38, o38, u38, v38⟩, z38⟩ := hv
              cases o38
              have z38 := z38.symm
              subst z38
              refine ⟨Or.inl rfl, ?_⟩
              refine ae_iret dX7_count_107 rfl rfl ?_
              exact ⟨⟨_, rfl⟩, ⟨h, by omega, hz⟩⟩
          · have c35 := i_nle (a := a1.toInt) (b := 99) rfl (by decide) c35
            exfalso; omega
      · have d30 := i_out (a := 40) (b := a1.toInt) (c := 87) (by decide) rfl (by decide) c30
        refine ae_if_ne (t := 45) (q := 33) dX7_count_30 (by decide) rfl (fun h => absurd h (by decide)) (fun _ => ?_)
        refine ae_iload_n (q := 34) dX7_count_33 rfl rfl rfl ?_
        refine ae_bipush (v := 100) (q := 36) dX7_count_34 (by decide) rfl ?_
        refine ae_sipush (v := 147) (q := 39) dX7_count_36 (by decide) rfl ?_
        refine ae_wX7 (q := 42) dX7_count_39 lk_X7_105 (Nat.le_of_ble_eq_true rfl) rfl (fun c39 => ?_) (fun c39 => ?_)
        · have d39 := i_le (a := 100) (b := a1.toInt) (by decide) rfl c39.1
          have f39 := i_le (a := a1.toInt) (b := 147) rfl (by decide) c39.2
          refine ae_if_eq (t := 49) (q := 45) dX7_count_42 (by decide) rfl (fun h => absurd h (by decide)) (fun _ => ?_)
          refine ae_iconst (v := 1) (q := 46) dX7_count_45 (by decide) rfl ?_
          refine ae_goto (q := 50) dX7_count_46 (by decide) ?_
          refine ae_istore_n (lv' := [(2, .int 1), (0, .ref 288), (1, .int a1)]) (q := 51) dX7_count_50 rfl (by decide) rfl rfl ?_
          refine ae_iload_n (q := 52) dX7_count_51 rfl rfl rfl ?_
          refine ae_iconst (v := 0) (q := 53) dX7_count_52 (by decide) rfl ?_
          refine ae_bipush (v := 10) (q := 55) dX7_count_53 (by decide) rfl ?_
          refine ae_wX7 (q := 58) dX7_count_55 lk_X7_105 (Nat.le_of_ble_eq_true rfl) rfl (fun c40 => ?_) (fun c40 => ?_)
          · have d40 := i_le (a := 0) (b := a1.toInt) (by decide) rfl c40.1
            have f40 := i_le (a := a1.toInt) (b := 10) rfl (by decide) c40.2
            refine ae_if_ne (t := 71) (q := 61) dX7_count_58 (by decide) rfl (fun _ => ?_) (fun h => absurd h (by decide))
            refine ae_aload_n (q := 72) dX7_count_71 rfl rfl rfl ?_
            refine ae_iconst (v := 0) (q := 73) dX7_count_72 (by decide) rfl ?_
            refine ae_putI (q := 76) dX7_count_73 fl_X7_101 rfl rfl rfl (h.s l288 t288) (h.l l288) rfl ?_
            refine ae_gen (fun G41 g41 => ?_)
            have h : jm N B 320 G41 := by rw [g41]; exact h.w t288 (by decide) (by decide) (by decide) inr_any
            have q41 : dl G41 = dl H := by rw [g41]; exact dl_ne (by decide) (by decide) (by decide) (fun q => absurd q.2 (by decide))
            have hz : am_gi G41 288 39 = am_gi H 288 39 := by rw [g41]; exact gi_si hz (fun q => absurd q.2 (by decide))
            refine ae_iload_n (q := 77) dX7_count_76 rfl rfl rfl ?_
            refine ae_bipush (v := 99) (q := 79) dX7_count_77 (by decide) rfl ?_
            refine ae_icmp_le (t := 92) (q := 82) dX7_count_79 (by decide) rfl (fun c42 => ?_) (fun c42 => ?_)
            · have c42 := i_le (a := a1.toInt) (b := 99) rfl (by decide) c42
              exfalso; omega
            · have c42 := i_nle (a := a1.toInt) (b := 99) rfl (by decide) c42
              exfalso; omega
          · have d40 := i_out (a := 0) (b := a1.toInt) (c := 10) (by decide) rfl (by decide) c40
            refine ae_if_ne (t := 71) (q := 61) dX7_count_58 (by decide) rfl (fun h => absurd h (by decide)) (fun _ => ?_)
            refine ae_iload_n (q := 62) dX7_count_61 rfl rfl rfl ?_
            refine ae_if_ne (t := 71) (q := 65) dX7_count_62 (by decide) rfl (fun _ => ?_) (fun h => absurd h (by decide))
            refine ae_aload_n (q := 72) dX7_count_71 rfl rfl rfl ?_
            refine ae_iconst (v := 0) (q := 73) dX7_count_72 (by decide) rfl ?_
            refine ae_putI (q := 76) dX7_count_73 fl_X7_101 rfl rfl rfl (h.s l288 t288) (h.l l288) rfl ?_
            refine ae_gen (fun G43 g43 => ?_)
            have h : jm N B 320 G43 := by rw [g43]; exact h.w t288 (by decide) (by decide) (by decide) inr_any
            have q43 : dl G43 = dl H := by rw [g43]; exact dl_ne (by decide) (by decide) (by decide) (fun q => absurd q.2 (by decide))
            have hz : am_gi G43 288 39 = am_gi H 288 39 := by rw [g43]; exact gi_si hz (fun q => absurd q.2 (by decide))
            refine ae_iload_n (q := 77) dX7_count_76 rfl rfl rfl ?_
            refine ae_bipush (v := 99) (q := 79) dX7_count_77 (by decide) rfl ?_
            refine ae_icmp_le (t := 92) (q := 82) dX7_count_79 (by decide) rfl (fun c44 => ?_) (fun c44 => ?_)
            · have c44 := i_le (a := a1.toInt) (b := 99) rfl (by decide) c44
              exfalso; omega
            · have c44 := i_nle (a := a1.toInt) (b := 99) rfl (by decide) c44
              refine ae_aload_n (q := 83) dX7_count_82 rfl rfl rfl ?_
              refine ae_iconst (v := 1) (q := 84) dX7_count_83 (by decide) rfl ?_
              refine ae_iload_n (q := 85) dX7_count_84 rfl rfl rfl ?_
              refine ae_bipush (v := 100) (q := 87) dX7_count_85 (by decide) rfl ?_
              refine ae_isub (q := 88) dX7_count_87 rfl ?_
              obtain ⟨x45, e45⟩ : ∃ z, a1 - 100 = z := ⟨_, rfl⟩
              refine ae_eqi e45 ?_
              have f45 : x45.toInt = a1.toInt - 100 := by rw [← e45]; exact i_sub rfl (by decide) (by omega) (by omega)
              refine ae_callV (ci := 7) (as := [.int 1, .int x45]) (b := 288) (st := []) (q := 91) dX7_count_88 (c_X7_queuedAt (N := N) (d := d) h (by decide) (by decide) (by omega) (by omega)) myX7_queuedAt lk_X7_225 im_X7_queuedAt se_X7_queuedAt rfl (by decide) (h.s l288 t288) (h.l l288) rfl rfl (Nat.le_of_ble_eq_true rfl) rfl (fun o H1 hh => ⟨_, hh.1.choose_spec.1⟩) (fun vv G46 hv => ?_)
              obtain ⟨⟨x46, o46, u46, v46⟩, z46⟩ := hv
              cases o46
              have z46 := z46.symm
              subst z46
              refine ⟨Or.inl rfl, ?_⟩
              refine ae_iret dX7_count_91 rfl rfl ?_
              exact ⟨⟨_, rfl⟩, ⟨h, by omega, hz⟩⟩
        · have d39 := i_out (a := 100) (b := a1.toInt) (c := 147) (by decide) rfl (by decide) c39
          refine ae_if_eq (t := 49) (q := 45) dX7_count_42 (by decide) rfl (fun _ => ?_) (fun h => absurd h (by decide))
          refine ae_iconst (v := 0) (q := 50) dX7_count_49 (by decide) rfl ?_
          refine ae_istore_n (lv' := [(2, .int 0), (0, .ref 288), (1, .int a1)]) (q := 51) dX7_count_50 rfl (by decide) rfl rfl ?_
          refine ae_iload_n (q := 52) dX7_count_51 rfl rfl rfl ?_
          refine ae_iconst (v := 0) (q := 53) dX7_count_52 (by decide) rfl ?_
          refine ae_bipush (v := 10) (q := 55) dX7_count_53 (by decide) rfl ?_
          refine ae_wX7 (q := 58) dX7_count_55 lk_X7_105 (Nat.le_of_ble_eq_true rfl) rfl (fun c47 => ?_) (fun c47 => ?_)
          · have d47 := i_le (a := 0) (b := a1.toInt) (by decide) rfl c47.1
            have f47 := i_le (a := a1.toInt) (b := 10) rfl (by decide) c47.2
            refine ae_if_ne (t := 71) (q := 61) dX7_count_58 (by decide) rfl (fun _ => ?_) (fun h => absurd h (by decide))
            refine ae_aload_n (q := 72) dX7_count_71 rfl rfl rfl ?_
            refine ae_iconst (v := 0) (q := 73) dX7_count_72 (by decide) rfl ?_
            refine ae_putI (q := 76) dX7_count_73 fl_X7_101 rfl rfl rfl (h.s l288 t288) (h.l l288) rfl ?_
            refine ae_gen (fun G48 g48 => ?_)
            have h : jm N B 320 G48 := by rw [g48]; exact h.w t288 (by decide) (by decide) (by decide) inr_any
            have q48 : dl G48 = dl H := by rw [g48]; exact dl_ne (by decide) (by decide) (by decide) (fun q => absurd q.2 (by decide))
            have hz : am_gi G48 288 39 = am_gi H 288 39 := by rw [g48]; exact gi_si hz (fun q => absurd q.2 (by decide))
            refine ae_iload_n (q := 77) dX7_count_76 rfl rfl rfl ?_
            refine ae_bipush (v := 99) (q := 79) dX7_count_77 (by decide) rfl ?_
            refine ae_icmp_le (t := 92) (q := 82) dX7_count_79 (by decide) rfl (fun c49 => ?_) (fun c49 => ?_)
            · have c49 := i_le (a := a1.toInt) (b := 99) rfl (by decide) c49
              refine ae_iload_n (q := 93) dX7_count_92 rfl rfl rfl ?_
              refine ae_bipush (v := 39) (q := 95) dX7_count_93 (by decide) rfl ?_
              refine ae_icmp_le (t := 108) (q := 98) dX7_count_95 (by decide) rfl (fun c50 => ?_) (fun c50 => ?_)
              · have c50 := i_le (a := a1.toInt) (b := 39) rfl (by decide) c50
                refine ae_iload_n (q := 109) dX7_count_108 rfl rfl rfl ?_
                refine ae_bipush (v := 29) (q := 111) dX7_count_109 (by decide) rfl ?_
                refine ae_icmp_le (t := 146) (q := 114) dX7_count_111 (by decide) rfl (fun c51 => ?_) (fun c51 => ?_)
                · have c51 := i_le (a := a1.toInt) (b := 29) rfl (by decide) c51
                  refine ae_iload_n (q := 147) dX7_count_146 rfl rfl rfl ?_
                  refine ae_bipush (v := 19) (q := 149) dX7_count_147 (by decide) rfl ?_
                  refine ae_icmp_le (t := 184) (q := 152) dX7_count_149 (by decide) rfl (fun c52 => ?_) (fun c52 => ?_)
                  · have c52 := i_le (a := a1.toInt) (b := 19) rfl (by decide) c52
                    refine ae_aload_n (q := 185) dX7_count_184 rfl rfl rfl ?_
                    refine ae_getI (q := 188) dX7_count_185 fl_X7_122 rfl (h.s l288 t288) (h.l l288) rfl ?_
                    obtain ⟨x53, e53, u53, v53⟩ := rdi (h.i l288 t288 (k := 39) (p := (0, 1)) rfl)
                    refine ae_eqi e53 ?_
                    refine ae_if_ne (t := 193) (q := 191) dX7_count_188 (by decide) rfl (fun c54 => ?_) (fun c54 => ?_)
                    · have c54 := i_ne (a := x53.toInt) (b := 0) rfl (by decide) c54
                      refine ae_iconst (v := 0) (q := 194) dX7_count_193 (by decide) rfl ?_
                      refine ae_istore_n (lv' := [(3, .int 0), (2, .int 0), (0, .ref 288), (1, .int a1)]) (q := 195) dX7_count_194 rfl (by decide) rfl rfl ?_
                      refine ae_iconst (v := 0) (q := 196) dX7_count_195 (by decide) rfl ?_
                      refine ae_istore (lv' := [(4, .int 0), (3, .int 0), (2, .int 0), (0, .ref 288), (1, .int a1)]) (q := 198) dX7_count_196 (by decide) rfl rfl ?_
                      have lab198 : ∀ (n55 : Nat) (y55_4 : Int32) (y55_3 : Int32), 0 ≤ y55_4.toInt → y55_4.toInt ≤ 48 → 48 - y55_4.toInt ≤ (n55 : Int) → am_EB 0 ox (d + 1) mX7_count 198 [(4, .int y55_4), (3, .int y55_3), (2, .int 0), (0, .ref 288), (1, .int a1)] [] G48 (fun o H1 => (∃ v : Int32, o = .inl (some (.int v))) ∧ jm N B 320 H1 ∧ dl H1 = dl H ∧ am_gi H1 288 39 = am_gi H 288 39) := by
                        intro n55
                        induction n55 using Nat.strongRecOn with
                        | ind n55 ih55 =>
                          intro y55_4 y55_3 p55_4 q55_4 mm55
                          refine ae_iload (q := 200) dX7_count_198 rfl rfl ?_
                          refine ae_aload_n (q := 201) dX7_count_200 rfl rfl rfl ?_
                          refine ae_getI (q := 204) dX7_count_201 fl_X7_119 rfl (h.s l288 t288) (h.l l288) rfl ?_
                          obtain ⟨x56, e56, u56, v56⟩ := rdi (h.i l288 t288 (k := 30) (p := (0, 48)) rfl)
                          refine ae_eqi e56 ?_
                          refine ae_icmp_ge (t := 227) (q := 207) dX7_count_204 (by decide) rfl (fun c57 => ?_) (fun c57 => ?_)
                          · have c57 := i_le (a := x56.toInt) (b := y55_4.toInt) rfl rfl c57
                            refine ae_iload_n (q := 228) dX7_count_227 rfl rfl rfl ?_
                            have c58 : a1.toInt = 0 ∨ a1.toInt = 1 ∨ a1.toInt = 2 ∨ a1.toInt = 3 ∨ a1.toInt = 4 ∨ a1.toInt = 5 ∨ a1.toInt = 6 ∨ a1.toInt = 7 ∨ a1.toInt = 8 ∨ a1.toInt = 9 ∨ a1.toInt = 10 := by omega
                            rcases c58 with c58 | c58 | c58 | c58 | c58 | c58 | c58 | c58 | c58 | c58 | c58
                            · have j58 : a1 = 0 := Int32.toInt_inj.mp (by rw [c58]; decide)
                              refine ae_tableIn (off := 56) (q := 284) dX7_count_228 (by rw [j58]; decide) (by rw [j58]; decide) (by rw [j58]; decide) (by decide) ?_
                              refine ae_aload_n (q := 285) dX7_count_284 rfl rfl rfl ?_
                              refine ae_getI (q := 288) dX7_count_285 fl_X7_119 rfl (h.s l288 t288) (h.l l288) rfl ?_
                              refine ae_eqi e56 ?_
                              refine ae_iret dX7_count_288 rfl rfl ?_
                              exact ⟨⟨_, rfl⟩, ⟨h, by omega, hz⟩⟩
                            · have j58 : a1 = 1 := Int32.toInt_inj.mp (by rw [c58]; decide)
                              refine ae_tableIn (off := 61) (q := 289) dX7_count_228 (by rw [j58]; decide) (by rw [j58]; decide) (by rw [j58]; decide) (by decide) ?_
                              refine ae_iload_n (q := 290) dX7_count_289 rfl rfl rfl ?_
                              refine ae_iret dX7_count_290 rfl rfl ?_
                              exact ⟨⟨_, rfl⟩, ⟨h, by omega, hz⟩⟩
                            · have j58 : a1 = 2 := Int32.toInt_inj.mp (by rw [c58]; decide)
                              refine ae_tableIn (off := 63) (q := 291) dX7_count_228 (by rw [j58]; decide) (by rw [j58]; decide) (by rw [j58]; decide) (by decide) ?_
                              refine ae_aload_n (q := 292) dX7_count_291 rfl rfl rfl ?_
                              refine ae_getI (q := 295) dX7_count_292 fl_X7_126 rfl (h.s l288 t288) (h.l l288) rfl ?_
                              obtain ⟨x59, e59⟩ : ∃ x, am_gi G48 288 33 = x := ⟨_, rfl⟩
                              refine ae_eqi e59 ?_
                              refine ae_iret dX7_count_295 rfl rfl ?_
                              exact ⟨⟨_, rfl⟩, ⟨h, by omega, hz⟩⟩
                            · have j58 : a1 = 3 := Int32.toInt_inj.mp (by rw [c58]; decide)
                              refine ae_tableIn (off := 68) (q := 296) dX7_count_228 (by rw [j58]; decide) (by rw [j58]; decide) (by rw [j58]; decide) (by decide) ?_
                              refine ae_aload_n (q := 297) dX7_count_296 rfl rfl rfl ?_
                              refine ae_getI (q := 300) dX7_count_297 fl_X7_129 rfl (h.s l288 t288) (h.l l288) rfl ?_
                              obtain ⟨x60, e60⟩ : ∃ x, am_gi G48 288 34 = x := ⟨_, rfl⟩
                              refine ae_eqi e60 ?_
                              refine ae_iret dX7_count_300 rfl rfl ?_
                              exact ⟨⟨_, rfl⟩, ⟨h, by omega, hz⟩⟩
                            · have j58 : a1 = 4 := Int32.toInt_inj.mp (by rw [c58]; decide)
                              refine ae_tableIn (off := 73) (q := 301) dX7_count_228 (by rw [j58]; decide) (by rw [j58]; decide) (by rw [j58]; decide) (by decide) ?_
                              refine ae_aload_n (q := 302) dX7_count_301 rfl rfl rfl ?_
                              refine ae_getI (q := 305) dX7_count_302 fl_X7_132 rfl (h.s l288 t288) (h.l l288) rfl ?_
                              obtain ⟨x61, e61⟩ : ∃ x, am_gi G48 288 35 = x := ⟨_, rfl⟩
                              refine ae_eqi e61 ?_
                              refine ae_iret dX7_count_305 rfl rfl ?_
                              exact ⟨⟨_, rfl⟩, ⟨h, by omega, hz⟩⟩
                            · have j58 : a1 = 5 := Int32.toInt_inj.mp (by rw [c58]; decide)
                              refine ae_tableIn (off := 78) (q := 306) dX7_count_228 (by rw [j58]; decide) (by rw [j58]; decide) (by rw [j58]; decide) (by decide) ?_
                              refine ae_aload_n (q := 307) dX7_count_306 rfl rfl rfl ?_
                              refine ae_getI (q := 310) dX7_count_307 fl_X7_135 rfl (h.s l288 t288) (h.l l288) rfl ?_
                              obtain ⟨x62, e62, u62, v62⟩ := rdi (h.i l288 t288 (k := 36) (p := (0, ((N : Nat) : Int))) rfl)
                              refine ae_eqi e62 ?_
                              refine ae_iret dX7_count_310 rfl rfl ?_
                              exact ⟨⟨_, rfl⟩, ⟨h, by omega, hz⟩⟩
                            · have j58 : a1 = 6 := Int32.toInt_inj.mp (by rw [c58]; decide)
                              refine ae_tableIn (off := 83) (q := 311) dX7_count_228 (by rw [j58]; decide) (by rw [j58]; decide) (by rw [j58]; decide) (by decide) ?_
                              refine ae_aload_n (q := 312) dX7_count_311 rfl rfl rfl ?_
                              refine ae_getR (q := 315) dX7_count_312 fl_X7_83 rfl (h.s l288 t288) (h.l l288) (h.mr (k := 24) (b := 313) (by decide) rfl) rfl ?_
                              refine ae_sipush (v := 144) (q := 318) dX7_count_315 (by decide) rfl ?_
                              refine ae_iald (q := 319) dX7_count_318 (h.s l313 t313) (h.l l313) (by unfold vp_in; decide) rfl ?_
                              refine ae_eqi (show am_gi G48 313 (144 : Int32).toNatClampNeg = am_gi G48 313 144 from by rw [show (144 : Int32).toNatClampNeg = 144 from by decide]) ?_
                              obtain ⟨x63, e63⟩ : ∃ x, am_gi G48 313 144 = x := ⟨_, rfl⟩
                              refine ae_eqi e63 ?_
                              refine ae_iret dX7_count_319 rfl rfl ?_
                              exact ⟨⟨_, rfl⟩, ⟨h, by omega, hz⟩⟩
                            · have j58 : a1 = 7 := Int32.toInt_inj.mp (by rw [c58]; decide)
                              refine ae_tableIn (off := 92) (q := 320) dX7_count_228 (by rw [j58]; decide) (by rw [j58]; decide) (by rw [j58]; decide) (by decide) ?_
                              refine ae_aload_n (q := 321) dX7_count_320 rfl rfl rfl ?_
                              refine ae_getR (q := 324) dX7_count_321 fl_X7_86 rfl (h.s l288 t288) (h.l l288) (h.mr (k := 25) (b := 314) (by decide) rfl) rfl ?_
                              refine ae_sipush (v := 144) (q := 327) dX7_count_324 (by decide) rfl ?_
                              refine ae_iald (q := 328) dX7_count_327 (h.s l314 t314) (h.l l314) (by unfold vp_in; decide) rfl ?_
                              refine ae_eqi (show am_gi G48 314 (144 : Int32).toNatClampNeg = am_gi G48 314 144 from by rw [show (144 : Int32).toNatClampNeg = 144 from by decide]) ?_
                              obtain ⟨x64, e64⟩ : ∃ x, am_gi G48 314 144 = x := ⟨_, rfl⟩
                              refine ae_eqi e64 ?_
                              refine ae_iret dX7_count_328 rfl rfl ?_
                              exact ⟨⟨_, rfl⟩, ⟨h, by omega, hz⟩⟩
                            · have j58 : a1 = 8 := Int32.toInt_inj.mp (by rw [c58]; decide)
                              refine ae_tableIn (off := 101) (q := 329) dX7_count_228 (by rw [j58]; decide) (by rw [j58]; decide) (by rw [j58]; decide) (by decide) ?_
                              refine ae_aload_n (q := 330) dX7_count_329 rfl rfl rfl ?_
                              refine ae_getR (q := 333) dX7_count_330 fl_X7_68 rfl (h.s l288 t288) (h.l l288) (h.mr (k := 19) (b := 308) (by decide) rfl) rfl ?_
                              refine ae_iconst (v := 0) (q := 334) dX7_count_333 (by decide) rfl ?_
                              refine ae_iald (q := 335) dX7_count_334 (h.s l308 t308) (h.l l308) (by unfold vp_in; decide) rfl ?_
                              refine ae_eqi (show am_gi G48 308 (0 : Int32).toNatClampNeg = am_gi G48 308 0 from by rw [show (0 : Int32).toNatClampNeg = 0 from by decide]) ?_
                              obtain ⟨x65, e65⟩ : ∃ x, am_gi G48 308 0 = x := ⟨_, rfl⟩
                              refine ae_eqi e65 ?_
                              refine ae_iret dX7_count_335 rfl rfl ?_
                              exact ⟨⟨_, rfl⟩, ⟨h, by omega, hz⟩⟩
                            · have j58 : a1 = 9 := Int32.toInt_inj.mp (by rw [c58]; decide)
                              refine ae_tableIn (off := 108) (q := 336) dX7_count_228 (by rw [j58]; decide) (by rw [j58]; decide) (by rw [j58]; decide) (by decide) ?_
                              refine ae_aload_n (q := 337) dX7_count_336 rfl rfl rfl ?_
                              refine ae_getR (q := 340) dX7_count_337 fl_X7_68 rfl (h.s l288 t288) (h.l l288) (h.mr (k := 19) (b := 308) (by decide) rfl) rfl ?_
                              refine ae_iconst (v := 1) (q := 341) dX7_count_340 (by decide) rfl ?_
                              refine ae_iald (q := 342) dX7_count_341 (h.s l308 t308) (h.l l308) (by unfold vp_in; decide) rfl ?_
                              refine ae_eqi (show am_gi G48 308 (1 : Int32).toNatClampNeg = am_gi G48 308 1 from by rw [show (1 : Int32).toNatClampNeg = 1 from by decide]) ?_
                              obtain ⟨x66, e66⟩ : ∃ x, am_gi G48 308 1 = x := ⟨_, rfl⟩
                              refine ae_eqi e66 ?_
                              refine ae_iret dX7_count_342 rfl rfl ?_
                              exact ⟨⟨_, rfl⟩, ⟨h, by omega, hz⟩⟩
                            · have j58 : a1 = 10 := Int32.toInt_inj.mp (by rw [c58]; decide)
                              refine ae_tableOut (q := 343) dX7_count_228 (by rw [j58]; decide) (by decide) ?_
                              refine ae_aload_n (q := 344) dX7_count_343 rfl rfl rfl ?_
                              refine ae_getR (q := 347) dX7_count_344 fl_X7_71 rfl (h.s l288 t288) (h.l l288) (h.mr (k := 20) (b := 309) (by decide) rfl) rfl ?_
                              refine ae_sipush (v := 144) (q := 350) dX7_count_347 (by decide) rfl ?_
                              refine ae_iald (q := 351) dX7_count_350 (h.s l309 t309) (h.l l309) (by unfold vp_in; decide) rfl ?_
                              refine ae_eqi (show am_gi G48 309 (144 : Int32).toNatClampNeg = am_gi G48 309 144 from by rw [show (144 : Int32).toNatClampNeg = 144 from by decide]) ?_
                              obtain ⟨x67, e67⟩ : ∃ x, am_gi G48 309 144 = x := ⟨_, rfl⟩
                              refine ae_eqi e67 ?_
                              refine ae_if_ne (t := 358) (q := 354) dX7_count_351 (by decide) rfl (fun c68 => ?_) (fun c68 => ?_)
                              · have c68 := i_ne (a := x67.toInt) (b := 0) rfl (by decide) c68
                                refine ae_iconst (v := 0) (q := 359) dX7_count_358 (by decide) rfl ?_
                                refine ae_iret dX7_count_359 rfl rfl ?_
                                exact ⟨⟨_, rfl⟩, ⟨h, by omega, hz⟩⟩
                              · have c68 := i_eq (a := x67.toInt) (b := 0) rfl (by decide) c68
                                refine ae_iconst (v := 1) (q := 355) dX7_count_354 (by decide) rfl ?_
                                refine ae_goto (q := 359) dX7_count_355 (by decide) ?_
                                refine ae_iret dX7_count_359 rfl rfl ?_
                                exact ⟨⟨_, rfl⟩, ⟨h, by omega, hz⟩⟩
                          · have c57 := i_nle (a := x56.toInt) (b := y55_4.toInt) rfl rfl c57
                            refine ae_aload_n (q := 208) dX7_count_207 rfl rfl rfl ?_
                            refine ae_getR (q := 211) dX7_count_208 fl_X7_19 rfl (h.s l288 t288) (h.l l288) (h.mr (k := 3) (b := 292) (by decide) rfl) rfl ?_
                            refine ae_iload (q := 213) dX7_count_211 rfl rfl ?_
                            refine ae_iald (q := 214) dX7_count_213 (h.s l292 t292) (h.l l292) (vin (by omega) (by omega)) rfl ?_
                            obtain ⟨x69, e69, u69, v69⟩ := rdi (h.i l292 t292 (k := y55_4.toNatClampNeg) (p := (0, 3)) rfl)
                            refine ae_eqi e69 ?_
                            refine ae_iconst (v := 3) (q := 215) dX7_count_214 (by decide) rfl ?_
                            refine ae_icmp_eq (t := 221) (q := 218) dX7_count_215 (by decide) rfl (fun c70 => ?_) (fun c70 => ?_)
                            · have c70 := i_eq (a := x69.toInt) (b := 3) rfl (by decide) c70
                              obtain ⟨x71, e71⟩ : ∃ z, y55_4 + Int32.ofInt 1 = z := ⟨_, rfl⟩
                              have f71 : x71.toInt = y55_4.toInt + 1 := by rw [← e71]; exact i_add rfl (by decide) (by omega) (by omega)
                              refine ae_iinc (v := x71) (lv' := [(4, .int x71), (3, .int y55_3), (2, .int 0), (0, .ref 288), (1, .int a1)]) (q := 224) dX7_count_221 rfl e71 (by decide) rfl rfl ?_
                              refine ae_goto (q := 198) dX7_count_224 (by decide) ?_
                              exact ae_lv (lv' := [(4, .int x71), (3, .int y55_3), (2, .int 0), (0, .ref 288), (1, .int a1)]) ⟨rfl, rfl, rfl, rfl, rfl, trivial⟩ (ih55 (n55 - 1) (by omega) x71 y55_3 (by omega) (by omega) (by omega))
                            · have c70 := i_ne (a := x69.toInt) (b := 3) rfl (by decide) c70
                              obtain ⟨x72, e72⟩ : ∃ z, y55_3 + Int32.ofInt 1 = z := ⟨_, rfl⟩
                              refine ae_iinc (v := x72) (lv' := [(3, .int x72), (4, .int y55_4), (2, .int 0), (0, .ref 288), (1, .int a1)]) (q := 221) dX7_count_218 rfl e72 (by decide) rfl rfl ?_
                              obtain ⟨x73, e73⟩ : ∃ z, y55_4 + Int32.ofInt 1 = z := ⟨_, rfl⟩
                              have f73 : x73.toInt = y55_4.toInt + 1 := by rw [← e73]; exact i_add rfl (by decide) (by omega) (by omega)
                              refine ae_iinc (v := x73) (lv' := [(4, .int x73), (3, .int x72), (2, .int 0), (0, .ref 288), (1, .int a1)]) (q := 224) dX7_count_221 rfl e73 (by decide) rfl rfl ?_
                              refine ae_goto (q := 198) dX7_count_224 (by decide) ?_
                              exact ae_lv (lv' := [(4, .int x73), (3, .int x72), (2, .int 0), (0, .ref 288), (1, .int a1)]) ⟨rfl, rfl, rfl, rfl, rfl, trivial⟩ (ih55 (n55 - 1) (by omega) x73 x72 (by omega) (by omega) (by omega))
                      exact ae_lv (lv' := [(4, .int 0), (3, .int 0), (2, .int 0), (0, .ref 288), (1, .int a1)]) ⟨rfl, rfl, rfl, rfl, rfl, trivial⟩ (lab198 48 0 0 (by decide) (by decide) (show 48 - (0 : Int32).toInt ≤ _ from by rw [show (0 : Int32).toInt = 0 from by decide]; omega))
                    · have c54 := i_eq (a := x53.toInt) (b := 0) rfl (by decide) c54
                      refine ae_iconst (v := 0) (q := 192) dX7_count_191 (by decide) rfl ?_
                      refine ae_iret dX7_count_192 rfl rfl ?_
                      exact ⟨⟨_, rfl⟩, ⟨h, by omega, hz⟩⟩
                  · have c52 := i_nle (a := a1.toInt) (b := 19) rfl (by decide) c52
                    exfalso; omega
                · have c51 := i_nle (a := a1.toInt) (b := 29) rfl (by decide) c51
                  exfalso; omega
              · have c50 := i_nle (a := a1.toInt) (b := 39) rfl (by decide) c50
                exfalso; omega
            · have c49 := i_nle (a := a1.toInt) (b := 99) rfl (by decide) c49
              exfalso; omega
          · have d47 := i_out (a := 0) (b := a1.toInt) (c := 10) (by decide) rfl (by decide) c47
            refine ae_if_ne (t := 71) (q := 61) dX7_count_58 (by decide) rfl (fun h => absurd h (by decide)) (fun _ => ?_)
            refine ae_iload_n (q := 62) dX7_count_61 rfl rfl rfl ?_
            refine ae_if_ne (t := 71) (q := 65) dX7_count_62 (by decide) rfl (fun h => absurd h (by decide)) (fun _ => ?_)
            refine ae_aload_n (q := 66) dX7_count_65 rfl rfl rfl ?_
            refine ae_iconst (v := 1) (q := 67) dX7_count_66 (by decide) rfl ?_
            refine ae_callV (ci := 7) (as := [.int 1]) (b := 288) (st := []) (q := 70) dX7_count_67 (c_X7_fail (N := N) (d := d) h) myX7_fail lk_X7_109 im_X7_fail se_X7_fail rfl (by decide) (h.s l288 t288) (h.l l288) rfl rfl (Nat.le_of_ble_eq_true rfl) rfl (fun o H1 hh => ⟨_, hh.1.choose_spec⟩) (fun vv G74 hv => ?_)
            obtain ⟨⟨x74, o74⟩, z74⟩ := hv
            cases o74
            obtain ⟨z74, w74⟩ := z74
            refine ⟨Or.inl (z74.nx.trans h.nx.symm), ?_⟩
            have h : jm N B 320 G74 := z74
            clear z74
            obtain ⟨q74, wz74⟩ := w74
            have hz : am_gi G74 288 39 = am_gi H 288 39 := wz74.trans hz
            refine ae_iret dX7_count_70 rfl rfl ?_
            exact ⟨⟨_, rfl⟩, ⟨h, by omega, hz⟩⟩
set_option maxRecDepth 100000 in
set_option maxHeartbeats 4000000 in
theorem c_X7_run {ox : List (Nat × (Nat → Int32))} {d N : Nat} {B H : am_H} {a1 : Int32} (hR : R3 B) (hN : N + 1200 ≤ 1000000) (h : jm N B 320 H) (hb : am_gi H 288 39 = 0 ∨ 0 ≤ dl H) : am_DB 0 ox (d + 6) yX7_run mX7_run [.ref 288, .int a1] H (fun o H1 => (∃ v : Int32, o = .inl (some (.int v))) ∧ jm (N + 1200) B 320 H1 ∧ (am_gi H1 288 39 = 0 ∨ 0 ≤ dl H1)) := by
  refine ae_enter rfl rfl rfl rfl (Nat.le_of_ble_eq_true rfl) ?_
  show am_EB 0 ox (d + 6) mX7_run 0 [(0, .ref 288), (1, .int a1)] [] H _
  have hz : am_gi H 288 39 = am_gi H 288 39 := rfl
  refine ae_iload_n (q := 1) dX7_run_0 rfl rfl rfl ?_
  refine ae_iconst (v := 0) (q := 2) dX7_run_1 (by decide) rfl ?_
  refine ae_sipush (v := 200) (q := 5) dX7_run_2 (by decide) rfl ?_
  refine ae_wX7 (q := 8) dX7_run_5 lk_X7_105 (Nat.le_of_ble_eq_true rfl) rfl (fun c1 => ?_) (fun c1 => ?_)
  · have d1 := i_le (a := 0) (b := a1.toInt) (by decide) rfl c1.1
    have f1 := i_le (a := a1.toInt) (b := 200) rfl (by decide) c1.2
    refine ae_if_ne (t := 17) (q := 11) dX7_run_8 (by decide) rfl (fun _ => ?_) (fun h => absurd h (by decide))
    refine ae_aload_n (q := 18) dX7_run_17 rfl rfl rfl ?_
    refine ae_getI (q := 21) dX7_run_18 fl_X7_122 rfl (h.s l288 t288) (h.l l288) rfl ?_
    obtain ⟨x2, e2, u2, v2⟩ := rdi (h.i l288 t288 (k := 39) (p := (0, 1)) rfl)
    refine ae_eqi e2 ?_
    refine ae_if_ne (t := 30) (q := 24) dX7_run_21 (by decide) rfl (fun c3 => ?_) (fun c3 => ?_)
    · have c3 := i_ne (a := x2.toInt) (b := 0) rfl (by decide) c3
      have hq : 0 ≤ dl H := hb.elim (fun q => absurd (i_eq (a := x2.toInt) (b := 0) rfl (by decide) (e2.symm.trans q)) (by omega)) (fun q => q)
      refine ae_aload_n (q := 31) dX7_run_30 rfl rfl rfl ?_
      refine ae_iconst (v := 0) (q := 32) dX7_run_31 (by decide) rfl ?_
      refine ae_putI (q := 35) dX7_run_32 fl_X7_101 rfl rfl rfl (h.s l288 t288) (h.l l288) rfl ?_
      refine ae_gen (fun G4 g4 => ?_)
      have h : jm N B 320 G4 := by rw [g4]; exact h.w t288 (by decide) (by decide) (by decide) inr_any
      have q4 : dl G4 = dl H := by rw [g4]; exact dl_ne (by decide) (by decide) (by decide) (fun q => absurd q.2 (by decide))
      refine ae_iconst (v := 0) (q := 36) dX7_run_35 (by decide) rfl ?_
      refine ae_istore_n (lv' := [(2, .int 0), (0, .ref 288), (1, .int a1)]) (q := 37) dX7_run_36 rfl (by decide) rfl rfl ?_
      have lab37 : ∀ (n5 : Nat) (m5 : Nat) (y5_2 : Int32) (K5 : am_H), jm m5 B 320 K5 → 0 ≤ y5_2.toInt → y5_2.toInt ≤ 200 → 200 - y5_2.toInt ≤ (n5 : Int) → (m5 : Int) ≤ N + 6 * y5_2.toInt → 0 ≤ dl K5 → am_EB 0 ox (d + 6) mX7_run 37 [(2, .int y5_2), (0, .ref 288), (1, .int a1)] [] K5 (fun o H1 => (∃ v : Int32, o = .inl (some (.int v))) ∧ jm (N + 1200) B 320 H1 ∧ (am_gi H1 288 39 = 0 ∨ 0 ≤ dl H1)) := by
        intro n5
        induction n5 using Nat.strongRecOn with
        | ind n5 ih5 =>
          intro m5 y5_2 K5 h p5_2 q5_2 mm5 k5 hq5
          refine ae_iload_n (q := 38) dX7_run_37 rfl rfl rfl ?_
          refine ae_iload_n (q := 39) dX7_run_38 rfl rfl rfl ?_
          refine ae_icmp_ge (t := 105) (q := 42) dX7_run_39 (by decide) rfl (fun c6 => ?_) (fun c6 => ?_)
          · have c6 := i_le (a := a1.toInt) (b := y5_2.toInt) rfl rfl c6
            refine ae_aload_n (q := 106) dX7_run_105 rfl rfl rfl ?_
            refine ae_callV (ci := 7) (as := []) (b := 288) (st := []) (q := 109) dX7_run_106 (c_X7_isStuck (N := m5) (d := d + 5) h) myX7_isStuck lk_X7_219 im_X7_isStuck se_X7_isStuck rfl (by decide) (h.s l288 t288) (h.l l288) rfl rfl (Nat.le_of_ble_eq_true rfl) rfl (fun o H1 hh => ⟨_, hh.1.choose_spec.1⟩) (fun vv G7 hv => ?_)
            obtain ⟨⟨x7, o7, u7, v7⟩, z7⟩ := hv
            cases o7
            have z7 := z7.symm
            subst z7
            refine ⟨Or.inl rfl, ?_⟩
            refine ae_istore_n (lv' := [(2, .int x7), (0, .ref 288), (1, .int a1)]) (q := 110) dX7_run_109 rfl (by decide) rfl rfl ?_
            refine ae_iload_n (q := 111) dX7_run_110 rfl rfl rfl ?_
            refine ae_if_eq (t := 120) (q := 114) dX7_run_111 (by decide) rfl (fun c8 => ?_) (fun c8 => ?_)
            · have c8 := i_eq (a := x7.toInt) (b := 0) rfl (by decide) c8
              refine ae_aload_n (q := 121) dX7_run_120 rfl rfl rfl ?_
              refine ae_getR (q := 124) dX7_run_121 fl_X7_71 rfl (h.s l288 t288) (h.l l288) (h.mr (k := 20) (b := 309) (by decide) rfl) rfl ?_
              refine ae_sipush (v := 144) (q := 127) dX7_run_124 (by decide) rfl ?_
              refine ae_iald (q := 128) dX7_run_127 (h.s l309 t309) (h.l l309) (by unfold vp_in; decide) rfl ?_
              refine ae_eqi (show am_gi K5 309 (144 : Int32).toNatClampNeg = am_gi K5 309 144 from by rw [show (144 : Int32).toNatClampNeg = 144 from by decide]) ?_
              obtain ⟨x9, e9⟩ : ∃ x, am_gi K5 309 144 = x := ⟨_, rfl⟩
              refine ae_eqi e9 ?_
              refine ae_if_ne (t := 135) (q := 131) dX7_run_128 (by decide) rfl (fun c10 => ?_) (fun c10 => ?_)
              · have c10 := i_ne (a := x9.toInt) (b := 0) rfl (by decide) c10
                refine ae_iconst (v := 0) (q := 136) dX7_run_135 (by decide) rfl ?_
                refine ae_iret dX7_run_136 rfl rfl ?_
                exact ⟨⟨_, rfl⟩, ⟨(h.up (by omega)), Or.inr (by omega)⟩⟩
              · have c10 := i_eq (a := x9.toInt) (b := 0) rfl (by decide) c10
                refine ae_iconst (v := 1) (q := 132) dX7_run_131 (by decide) rfl ?_
                refine ae_goto (q := 136) dX7_run_132 (by decide) ?_
                refine ae_iret dX7_run_136 rfl rfl ?_
                exact ⟨⟨_, rfl⟩, ⟨(h.up (by omega)), Or.inr (by omega)⟩⟩
            · have c8 := i_ne (a := x7.toInt) (b := 0) rfl (by decide) c8
              refine ae_aload_n (q := 115) dX7_run_114 rfl rfl rfl ?_
              refine ae_iconst (v := 3) (q := 116) dX7_run_115 (by decide) rfl ?_
              refine ae_callV (ci := 7) (as := [.int 3]) (b := 288) (st := []) (q := 119) dX7_run_116 (c_X7_fail (N := m5) (d := d + 5) h) myX7_fail lk_X7_109 im_X7_fail se_X7_fail rfl (by decide) (h.s l288 t288) (h.l l288) rfl rfl (Nat.le_of_ble_eq_true rfl) rfl (fun o H1 hh => ⟨_, hh.1.choose_spec⟩) (fun vv G11 hv => ?_)
              obtain ⟨⟨x11, o11⟩, z11⟩ := hv
              cases o11
              obtain ⟨z11, w11⟩ := z11
              refine ⟨Or.inl (z11.nx.trans h.nx.symm), ?_⟩
              have h : jm m5 B 320 G11 := z11
              clear z11
              obtain ⟨q11, wz11⟩ := w11
              refine ae_iret dX7_run_119 rfl rfl ?_
              exact ⟨⟨_, rfl⟩, ⟨(h.up (by omega)), Or.inr (by omega)⟩⟩
          · have c6 := i_nle (a := a1.toInt) (b := y5_2.toInt) rfl rfl c6
            refine ae_aload_n (q := 43) dX7_run_42 rfl rfl rfl ?_
            refine ae_callV (ci := 7) (as := []) (b := 288) (st := []) (q := 46) dX7_run_43 (c_X7_isOver (N := m5) (d := d + 5) h) myX7_isOver lk_X7_215 im_X7_isOver se_X7_isOver rfl (by decide) (h.s l288 t288) (h.l l288) rfl rfl (Nat.le_of_ble_eq_true rfl) rfl (fun o H1 hh => ⟨_, hh.1.choose_spec.1⟩) (fun vv G12 hv => ?_)
            obtain ⟨⟨x12, o12, u12, v12⟩, z12⟩ := hv
            cases o12
            have z12 := z12.symm
            subst z12
            refine ⟨Or.inl rfl, ?_⟩
            refine ae_istore_n (lv' := [(3, .int x12), (2, .int y5_2), (0, .ref 288), (1, .int a1)]) (q := 47) dX7_run_46 rfl (by decide) rfl rfl ?_
            refine ae_aload_n (q := 48) dX7_run_47 rfl rfl rfl ?_
            refine ae_callV (ci := 7) (as := []) (b := 288) (st := []) (q := 51) dX7_run_48 (c_X7_isStuck (N := m5) (d := d + 5) h) myX7_isStuck lk_X7_219 im_X7_isStuck se_X7_isStuck rfl (by decide) (h.s l288 t288) (h.l l288) rfl rfl (Nat.le_of_ble_eq_true rfl) rfl (fun o H1 hh => ⟨_, hh.1.choose_spec.1⟩) (fun vv G13 hv => ?_)
            obtain ⟨⟨x13, o13, u13, v13⟩, z13⟩ := hv
            cases o13
            have z13 := z13.symm
            subst z13
            refine ⟨Or.inl rfl, ?_⟩
            refine ae_istore (lv' := [(4, .int x13), (3, .int x12), (2, .int y5_2), (0, .ref 288), (1, .int a1)]) (q := 53) dX7_run_51 (by decide) rfl rfl ?_
            refine ae_iload_n (q := 54) dX7_run_53 rfl rfl rfl ?_
            refine ae_if_ne (t := 105) (q := 57) dX7_run_54 (by decide) rfl (fun c14 => ?_) (fun c14 => ?_)
            · have c14 := i_ne (a := x12.toInt) (b := 0) rfl (by decide) c14
              refine ae_aload_n (q := 106) dX7_run_105 rfl rfl rfl ?_
              refine ae_callV (ci := 7) (as := []) (b := 288) (st := []) (q := 109) dX7_run_106 (c_X7_isStuck (N := m5) (d := d + 5) h) myX7_isStuck lk_X7_219 im_X7_isStuck se_X7_isStuck rfl (by decide) (h.s l288 t288) (h.l l288) rfl rfl (Nat.le_of_ble_eq_true rfl) rfl (fun o H1 hh => ⟨_, hh.1.choose_spec.1⟩) (fun vv G15 hv => ?_)
              obtain ⟨⟨x15, o15, u15, v15⟩, z15⟩ := hv
              cases o15
              have z15 := z15.symm
              subst z15
              refine ⟨Or.inl rfl, ?_⟩
              refine ae_istore_n (lv' := [(2, .int x15), (4, .int x13), (3, .int x12), (0, .ref 288), (1, .int a1)]) (q := 110) dX7_run_109 rfl (by decide) rfl rfl ?_
              refine ae_iload_n (q := 111) dX7_run_110 rfl rfl rfl ?_
              refine ae_if_eq (t := 120) (q := 114) dX7_run_111 (by decide) rfl (fun c16 => ?_) (fun c16 => ?_)
              · have c16 := i_eq (a := x15.toInt) (b := 0) rfl (by decide) c16
                refine ae_aload_n (q := 121) dX7_run_120 rfl rfl rfl ?_
                refine ae_getR (q := 124) dX7_run_121 fl_X7_71 rfl (h.s l288 t288) (h.l l288) (h.mr (k := 20) (b := 309) (by decide) rfl) rfl ?_
                refine ae_sipush (v := 144) (q := 127) dX7_run_124 (by decide) rfl ?_
                refine ae_iald (q := 128) dX7_run_127 (h.s l309 t309) (h.l l309) (by unfold vp_in; decide) rfl ?_
                refine ae_eqi (show am_gi K5 309 (144 : Int32).toNatClampNeg = am_gi K5 309 144 from by rw [show (144 : Int32).toNatClampNeg = 144 from by decide]) ?_
                obtain ⟨x17, e17⟩ : ∃ x, am_gi K5 309 144 = x := ⟨_, rfl⟩
                refine ae_eqi e17 ?_
                refine ae_if_ne (t := 135) (q := 131) dX7_run_128 (by decide) rfl (fun c18 => ?_) (fun c18 => ?_)
                · have c18 := i_ne (a := x17.toInt) (b := 0) rfl (by decide) c18
                  refine ae_iconst (v := 0) (q := 136) dX7_run_135 (by decide) rfl ?_
                  refine ae_iret dX7_run_136 rfl rfl ?_
                  exact ⟨⟨_, rfl⟩, ⟨(h.up (by omega)), Or.inr (by omega)⟩⟩
                · have c18 := i_eq (a := x17.toInt) (b := 0) rfl (by decide) c18
                  refine ae_iconst (v := 1) (q := 132) dX7_run_131 (by decide) rfl ?_
                  refine ae_goto (q := 136) dX7_run_132 (by decide) ?_
                  refine ae_iret dX7_run_136 rfl rfl ?_
                  exact ⟨⟨_, rfl⟩, ⟨(h.up (by omega)), Or.inr (by omega)⟩⟩
              · have c16 := i_ne (a := x15.toInt) (b := 0) rfl (by decide) c16
                refine ae_aload_n (q := 115) dX7_run_114 rfl rfl rfl ?_
                refine ae_iconst (v := 3) (q := 116) dX7_run_115 (by decide) rfl ?_
                refine ae_callV (ci := 7) (as := [.int 3]) (b := 288) (st := []) (q := 119) dX7_run_116 (c_X7_fail (N := m5) (d := d + 5) h) myX7_fail lk_X7_109 im_X7_fail se_X7_fail rfl (by decide) (h.s l288 t288) (h.l l288) rfl rfl (Nat.le_of_ble_eq_true rfl) rfl (fun o H1 hh => ⟨_, hh.1.choose_spec⟩) (fun vv G19 hv => ?_)
                obtain ⟨⟨x19, o19⟩, z19⟩ := hv
                cases o19
                obtain ⟨z19, w19⟩ := z19
                refine ⟨Or.inl (z19.nx.trans h.nx.symm), ?_⟩
                have h : jm m5 B 320 G19 := z19
                clear z19
                obtain ⟨q19, wz19⟩ := w19
                refine ae_iret dX7_run_119 rfl rfl ?_
                exact ⟨⟨_, rfl⟩, ⟨(h.up (by omega)), Or.inr (by omega)⟩⟩
            · have c14 := i_eq (a := x12.toInt) (b := 0) rfl (by decide) c14
              refine ae_iload (q := 59) dX7_run_57 rfl rfl ?_
              refine ae_if_eq (t := 65) (q := 62) dX7_run_59 (by decide) rfl (fun c20 => ?_) (fun c20 => ?_)
              · have c20 := i_eq (a := x13.toInt) (b := 0) rfl (by decide) c20
                refine ae_iconst (v := 0) (q := 66) dX7_run_65 (by decide) rfl ?_
                refine ae_istore (lv' := [(5, .int 0), (4, .int x13), (3, .int x12), (2, .int y5_2), (0, .ref 288), (1, .int a1)]) (q := 68) dX7_run_66 (by decide) rfl rfl ?_
                have lab68 : ∀ (n21 : Nat) (m21 : Nat) (y21_5 : Int32) (K21 : am_H), jm m21 B 320 K21 → 0 ≤ y21_5.toInt → y21_5.toInt ≤ 3 → 3 - y21_5.toInt ≤ (n21 : Int) → (m21 : Int) ≤ N + 6 * y5_2.toInt + 2 * y21_5.toInt → 0 ≤ dl K21 → am_EB 0 ox (d + 6) mX7_run 68 [(5, .int y21_5), (4, .int x13), (3, .int x12), (2, .int y5_2), (0, .ref 288), (1, .int a1)] [] K21 (fun o H1 => (∃ v : Int32, o = .inl (some (.int v))) ∧ jm (N + 1200) B 320 H1 ∧ (am_gi H1 288 39 = 0 ∨ 0 ≤ dl H1)) := by
                  intro n21
                  induction n21 using Nat.strongRecOn with
                  | ind n21 ih21 =>
                    intro m21 y21_5 K21 h p21_5 q21_5 mm21 k21 hq21
                    refine ae_iload (q := 70) dX7_run_68 rfl rfl ?_
                    refine ae_aload_n (q := 71) dX7_run_70 rfl rfl rfl ?_
                    refine ae_getI (q := 74) dX7_run_71 fl_X7_138 rfl (h.s l288 t288) (h.l l288) rfl ?_
                    obtain ⟨x22, e22, u22, v22⟩ := rdi (h.i l288 t288 (k := 31) (p := (0, 3)) rfl)
                    refine ae_eqi e22 ?_
                    refine ae_icmp_ge (t := 89) (q := 77) dX7_run_74 (by decide) rfl (fun c23 => ?_) (fun c23 => ?_)
                    · have c23 := i_le (a := x22.toInt) (b := y21_5.toInt) rfl rfl c23
                      refine ae_aload_n (q := 90) dX7_run_89 rfl rfl rfl ?_
                      refine ae_dup (q := 91) dX7_run_90 rfl rfl ?_
                      refine ae_getI (q := 94) dX7_run_91 fl_X7_126 rfl (h.s l288 t288) (h.l l288) rfl ?_
                      obtain ⟨x24, e24⟩ : ∃ x, am_gi K21 288 33 = x := ⟨_, rfl⟩
                      refine ae_eqi e24 ?_
                      refine ae_iconst (v := 1) (q := 95) dX7_run_94 (by decide) rfl ?_
                      refine ae_iadd (q := 96) dX7_run_95 rfl ?_
                      obtain ⟨x25, e25⟩ : ∃ z, x24 + 1 = z := ⟨_, rfl⟩
                      refine ae_eqi e25 ?_
                      refine ae_putI (q := 99) dX7_run_96 fl_X7_126 rfl rfl rfl (h.s l288 t288) (h.l l288) rfl ?_
                      refine ae_gen (fun G26 g26 => ?_)
                      have h : jm m21 B 320 G26 := by rw [g26]; exact h.w t288 (by decide) (by decide) (by decide) inr_any
                      have q26 : dl G26 = dl K21 := by rw [g26]; exact dl_ne (by decide) (by decide) (by decide) (fun q => absurd q.2 (by decide))
                      obtain ⟨x27, e27⟩ : ∃ z, y5_2 + Int32.ofInt 1 = z := ⟨_, rfl⟩
                      have f27 : x27.toInt = y5_2.toInt + 1 := by rw [← e27]; exact i_add rfl (by decide) (by omega) (by omega)
                      refine ae_iinc (v := x27) (lv' := [(2, .int x27), (5, .int y21_5), (4, .int x13), (3, .int x12), (0, .ref 288), (1, .int a1)]) (q := 102) dX7_run_99 rfl e27 (by decide) rfl rfl ?_
                      refine ae_goto (q := 37) dX7_run_102 (by decide) ?_
                      exact ae_lv (lv' := [(2, .int x27), (0, .ref 288), (1, .int a1)]) ⟨rfl, rfl, rfl, trivial⟩ (ih5 (n5 - 1) (by omega) m21 x27 _ h (by omega) (by omega) (by omega) (by omega) (by omega))
                    · have c23 := i_nle (a := x22.toInt) (b := y21_5.toInt) rfl rfl c23
                      refine ae_aload_n (q := 78) dX7_run_77 rfl rfl rfl ?_
                      refine ae_iload (q := 80) dX7_run_78 rfl rfl ?_
                      refine ae_callV (ci := 7) (as := [.int y21_5]) (b := 288) (st := []) (q := 83) dX7_run_80 (c_X7_work (N := m21) (d := d) hR (by omega) h (by omega) (by omega) (by omega)) myX7_work lk_X7_222 im_X7_work se_X7_work rfl (by decide) (h.s l288 t288) (h.l l288) rfl rfl (Nat.le_of_ble_eq_true rfl) rfl (fun o H1 hh => ⟨_, hh.1⟩) (fun vv G28 hv => ?_)
                      obtain ⟨o28, z28⟩ := hv
                      cases o28
                      obtain ⟨z28, w28⟩ := z28
                      refine ⟨Or.inl (z28.nx.trans h.nx.symm), ?_⟩
                      have h : jm (m21 + 2) B 320 G28 := z28
                      clear z28
                      have q28 := w28
                      obtain ⟨x29, e29⟩ : ∃ z, y21_5 + Int32.ofInt 1 = z := ⟨_, rfl⟩
                      have f29 : x29.toInt = y21_5.toInt + 1 := by rw [← e29]; exact i_add rfl (by decide) (by omega) (by omega)
                      refine ae_iinc (v := x29) (lv' := [(5, .int x29), (4, .int x13), (3, .int x12), (2, .int y5_2), (0, .ref 288), (1, .int a1)]) (q := 86) dX7_run_83 rfl e29 (by decide) rfl rfl ?_
                      refine ae_goto (q := 68) dX7_run_86 (by decide) ?_
                      exact ae_lv (lv' := [(5, .int x29), (4, .int x13), (3, .int x12), (2, .int y5_2), (0, .ref 288), (1, .int a1)]) ⟨rfl, rfl, rfl, rfl, rfl, rfl, trivial⟩ (ih21 (n21 - 1) (by omega) (m21 + 2) x29 _ h (by omega) (by omega) (by omega) (by omega) (by omega))
                exact ae_lv (lv' := [(5, .int 0), (4, .int x13), (3, .int x12), (2, .int y5_2), (0, .ref 288), (1, .int a1)]) ⟨rfl, rfl, rfl, rfl, rfl, rfl, trivial⟩ (lab68 3 m5 0 _ h (by decide) (by decide) (show 3 - (0 : Int32).toInt ≤ _ from by rw [show (0 : Int32).toInt = 0 from by decide]; omega) (have zz0 : (0 : Int32).toInt = 0 := (by decide); by omega) (by omega))
              · have c20 := i_ne (a := x13.toInt) (b := 0) rfl (by decide) c20
                refine ae_goto (q := 105) dX7_run_62 (by decide) ?_
                refine ae_aload_n (q := 106) dX7_run_105 rfl rfl rfl ?_
                refine ae_callV (ci := 7) (as := []) (b := 288) (st := []) (q := 109) dX7_run_106 (c_X7_isStuck (N := m5) (d := d + 5) h) myX7_isStuck lk_X7_219 im_X7_isStuck se_X7_isStuck rfl (by decide) (h.s l288 t288) (h.l l288) rfl rfl (Nat.le_of_ble_eq_true rfl) rfl (fun o H1 hh => ⟨_, hh.1.choose_spec.1⟩) (fun vv G30 hv => ?_)
                obtain ⟨⟨x30, o30, u30, v30⟩, z30⟩ := hv
                cases o30
                have z30 := z30.symm
                subst z30
                refine ⟨Or.inl rfl, ?_⟩
                refine ae_istore_n (lv' := [(2, .int x30), (4, .int x13), (3, .int x12), (0, .ref 288), (1, .int a1)]) (q := 110) dX7_run_109 rfl (by decide) rfl rfl ?_
                refine ae_iload_n (q := 111) dX7_run_110 rfl rfl rfl ?_
                refine ae_if_eq (t := 120) (q := 114) dX7_run_111 (by decide) rfl (fun c31 => ?_) (fun c31 => ?_)
                · have c31 := i_eq (a := x30.toInt) (b := 0) rfl (by decide) c31
                  refine ae_aload_n (q := 121) dX7_run_120 rfl rfl rfl ?_
                  refine ae_getR (q := 124) dX7_run_121 fl_X7_71 rfl (h.s l288 t288) (h.l l288) (h.mr (k := 20) (b := 309) (by decide) rfl) rfl ?_
                  refine ae_sipush (v := 144) (q := 127) dX7_run_124 (by decide) rfl ?_
                  refine ae_iald (q := 128) dX7_run_127 (h.s l309 t309) (h.l l309) (by unfold vp_in; decide) rfl ?_
                  refine ae_eqi (show am_gi K5 309 (144 : Int32).toNatClampNeg = am_gi K5 309 144 from by rw [show (144 : Int32).toNatClampNeg = 144 from by decide]) ?_
                  obtain ⟨x32, e32⟩ : ∃ x, am_gi K5 309 144 = x := ⟨_, rfl⟩
                  refine ae_eqi e32 ?_
                  refine ae_if_ne (t := 135) (q := 131) dX7_run_128 (by decide) rfl (fun c33 => ?_) (fun c33 => ?_)
                  · have c33 := i_ne (a := x32.toInt) (b := 0) rfl (by decide) c33
                    refine ae_iconst (v := 0) (q := 136) dX7_run_135 (by decide) rfl ?_
                    refine ae_iret dX7_run_136 rfl rfl ?_
                    exact ⟨⟨_, rfl⟩, ⟨(h.up (by omega)), Or.inr (by omega)⟩⟩
                  · have c33 := i_eq (a := x32.toInt) (b := 0) rfl (by decide) c33
                    refine ae_iconst (v := 1) (q := 132) dX7_run_131 (by decide) rfl ?_
                    refine ae_goto (q := 136) dX7_run_132 (by decide) ?_
                    refine ae_iret dX7_run_136 rfl rfl ?_
                    exact ⟨⟨_, rfl⟩, ⟨(h.up (by omega)), Or.inr (by omega)⟩⟩
                · have c31 := i_ne (a := x30.toInt) (b := 0) rfl (by decide) c31
                  refine ae_aload_n (q := 115) dX7_run_114 rfl rfl rfl ?_
                  refine ae_iconst (v := 3) (q := 116) dX7_run_115 (by decide) rfl ?_
                  refine ae_callV (ci := 7) (as := [.int 3]) (b := 288) (st := []) (q := 119) dX7_run_116 (c_X7_fail (N := m5) (d := d + 5) h) myX7_fail lk_X7_109 im_X7_fail se_X7_fail rfl (by decide) (h.s l288 t288) (h.l l288) rfl rfl (Nat.le_of_ble_eq_true rfl) rfl (fun o H1 hh => ⟨_, hh.1.choose_spec⟩) (fun vv G34 hv => ?_)
                  obtain ⟨⟨x34, o34⟩, z34⟩ := hv
                  cases o34
                  obtain ⟨z34, w34⟩ := z34
                  refine ⟨Or.inl (z34.nx.trans h.nx.symm), ?_⟩
                  have h : jm m5 B 320 G34 := z34
                  clear z34
                  obtain ⟨q34, wz34⟩ := w34
                  refine ae_iret dX7_run_119 rfl rfl ?_
                  exact ⟨⟨_, rfl⟩, ⟨(h.up (by omega)), Or.inr (by omega)⟩⟩
      exact ae_lv (lv' := [(2, .int 0), (0, .ref 288), (1, .int a1)]) ⟨rfl, rfl, rfl, trivial⟩ (lab37 200 N 0 _ h (by decide) (by decide) (show 200 - (0 : Int32).toInt ≤ _ from by rw [show (0 : Int32).toInt = 0 from by decide]; omega) (have zz0 : (0 : Int32).toInt = 0 := (by decide); by omega) (by omega))
    · have c3 := i_eq (a := x2.toInt) (b := 0) rfl (by decide) c3
      refine ae_aload_n (q := 25) dX7_run_24 rfl rfl rfl ?_
      refine ae_iconst (v := 2) (q := 26) dX7_run_25 (by decide) rfl ?_
      refine ae_callV (ci := 7) (as := [.int 2]) (b := 288) (st := []) (q := 29) dX7_run_26 (c_X7_fail (N := N) (d := d + 5) h) myX7_fail lk_X7_109 im_X7_fail se_X7_fail rfl (by decide) (h.s l288 t288) (h.l l288) rfl rfl (Nat.le_of_ble_eq_true rfl) rfl (fun o H1 hh => ⟨_, hh.1.choose_spec⟩) (fun vv G35 hv => ?_)
      obtain ⟨⟨x35, o35⟩, z35⟩ := hv
      cases o35
      obtain ⟨z35, w35⟩ := z35
      refine ⟨Or.inl (z35.nx.trans h.nx.symm), ?_⟩
      have h : jm N B 320 G35 := z35
      clear z35
      obtain ⟨q35, wz35⟩ := w35
      have hz : am_gi G35 288 39 = am_gi H 288 39 := wz35.trans hz
      refine ae_iret dX7_run_29 rfl rfl ?_
      exact ⟨⟨_, rfl⟩, ⟨(h.up (by omega)), (hb.elim (fun z => Or.inl (hz.trans z)) (fun z => Or.inr (by omega)))⟩⟩
  · have d1 := i_out (a := 0) (b := a1.toInt) (c := 200) (by decide) rfl (by decide) c1
    refine ae_if_ne (t := 17) (q := 11) dX7_run_8 (by decide) rfl (fun h => absurd h (by decide)) (fun _ => ?_)
    refine ae_aload_n (q := 12) dX7_run_11 rfl rfl rfl ?_
    refine ae_iconst (v := 1) (q := 13) dX7_run_12 (by decide) rfl ?_
    refine ae_callV (ci := 7) (as := [.int 1]) (b := 288) (st := []) (q := 16) dX7_run_13 (c_X7_fail (N := N) (d := d + 5) h) myX7_fail lk_X7_109 im_X7_fail se_X7_fail rfl (by decide) (h.s l288 t288) (h.l l288) rfl rfl (Nat.le_of_ble_eq_true rfl) rfl (fun o H1 hh => ⟨_, hh.1.choose_spec⟩) (fun vv G36 hv => ?_)
    obtain ⟨⟨x36, o36⟩, z36⟩ := hv
    cases o36
    obtain ⟨z36, w36⟩ := z36
    refine ⟨Or.inl (z36.nx.trans h.nx.symm), ?_⟩
    have h : jm N B 320 G36 := z36
    clear z36
    obtain ⟨q36, wz36⟩ := w36
    have hz : am_gi G36 288 39 = am_gi H 288 39 := wz36.trans hz
    refine ae_iret dX7_run_16 rfl rfl ?_
    exact ⟨⟨_, rfl⟩, ⟨(h.up (by omega)), (hb.elim (fun z => Or.inl (hz.trans z)) (fun z => Or.inr (by omega)))⟩⟩
set_option maxRecDepth 100000 in
set_option maxHeartbeats 4000000 in
theorem c_X7_begin {ox : List (Nat × (Nat → Int32))} {d N : Nat} {B H : am_H} {a1 : Int32} {a2 : Int32} {a3 : Int32} {a4 : Int32}  (h : jm N B 320 H) (hb : am_gi H 288 39 = 0 ∨ 0 ≤ dl H) : am_DB 0 ox (d + 2) yX7_begin mX7_begin [.ref 288, .int a1, .int a2, .int a3, .int a4] H (fun o H1 => o = .inl none ∧ jm N B 320 H1 ∧ (am_gi H1 288 39 = 0 ∨ 0 ≤ dl H1) ∧ ((0 ≤ a1.toInt ∧ a1.toInt ≤ 7 ∧ 1 ≤ a3.toInt ∧ a3.toInt ≤ 3 ∧ 0 ≤ a4.toInt ∧ a4.toInt ≤ 1) ∧ am_gi H1 288 37 = 0 ∨ ¬ (0 ≤ a1.toInt ∧ a1.toInt ≤ 7 ∧ 1 ≤ a3.toInt ∧ a3.toInt ≤ 3 ∧ 0 ≤ a4.toInt ∧ a4.toInt ≤ 1) ∧ am_gi H1 288 37 = 1)) := by
  refine ae_enter rfl rfl rfl rfl (Nat.le_of_ble_eq_true rfl) ?_
  show am_EB 0 ox (d + 2) mX7_begin 0 [(0, .ref 288), (1, .int a1), (2, .int a2), (3, .int a3), (4, .int a4)] [] H _
  have hz : am_gi H 288 39 = am_gi H 288 39 := rfl
  refine ae_aload_n (q := 1) dX7_begin_0 rfl rfl rfl ?_
  refine ae_iload_n (q := 2) dX7_begin_1 rfl rfl rfl ?_
  refine ae_iconst (v := 0) (q := 3) dX7_begin_2 (by decide) rfl ?_
  refine ae_bipush (v := 7) (q := 5) dX7_begin_3 (by decide) rfl ?_
  refine ae_wX7 (q := 8) dX7_begin_5 lk_X7_105 (Nat.le_of_ble_eq_true rfl) rfl (fun c1 => ?_) (fun c1 => ?_)
  · have d1 := i_le (a := 0) (b := a1.toInt) (by decide) rfl c1.1
    have f1 := i_le (a := a1.toInt) (b := 7) rfl (by decide) c1.2
    refine ae_if_eq (t := 34) (q := 11) dX7_begin_8 (by decide) rfl (fun h => absurd h (by decide)) (fun _ => ?_)
    refine ae_iload_n (q := 12) dX7_begin_11 rfl rfl rfl ?_
    refine ae_iconst (v := 1) (q := 13) dX7_begin_12 (by decide) rfl ?_
    refine ae_iconst (v := 3) (q := 14) dX7_begin_13 (by decide) rfl ?_
    refine ae_wX7 (q := 17) dX7_begin_14 lk_X7_105 (Nat.le_of_ble_eq_true rfl) rfl (fun c2 => ?_) (fun c2 => ?_)
    · have d2 := i_le (a := 1) (b := a3.toInt) (by decide) rfl c2.1
      have f2 := i_le (a := a3.toInt) (b := 3) rfl (by decide) c2.2
      refine ae_if_eq (t := 34) (q := 20) dX7_begin_17 (by decide) rfl (fun h => absurd h (by decide)) (fun _ => ?_)
      refine ae_iload (q := 22) dX7_begin_20 rfl rfl ?_
      refine ae_iconst (v := 0) (q := 23) dX7_begin_22 (by decide) rfl ?_
      refine ae_iconst (v := 1) (q := 24) dX7_begin_23 (by decide) rfl ?_
      refine ae_wX7 (q := 27) dX7_begin_24 lk_X7_105 (Nat.le_of_ble_eq_true rfl) rfl (fun c3 => ?_) (fun c3 => ?_)
      · have d3 := i_le (a := 0) (b := a4.toInt) (by decide) rfl c3.1
        have f3 := i_le (a := a4.toInt) (b := 1) rfl (by decide) c3.2
        refine ae_if_eq (t := 34) (q := 30) dX7_begin_27 (by decide) rfl (fun h => absurd h (by decide)) (fun _ => ?_)
        refine ae_iconst (v := 0) (q := 31) dX7_begin_30 (by decide) rfl ?_
        refine ae_goto (q := 35) dX7_begin_31 (by decide) ?_
        refine ae_putI (q := 38) dX7_begin_35 fl_X7_101 rfl rfl rfl (h.s l288 t288) (h.l l288) rfl ?_
        refine ae_gen (fun G4 g4 => ?_)
        have h : jm N B 320 G4 := by rw [g4]; exact h.w t288 (by decide) (by decide) (by decide) inr_any
        have q4 : dl G4 = dl H := by rw [g4]; exact dl_ne (by decide) (by decide) (by decide) (fun q => absurd q.2 (by decide))
        have hz : am_gi G4 288 39 = am_gi H 288 39 := by rw [g4]; exact gi_si hz (fun q => absurd q.2 (by decide))
        refine ae_aload_n (q := 39) dX7_begin_38 rfl rfl rfl ?_
        refine ae_getI (q := 42) dX7_begin_39 fl_X7_101 rfl (h.s l288 t288) (h.l l288) rfl ?_
        refine ae_eqi (show am_gi G4 288 37 = 0 by rw [g4]; exact gi_set) ?_
        refine ae_if_le (t := 46) (q := 45) dX7_begin_42 (by decide) rfl (fun _ => ?_) (fun h => absurd h (by decide))
        refine ae_aload_n (q := 47) dX7_begin_46 rfl rfl rfl ?_
        refine ae_iconst (v := 1) (q := 48) dX7_begin_47 (by decide) rfl ?_
        refine ae_putI (q := 51) dX7_begin_48 fl_X7_122 rfl rfl rfl (h.s l288 t288) (h.l l288) rfl ?_
        refine ae_gen (fun G5 g5 => ?_)
        have h : jm N B 320 G5 := by rw [g5]; exact h.w t288 (by decide) (by decide) (by decide) (mk_inr (lo := 0) (hi := 1) (by decide) (by decide))
        refine ae_aload_n (q := 52) dX7_begin_51 rfl rfl rfl ?_
        refine ae_iconst (v := 0) (q := 53) dX7_begin_52 (by decide) rfl ?_
        refine ae_putI (q := 56) dX7_begin_53 fl_X7_119 rfl rfl rfl (h.s l288 t288) (h.l l288) rfl ?_
        refine ae_gen (fun G6 g6 => ?_)
        have h : jm N B 320 G6 := by rw [g6]; exact h.w t288 (by decide) (by decide) (by decide) (mk_inr (lo := 0) (hi := 48) (by decide) (by decide))
        refine ae_aload_n (q := 57) dX7_begin_56 rfl rfl rfl ?_
        refine ae_iconst (v := 0) (q := 58) dX7_begin_57 (by decide) rfl ?_
        refine ae_putI (q := 61) dX7_begin_58 fl_X7_126 rfl rfl rfl (h.s l288 t288) (h.l l288) rfl ?_
        refine ae_gen (fun G7 g7 => ?_)
        have h : jm N B 320 G7 := by rw [g7]; exact h.w t288 (by decide) (by decide) (by decide) inr_any
        refine ae_aload_n (q := 62) dX7_begin_61 rfl rfl rfl ?_
        refine ae_iconst (v := 0) (q := 63) dX7_begin_62 (by decide) rfl ?_
        refine ae_putI (q := 66) dX7_begin_63 fl_X7_129 rfl rfl rfl (h.s l288 t288) (h.l l288) rfl ?_
        refine ae_gen (fun G8 g8 => ?_)
        have h : jm N B 320 G8 := by rw [g8]; exact h.w t288 (by decide) (by decide) (by decide) inr_any
        refine ae_aload_n (q := 67) dX7_begin_66 rfl rfl rfl ?_
        refine ae_iconst (v := 0) (q := 68) dX7_begin_67 (by decide) rfl ?_
        refine ae_putI (q := 71) dX7_begin_68 fl_X7_132 rfl rfl rfl (h.s l288 t288) (h.l l288) rfl ?_
        refine ae_gen (fun G9 g9 => ?_)
        have h : jm N B 320 G9 := by rw [g9]; exact h.w t288 (by decide) (by decide) (by decide) inr_any
        refine ae_aload_n (q := 72) dX7_begin_71 rfl rfl rfl ?_
        refine ae_iconst (v := 0) (q := 73) dX7_begin_72 (by decide) rfl ?_
        refine ae_putI (q := 76) dX7_begin_73 fl_X7_135 rfl rfl rfl (h.s l288 t288) (h.l l288) rfl ?_
        refine ae_gen (fun G10 g10 => ?_)
        have h : jm N B 320 G10 := by rw [g10]; exact h.w t288 (by decide) (by decide) (by decide) (mk_inr (lo := 0) (hi := ((N : Nat) : Int)) (by decide) (show (0 : Int) ≤ ((N : Nat) : Int) from by omega))
        refine ae_aload_n (q := 77) dX7_begin_76 rfl rfl rfl ?_
        refine ae_iload_n (q := 78) dX7_begin_77 rfl rfl rfl ?_
        refine ae_putI (q := 81) dX7_begin_78 fl_X7_138 rfl rfl rfl (h.s l288 t288) (h.l l288) rfl ?_
        refine ae_gen (fun G11 g11 => ?_)
        have h : jm N B 320 G11 := by rw [g11]; exact h.w t288 (by decide) (by decide) (by decide) (mk_inr (lo := 0) (hi := 3) (by omega) (by omega))
        refine ae_aload_n (q := 82) dX7_begin_81 rfl rfl rfl ?_
        refine ae_iload (q := 84) dX7_begin_82 rfl rfl ?_
        refine ae_putI (q := 87) dX7_begin_84 fl_X7_141 rfl rfl rfl (h.s l288 t288) (h.l l288) rfl ?_
        refine ae_gen (fun G12 g12 => ?_)
        have h : jm N B 320 G12 := by rw [g12]; exact h.w t288 (by decide) (by decide) (by decide) inr_any
        refine ae_iconst (v := 0) (q := 88) dX7_begin_87 (by decide) rfl ?_
        refine ae_istore (lv' := [(5, .int 0), (0, .ref 288), (1, .int a1), (2, .int a2), (3, .int a3), (4, .int a4)]) (q := 90) dX7_begin_88 (by decide) rfl rfl ?_
        refine ae_iload (q := 92) dX7_begin_90 rfl rfl ?_
        refine ae_iconst (v := 4) (q := 93) dX7_begin_92 (by decide) rfl ?_
        refine ae_icmp_ge (t := 110) (q := 96) dX7_begin_93 (by decide) rfl (fun h => absurd h (by decide)) (fun _ => ?_)
        refine ae_aload_n (q := 97) dX7_begin_96 rfl rfl rfl ?_
        refine ae_getR (q := 100) dX7_begin_97 fl_X7_56 rfl (h.s l288 t288) (h.l l288) (h.mr (k := 15) (b := 304) (by decide) rfl) rfl ?_
        refine ae_iload (q := 102) dX7_begin_100 rfl rfl ?_
        refine ae_iconst (v := 0) (q := 103) dX7_begin_102 (by decide) rfl ?_
        refine ae_zast (q := 104) dX7_begin_103 (h.s l304 t304) (h.l l304) (by unfold vp_in; decide) rfl rfl ?_
        refine ae_eqH (show am_si G12 304 (0 : Int32).toNatClampNeg 0 = am_si G12 304 0 0 from by rw [show (0 : Int32).toNatClampNeg = 0 from by decide]) ?_
        refine ae_gen (fun G13 g13 => ?_)
        have h : jm N B 320 G13 := by rw [g13]; exact h.w t304 (by decide) (by decide) (by decide) (mk_inr (lo := 0) (hi := 1) (by decide) (by decide))
        refine ae_iinc (v := 1) (lv' := [(5, .int 1), (0, .ref 288), (1, .int a1), (2, .int a2), (3, .int a3), (4, .int a4)]) (q := 107) dX7_begin_104 rfl (by decide) (by decide) rfl rfl ?_
        refine ae_goto (q := 90) dX7_begin_107 (by decide) ?_
        refine ae_iload (q := 92) dX7_begin_90 rfl rfl ?_
        refine ae_iconst (v := 4) (q := 93) dX7_begin_92 (by decide) rfl ?_
        refine ae_icmp_ge (t := 110) (q := 96) dX7_begin_93 (by decide) rfl (fun h => absurd h (by decide)) (fun _ => ?_)
        refine ae_aload_n (q := 97) dX7_begin_96 rfl rfl rfl ?_
        refine ae_getR (q := 100) dX7_begin_97 fl_X7_56 rfl (h.s l288 t288) (h.l l288) (h.mr (k := 15) (b := 304) (by decide) rfl) rfl ?_
        refine ae_iload (q := 102) dX7_begin_100 rfl rfl ?_
        refine ae_iconst (v := 0) (q := 103) dX7_begin_102 (by decide) rfl ?_
        refine ae_zast (q := 104) dX7_begin_103 (h.s l304 t304) (h.l l304) (by unfold vp_in; decide) rfl rfl ?_
        refine ae_eqH (show am_si G13 304 (1 : Int32).toNatClampNeg 0 = am_si G13 304 1 0 from by rw [show (1 : Int32).toNatClampNeg = 1 from by decide]) ?_
        refine ae_gen (fun G14 g14 => ?_)
        have h : jm N B 320 G14 := by rw [g14]; exact h.w t304 (by decide) (by decide) (by decide) (mk_inr (lo := 0) (hi := 1) (by decide) (by decide))
        refine ae_iinc (v := 2) (lv' := [(5, .int 2), (0, .ref 288), (1, .int a1), (2, .int a2), (3, .int a3), (4, .int a4)]) (q := 107) dX7_begin_104 rfl (by decide) (by decide) rfl rfl ?_
        refine ae_goto (q := 90) dX7_begin_107 (by decide) ?_
        refine ae_iload (q := 92) dX7_begin_90 rfl rfl ?_
        refine ae_iconst (v := 4) (q := 93) dX7_begin_92 (by decide) rfl ?_
        refine ae_icmp_ge (t := 110) (q := 96) dX7_begin_93 (by decide) rfl (fun h => absurd h (by decide)) (fun _ => ?_)
        refine ae_aload_n (q := 97) dX7_begin_96 rfl rfl rfl ?_
        refine ae_getR (q := 100) dX7_begin_97 fl_X7_56 rfl (h.s l288 t288) (h.l l288) (h.mr (k := 15) (b := 304) (by decide) rfl) rfl ?_
        refine ae_iload (q := 102) dX7_begin_100 rfl rfl ?_
        refine ae_iconst (v := 0) (q := 103) dX7_begin_102 (by decide) rfl ?_
        refine ae_zast (q := 104) dX7_begin_103 (h.s l304 t304) (h.l l304) (by unfold vp_in; decide) rfl rfl ?_
        refine ae_eqH (show am_si G14 304 (2 : Int32).toNatClampNeg 0 = am_si G14 304 2 0 from by rw [show (2 : Int32).toNatClampNeg = 2 from by decide]) ?_
        refine ae_gen (fun G15 g15 => ?_)
        have h : jm N B 320 G15 := by rw [g15]; exact h.w t304 (by decide) (by decide) (by decide) (mk_inr (lo := 0) (hi := 1) (by decide) (by decide))
        refine ae_iinc (v := 3) (lv' := [(5, .int 3), (0, .ref 288), (1, .int a1), (2, .int a2), (3, .int a3), (4, .int a4)]) (q := 107) dX7_begin_104 rfl (by decide) (by decide) rfl rfl ?_
        refine ae_goto (q := 90) dX7_begin_107 (by decide) ?_
        refine ae_iload (q := 92) dX7_begin_90 rfl rfl ?_
        refine ae_iconst (v := 4) (q := 93) dX7_begin_92 (by decide) rfl ?_
        refine ae_icmp_ge (t := 110) (q := 96) dX7_begin_93 (by decide) rfl (fun h => absurd h (by decide)) (fun _ => ?_)
        refine ae_aload_n (q := 97) dX7_begin_96 rfl rfl rfl ?_
        refine ae_getR (q := 100) dX7_begin_97 fl_X7_56 rfl (h.s l288 t288) (h.l l288) (h.mr (k := 15) (b := 304) (by decide) rfl) rfl ?_
        refine ae_iload (q := 102) dX7_begin_100 rfl rfl ?_
        refine ae_iconst (v := 0) (q := 103) dX7_begin_102 (by decide) rfl ?_
        refine ae_zast (q := 104) dX7_begin_103 (h.s l304 t304) (h.l l304) (by unfold vp_in; decide) rfl rfl ?_
        refine ae_eqH (show am_si G15 304 (3 : Int32).toNatClampNeg 0 = am_si G15 304 3 0 from by rw [show (3 : Int32).toNatClampNeg = 3 from by decide]) ?_
        refine ae_gen (fun G16 g16 => ?_)
        have h : jm N B 320 G16 := by rw [g16]; exact h.w t304 (by decide) (by decide) (by decide) (mk_inr (lo := 0) (hi := 1) (by decide) (by decide))
        refine ae_iinc (v := 4) (lv' := [(5, .int 4), (0, .ref 288), (1, .int a1), (2, .int a2), (3, .int a3), (4, .int a4)]) (q := 107) dX7_begin_104 rfl (by decide) (by decide) rfl rfl ?_
        refine ae_goto (q := 90) dX7_begin_107 (by decide) ?_
        refine ae_iload (q := 92) dX7_begin_90 rfl rfl ?_
        refine ae_iconst (v := 4) (q := 93) dX7_begin_92 (by decide) rfl ?_
        refine ae_icmp_ge (t := 110) (q := 96) dX7_begin_93 (by decide) rfl (fun _ => ?_) (fun h => absurd h (by decide))
        refine ae_iconst (v := 0) (q := 111) dX7_begin_110 (by decide) rfl ?_
        refine ae_istore (lv' := [(5, .int 0), (0, .ref 288), (1, .int a1), (2, .int a2), (3, .int a3), (4, .int a4)]) (q := 113) dX7_begin_111 (by decide) rfl rfl ?_
        refine ae_iload (q := 115) dX7_begin_113 rfl rfl ?_
        refine ae_iconst (v := 3) (q := 116) dX7_begin_115 (by decide) rfl ?_
        refine ae_icmp_ge (t := 141) (q := 119) dX7_begin_116 (by decide) rfl (fun h => absurd h (by decide)) (fun _ => ?_)
        refine ae_aload_n (q := 120) dX7_begin_119 rfl rfl rfl ?_
        refine ae_getR (q := 123) dX7_begin_120 fl_X7_89 rfl (h.s l288 t288) (h.l l288) (h.mr (k := 26) (b := 315) (by decide) rfl) rfl ?_
        refine ae_iload (q := 125) dX7_begin_123 rfl rfl ?_
        refine ae_iconst (v := (-1)) (q := 126) dX7_begin_125 (by decide) rfl ?_
        refine ae_iast (q := 127) dX7_begin_126 (h.s l315 t315) (h.l l315) (by unfold vp_in; decide) rfl ?_
        refine ae_eqH (show am_si G16 315 (0 : Int32).toNatClampNeg (-1) = am_si G16 315 0 (-1) from by rw [show (0 : Int32).toNatClampNeg = 0 from by decide]) ?_
        obtain ⟨x17, e17, u17, v17⟩ := rdi (h.i l315 t315 (k := 0) (p := ((-1), 47)) rfl)
        refine ae_gen (fun G18 g18 => ?_)
        have h : jm N B 320 G18 := by rw [g18]; exact h.w t315 (by decide) (by decide) (by decide) (mk_inr (lo := (-1)) (hi := 47) (by decide) (by decide))
        refine ae_aload_n (q := 128) dX7_begin_127 rfl rfl rfl ?_
        refine ae_getR (q := 131) dX7_begin_128 fl_X7_92 rfl (h.s l288 t288) (h.l l288) (h.mr (k := 27) (b := 316) (by decide) rfl) rfl ?_
        refine ae_iload (q := 133) dX7_begin_131 rfl rfl ?_
        refine ae_iconst (v := 0) (q := 134) dX7_begin_133 (by decide) rfl ?_
        refine ae_iast (q := 135) dX7_begin_134 (h.s l316 t316) (h.l l316) (by unfold vp_in; decide) rfl ?_
        refine ae_eqH (show am_si G18 316 (0 : Int32).toNatClampNeg 0 = am_si G18 316 0 0 from by rw [show (0 : Int32).toNatClampNeg = 0 from by decide]) ?_
        refine ae_gen (fun G19 g19 => ?_)
        have h : jm N B 320 G19 := by rw [g19]; exact h.w t316 (by decide) (by decide) (by decide) (mk_inr (lo := 0) (hi := 48) (by decide) (by decide))
        refine ae_iinc (v := 1) (lv' := [(5, .int 1), (0, .ref 288), (1, .int a1), (2, .int a2), (3, .int a3), (4, .int a4)]) (q := 138) dX7_begin_135 rfl (by decide) (by decide) rfl rfl ?_
        refine ae_goto (q := 113) dX7_begin_138 (by decide) ?_
        refine ae_iload (q := 115) dX7_begin_113 rfl rfl ?_
        refine ae_iconst (v := 3) (q := 116) dX7_begin_115 (by decide) rfl ?_
        refine ae_icmp_ge (t := 141) (q := 119) dX7_begin_116 (by decide) rfl (fun h => absurd h (by decide)) (fun _ => ?_)
        refine ae_aload_n (q := 120) dX7_begin_119 rfl rfl rfl ?_
        refine ae_getR (q := 123) dX7_begin_120 fl_X7_89 rfl (h.s l288 t288) (h.l l288) (h.mr (k := 26) (b := 315) (by decide) rfl) rfl ?_
        refine ae_iload (q := 125) dX7_begin_123 rfl rfl ?_
        refine ae_iconst (v := (-1)) (q := 126) dX7_begin_125 (by decide) rfl ?_
        refine ae_iast (q := 127) dX7_begin_126 (h.s l315 t315) (h.l l315) (by unfold vp_in; decide) rfl ?_
        refine ae_eqH (show am_si G19 315 (1 : Int32).toNatClampNeg (-1) = am_si G19 315 1 (-1) from by rw [show (1 : Int32).toNatClampNeg = 1 from by decide]) ?_
        obtain ⟨x20, e20, u20, v20⟩ := rdi (h.i l315 t315 (k := 1) (p := ((-1), 47)) rfl)
        refine ae_gen (fun G21 g21 => ?_)
        have h : jm N B 320 G21 := by rw [g21]; exact h.w t315 (by decide) (by decide) (by decide) (mk_inr (lo := (-1)) (hi := 47) (by decide) (by decide))
        refine ae_aload_n (q := 128) dX7_begin_127 rfl rfl rfl ?_
        refine ae_getR (q := 131) dX7_begin_128 fl_X7_92 rfl (h.s l288 t288) (h.l l288) (h.mr (k := 27) (b := 316) (by decide) rfl) rfl ?_
        refine ae_iload (q := 133) dX7_begin_131 rfl rfl ?_
        refine ae_iconst (v := 0) (q := 134) dX7_begin_133 (by decide) rfl ?_
        refine ae_iast (q := 135) dX7_begin_134 (h.s l316 t316) (h.l l316) (by unfold vp_in; decide) rfl ?_
        refine ae_eqH (show am_si G21 316 (1 : Int32).toNatClampNeg 0 = am_si G21 316 1 0 from by rw [show (1 : Int32).toNatClampNeg = 1 from by decide]) ?_
        refine ae_gen (fun G22 g22 => ?_)
        have h : jm N B 320 G22 := by rw [g22]; exact h.w t316 (by decide) (by decide) (by decide) (mk_inr (lo := 0) (hi := 48) (by decide) (by decide))
        refine ae_iinc (v := 2) (lv' := [(5, .int 2), (0, .ref 288), (1, .int a1), (2, .int a2), (3, .int a3), (4, .int a4)]) (q := 138) dX7_begin_135 rfl (by decide) (by decide) rfl rfl ?_
        refine ae_goto (q := 113) dX7_begin_138 (by decide) ?_
        refine ae_iload (q := 115) dX7_begin_113 rfl rfl ?_
        refine ae_iconst (v := 3) (q := 116) dX7_begin_115 (by decide) rfl ?_
        refine ae_icmp_ge (t := 141) (q := 119) dX7_begin_116 (by decide) rfl (fun h => absurd h (by decide)) (fun _ => ?_)
        refine ae_aload_n (q := 120) dX7_begin_119 rfl rfl rfl ?_
        refine ae_getR (q := 123) dX7_begin_120 fl_X7_89 rfl (h.s l288 t288) (h.l l288) (h.mr (k := 26) (b := 315) (by decide) rfl) rfl ?_
        refine ae_iload (q := 125) dX7_begin_123 rfl rfl ?_
        refine ae_iconst (v := (-1)) (q := 126) dX7_begin_125 (by decide) rfl ?_
        refine ae_iast (q := 127) dX7_begin_126 (h.s l315 t315) (h.l l315) (by unfold vp_in; decide) rfl ?_
        refine ae_eqH (show am_si G22 315 (2 : Int32).toNatClampNeg (-1) = am_si G22 315 2 (-1) from by rw [show (2 : Int32).toNatClampNeg = 2 from by decide]) ?_
        obtain ⟨x23, e23, u23, v23⟩ := rdi (h.i l315 t315 (k := 2) (p := ((-1), 47)) rfl)
        refine ae_gen (fun G24 g24 => ?_)
        have h : jm N B 320 G24 := by rw [g24]; exact h.w t315 (by decide) (by decide) (by decide) (mk_inr (lo := (-1)) (hi := 47) (by decide) (by decide))
        refine ae_aload_n (q := 128) dX7_begin_127 rfl rfl rfl ?_
        refine ae_getR (q := 131) dX7_begin_128 fl_X7_92 rfl (h.s l288 t288) (h.l l288) (h.mr (k := 27) (b := 316) (by decide) rfl) rfl ?_
        refine ae_iload (q := 133) dX7_begin_131 rfl rfl ?_
        refine ae_iconst (v := 0) (q := 134) dX7_begin_133 (by decide) rfl ?_
        refine ae_iast (q := 135) dX7_begin_134 (h.s l316 t316) (h.l l316) (by unfold vp_in; decide) rfl ?_
        refine ae_eqH (show am_si G24 316 (2 : Int32).toNatClampNeg 0 = am_si G24 316 2 0 from by rw [show (2 : Int32).toNatClampNeg = 2 from by decide]) ?_
        refine ae_gen (fun G25 g25 => ?_)
        have h : jm N B 320 G25 := by rw [g25]; exact h.w t316 (by decide) (by decide) (by decide) (mk_inr (lo := 0) (hi := 48) (by decide) (by decide))
        refine ae_iinc (v := 3) (lv' := [(5, .int 3), (0, .ref 288), (1, .int a1), (2, .int a2), (3, .int a3), (4, .int a4)]) (q := 138) dX7_begin_135 rfl (by decide) (by decide) rfl rfl ?_
        refine ae_goto (q := 113) dX7_begin_138 (by decide) ?_
        refine ae_iload (q := 115) dX7_begin_113 rfl rfl ?_
        refine ae_iconst (v := 3) (q := 116) dX7_begin_115 (by decide) rfl ?_
        refine ae_icmp_ge (t := 141) (q := 119) dX7_begin_116 (by decide) rfl (fun _ => ?_) (fun h => absurd h (by decide))
        refine ae_aload_n (q := 142) dX7_begin_141 rfl rfl rfl ?_
        refine ae_getR (q := 145) dX7_begin_142 fl_X7_68 rfl (h.s l288 t288) (h.l l288) (h.mr (k := 19) (b := 308) (by decide) rfl) rfl ?_
        refine ae_iconst (v := 0) (q := 146) dX7_begin_145 (by decide) rfl ?_
        refine ae_iconst (v := 0) (q := 147) dX7_begin_146 (by decide) rfl ?_
        refine ae_iast (q := 148) dX7_begin_147 (h.s l308 t308) (h.l l308) (by unfold vp_in; decide) rfl ?_
        refine ae_eqH (show am_si G25 308 (0 : Int32).toNatClampNeg 0 = am_si G25 308 0 0 from by rw [show (0 : Int32).toNatClampNeg = 0 from by decide]) ?_
        refine ae_gen (fun G26 g26 => ?_)
        have h : jm N B 320 G26 := by rw [g26]; exact h.w t308 (by decide) (by decide) (by decide) inr_any
        refine ae_aload_n (q := 149) dX7_begin_148 rfl rfl rfl ?_
        refine ae_getR (q := 152) dX7_begin_149 fl_X7_68 rfl (h.s l288 t288) (h.l l288) (h.mr (k := 19) (b := 308) (by decide) rfl) rfl ?_
        refine ae_iconst (v := 1) (q := 153) dX7_begin_152 (by decide) rfl ?_
        refine ae_iconst (v := 0) (q := 154) dX7_begin_153 (by decide) rfl ?_
        refine ae_iast (q := 155) dX7_begin_154 (h.s l308 t308) (h.l l308) (by unfold vp_in; decide) rfl ?_
        refine ae_eqH (show am_si G26 308 (1 : Int32).toNatClampNeg 0 = am_si G26 308 1 0 from by rw [show (1 : Int32).toNatClampNeg = 1 from by decide]) ?_
        refine ae_gen (fun G27 g27 => ?_)
        have h : jm N B 320 G27 := by rw [g27]; exact h.w t308 (by decide) (by decide) (by decide) inr_any
        have m28 : am_gi G7 288 30 = 0 := by rw [g7]; exact gi_si (show am_gi G6 288 30 = 0 by rw [g6]; exact gi_set) (fun q => absurd q.2 (by decide))
        have m29 : am_gi G8 288 30 = 0 := by rw [g8]; exact gi_si m28 (fun q => absurd q.2 (by decide))
        have m30 : am_gi G9 288 30 = 0 := by rw [g9]; exact gi_si m29 (fun q => absurd q.2 (by decide))
        have m31 : am_gi G10 288 30 = 0 := by rw [g10]; exact gi_si m30 (fun q => absurd q.2 (by decide))
        have m32 : am_gi G11 288 30 = 0 := by rw [g11]; exact gi_si m31 (fun q => absurd q.2 (by decide))
        have m33 : am_gi G12 288 30 = 0 := by rw [g12]; exact gi_si m32 (fun q => absurd q.2 (by decide))
        have m34 : am_gi G13 288 30 = 0 := by rw [g13]; exact gi_si m33 (fun q => absurd q.1 (by decide))
        have m35 : am_gi G14 288 30 = 0 := by rw [g14]; exact gi_si m34 (fun q => absurd q.1 (by decide))
        have m36 : am_gi G15 288 30 = 0 := by rw [g15]; exact gi_si m35 (fun q => absurd q.1 (by decide))
        have m37 : am_gi G16 288 30 = 0 := by rw [g16]; exact gi_si m36 (fun q => absurd q.1 (by decide))
        have m38 : am_gi G18 288 30 = 0 := by rw [g18]; exact gi_si m37 (fun q => absurd q.1 (by decide))
        have m39 : am_gi G19 288 30 = 0 := by rw [g19]; exact gi_si m38 (fun q => absurd q.1 (by decide))
        have m40 : am_gi G21 288 30 = 0 := by rw [g21]; exact gi_si m39 (fun q => absurd q.1 (by decide))
        have m41 : am_gi G22 288 30 = 0 := by rw [g22]; exact gi_si m40 (fun q => absurd q.1 (by decide))
        have m42 : am_gi G24 288 30 = 0 := by rw [g24]; exact gi_si m41 (fun q => absurd q.1 (by decide))
        have m43 : am_gi G25 288 30 = 0 := by rw [g25]; exact gi_si m42 (fun q => absurd q.1 (by decide))
        have m44 : am_gi G26 288 30 = 0 := by rw [g26]; exact gi_si m43 (fun q => absurd q.1 (by decide))
        have m45 : am_gi G27 288 30 = 0 := by rw [g27]; exact gi_si m44 (fun q => absurd q.1 (by decide))
        have m46 : am_gi G19 315 0 = (-1) := by rw [g19]; exact gi_si (show am_gi G18 315 0 = (-1) by rw [g18]; exact gi_set) (fun q => absurd q.1 (by decide))
        have m47 : am_gi G21 315 0 = (-1) := by rw [g21]; exact gi_si m46 (fun q => absurd q.2 (by decide))
        have m48 : am_gi G22 315 0 = (-1) := by rw [g22]; exact gi_si m47 (fun q => absurd q.1 (by decide))
        have m49 : am_gi G24 315 0 = (-1) := by rw [g24]; exact gi_si m48 (fun q => absurd q.2 (by decide))
        have m50 : am_gi G25 315 0 = (-1) := by rw [g25]; exact gi_si m49 (fun q => absurd q.1 (by decide))
        have m51 : am_gi G26 315 0 = (-1) := by rw [g26]; exact gi_si m50 (fun q => absurd q.1 (by decide))
        have m52 : am_gi G27 315 0 = (-1) := by rw [g27]; exact gi_si m51 (fun q => absurd q.1 (by decide))
        have m53 : am_gi G22 315 1 = (-1) := by rw [g22]; exact gi_si (show am_gi G21 315 1 = (-1) by rw [g21]; exact gi_set) (fun q => absurd q.1 (by decide))
        have m54 : am_gi G24 315 1 = (-1) := by rw [g24]; exact gi_si m53 (fun q => absurd q.2 (by decide))
        have m55 : am_gi G25 315 1 = (-1) := by rw [g25]; exact gi_si m54 (fun q => absurd q.1 (by decide))
        have m56 : am_gi G26 315 1 = (-1) := by rw [g26]; exact gi_si m55 (fun q => absurd q.1 (by decide))
        have m57 : am_gi G27 315 1 = (-1) := by rw [g27]; exact gi_si m56 (fun q => absurd q.1 (by decide))
        have m58 : am_gi G25 315 2 = (-1) := by rw [g25]; exact gi_si (show am_gi G24 315 2 = (-1) by rw [g24]; exact gi_set) (fun q => absurd q.1 (by decide))
        have m59 : am_gi G26 315 2 = (-1) := by rw [g26]; exact gi_si m58 (fun q => absurd q.1 (by decide))
        have m60 : am_gi G27 315 2 = (-1) := by rw [g27]; exact gi_si m59 (fun q => absurd q.1 (by decide))
        have m61 : am_gi G21 316 0 = 0 := by rw [g21]; exact gi_si (show am_gi G19 316 0 = 0 by rw [g19]; exact gi_set) (fun q => absurd q.1 (by decide))
        have m62 : am_gi G22 316 0 = 0 := by rw [g22]; exact gi_si m61 (fun q => absurd q.2 (by decide))
        have m63 : am_gi G24 316 0 = 0 := by rw [g24]; exact gi_si m62 (fun q => absurd q.1 (by decide))
        have m64 : am_gi G25 316 0 = 0 := by rw [g25]; exact gi_si m63 (fun q => absurd q.2 (by decide))
        have m65 : am_gi G26 316 0 = 0 := by rw [g26]; exact gi_si m64 (fun q => absurd q.1 (by decide))
        have m66 : am_gi G27 316 0 = 0 := by rw [g27]; exact gi_si m65 (fun q => absurd q.1 (by decide))
        have m67 : am_gi G24 316 1 = 0 := by rw [g24]; exact gi_si (show am_gi G22 316 1 = 0 by rw [g22]; exact gi_set) (fun q => absurd q.1 (by decide))
        have m68 : am_gi G25 316 1 = 0 := by rw [g25]; exact gi_si m67 (fun q => absurd q.2 (by decide))
        have m69 : am_gi G26 316 1 = 0 := by rw [g26]; exact gi_si m68 (fun q => absurd q.1 (by decide))
        have m70 : am_gi G27 316 1 = 0 := by rw [g27]; exact gi_si m69 (fun q => absurd q.1 (by decide))
        have m71 : am_gi G26 316 2 = 0 := by rw [g26]; exact gi_si (show am_gi G25 316 2 = 0 by rw [g25]; exact gi_set) (fun q => absurd q.1 (by decide))
        have m72 : am_gi G27 316 2 = 0 := by rw [g27]; exact gi_si m71 (fun q => absurd q.1 (by decide))
        have q0 : dl G27 = 0 := dl_zero m45 m52 m57 m60 m66 m70 m72
        refine ae_aload_n (q := 156) dX7_begin_155 rfl rfl rfl ?_
        refine ae_sipush (v := 144) (q := 159) dX7_begin_156 (by decide) rfl ?_
        refine ae_iconst (v := 0) (q := 160) dX7_begin_159 (by decide) rfl ?_
        refine ae_iconst (v := 0) (q := 161) dX7_begin_160 (by decide) rfl ?_
        refine ae_callV (ci := 7) (as := [.int 144, .int 0, .int 0]) (b := 288) (st := []) (q := 164) dX7_begin_161 (c_X7_openScope (N := N) (d := d + 1) h (by decide) (by decide) (by decide) (by decide)) myX7_openScope lk_X7_144 im_X7_openScope se_X7_openScope rfl (by decide) (h.s l288 t288) (h.l l288) rfl rfl (Nat.le_of_ble_eq_true rfl) rfl (fun o H1 hh => ⟨_, hh.1⟩) (fun vv G73 hv => ?_)
        obtain ⟨o73, z73⟩ := hv
        cases o73
        obtain ⟨z73, w73⟩ := z73
        refine ⟨Or.inl (z73.nx.trans h.nx.symm), ?_⟩
        have h : jm N B 320 G73 := z73
        clear z73
        have q73 := w73.dl
        refine ae_aload_n (q := 165) dX7_begin_164 rfl rfl rfl ?_
        refine ae_iload_n (q := 166) dX7_begin_165 rfl rfl rfl ?_
        refine ae_iload_n (q := 167) dX7_begin_166 rfl rfl rfl ?_
        refine ae_sipush (v := 144) (q := 170) dX7_begin_167 (by decide) rfl ?_
        have m74 : am_gi G73 288 30 = 0 := (congrFun w73.1 30).trans m45
        refine ae_callV (ci := 7) (as := [.int a1, .int a2, .int 144]) (b := 288) (st := []) (q := 173) dX7_begin_170 (c_X7_newTask (N := N) (d := d + 1) h (by omega) (by omega) (by decide) (by decide) (xc := 0) m74 (by decide) (by decide)) myX7_newTask lk_X7_148 im_X7_newTask se_X7_newTask rfl (by decide) (h.s l288 t288) (h.l l288) rfl rfl (Nat.le_of_ble_eq_true rfl) rfl (fun o H1 hh => ⟨_, hh.1.choose_spec.1⟩) (fun vv G75 hv => ?_)
        obtain ⟨⟨x75, o75, u75, v75⟩, z75⟩ := hv
        cases o75
        obtain ⟨z75, w75⟩ := z75
        refine ⟨Or.inl (z75.nx.trans h.nx.symm), ?_⟩
        have h : jm N B 320 G75 := z75
        clear z75
        obtain ⟨wa75, wb75, q75, wt75⟩ := w75
        have m76 : am_gi G5 288 37 = 0 := by rw [g5]; exact gi_si (show am_gi G4 288 37 = 0 by rw [g4]; exact gi_set) (fun q => absurd q.2 (by decide))
        have m77 : am_gi G6 288 37 = 0 := by rw [g6]; exact gi_si m76 (fun q => absurd q.2 (by decide))
        have m78 : am_gi G7 288 37 = 0 := by rw [g7]; exact gi_si m77 (fun q => absurd q.2 (by decide))
        have m79 : am_gi G8 288 37 = 0 := by rw [g8]; exact gi_si m78 (fun q => absurd q.2 (by decide))
        have m80 : am_gi G9 288 37 = 0 := by rw [g9]; exact gi_si m79 (fun q => absurd q.2 (by decide))
        have m81 : am_gi G10 288 37 = 0 := by rw [g10]; exact gi_si m80 (fun q => absurd q.2 (by decide))
        have m82 : am_gi G11 288 37 = 0 := by rw [g11]; exact gi_si m81 (fun q => absurd q.2 (by decide))
        have m83 : am_gi G12 288 37 = 0 := by rw [g12]; exact gi_si m82 (fun q => absurd q.2 (by decide))
        have m84 : am_gi G13 288 37 = 0 := by rw [g13]; exact gi_si m83 (fun q => absurd q.1 (by decide))
        have m85 : am_gi G14 288 37 = 0 := by rw [g14]; exact gi_si m84 (fun q => absurd q.1 (by decide))
        have m86 : am_gi G15 288 37 = 0 := by rw [g15]; exact gi_si m85 (fun q => absurd q.1 (by decide))
        have m87 : am_gi G16 288 37 = 0 := by rw [g16]; exact gi_si m86 (fun q => absurd q.1 (by decide))
        have m88 : am_gi G18 288 37 = 0 := by rw [g18]; exact gi_si m87 (fun q => absurd q.1 (by decide))
        have m89 : am_gi G19 288 37 = 0 := by rw [g19]; exact gi_si m88 (fun q => absurd q.1 (by decide))
        have m90 : am_gi G21 288 37 = 0 := by rw [g21]; exact gi_si m89 (fun q => absurd q.1 (by decide))
        have m91 : am_gi G22 288 37 = 0 := by rw [g22]; exact gi_si m90 (fun q => absurd q.1 (by decide))
        have m92 : am_gi G24 288 37 = 0 := by rw [g24]; exact gi_si m91 (fun q => absurd q.1 (by decide))
        have m93 : am_gi G25 288 37 = 0 := by rw [g25]; exact gi_si m92 (fun q => absurd q.1 (by decide))
        have m94 : am_gi G26 288 37 = 0 := by rw [g26]; exact gi_si m93 (fun q => absurd q.1 (by decide))
        have m95 : am_gi G27 288 37 = 0 := by rw [g27]; exact gi_si m94 (fun q => absurd q.1 (by decide))
        have m96 : am_gi G73 288 37 = 0 := (congrFun w73.1 37).trans m95
        refine ae_istore (lv' := [(5, .int x75), (0, .ref 288), (1, .int a1), (2, .int a2), (3, .int a3), (4, .int a4)]) (q := 175) dX7_begin_173 (by decide) rfl rfl ?_
        refine ae_aload_n (q := 176) dX7_begin_175 rfl rfl rfl ?_
        refine ae_iconst (v := 0) (q := 177) dX7_begin_176 (by decide) rfl ?_
        refine ae_iload (q := 179) dX7_begin_177 rfl rfl ?_
        obtain ⟨x97, e97, u97, v97⟩ := rdi (h.i l316 t316 (k := 0) (p := (0, 48)) rfl)
        have wq98 : x97.toInt ≤ 47 := by rw [← e97]; exact h.room (by decide) (by omega)
        refine ae_callV (ci := 7) (as := [.int 0, .int x75]) (b := 288) (st := []) (q := 182) dX7_begin_179 (c_X7_push (N := N) (d := d + 1) h (by decide) (by decide) (by omega) (by omega) (xq := x97) e97 (by omega) (by omega)) myX7_push lk_X7_152 im_X7_push se_X7_push rfl (by decide) (h.s l288 t288) (h.l l288) rfl rfl (Nat.le_of_ble_eq_true rfl) rfl (fun o H1 hh => ⟨_, hh.1⟩) (fun vv G99 hv => ?_)
        obtain ⟨o99, z99⟩ := hv
        cases o99
        obtain ⟨z99, w99⟩ := z99
        refine ⟨Or.inl (z99.nx.trans h.nx.symm), ?_⟩
        have h : jm N B 320 G99 := z99
        clear z99
        obtain ⟨wa99, wr99, q99, qp99⟩ := w99
        clear qp99
        refine ae_vret dX7_begin_182 rfl ?_
        have m100 : am_gi G99 288 37 = 0 := (congrFun wr99 37).trans (wt75.trans m96)
        exact ⟨rfl, ⟨h, Or.inr (by omega), Or.inl ⟨by omega, m100⟩⟩⟩
      · have d3 := i_out (a := 0) (b := a4.toInt) (c := 1) (by decide) rfl (by decide) c3
        refine ae_if_eq (t := 34) (q := 30) dX7_begin_27 (by decide) rfl (fun _ => ?_) (fun h => absurd h (by decide))
        refine ae_iconst (v := 1) (q := 35) dX7_begin_34 (by decide) rfl ?_
        refine ae_putI (q := 38) dX7_begin_35 fl_X7_101 rfl rfl rfl (h.s l288 t288) (h.l l288) rfl ?_
        refine ae_gen (fun G101 g101 => ?_)
        have h : jm N B 320 G101 := by rw [g101]; exact h.w t288 (by decide) (by decide) (by decide) inr_any
        have q101 : dl G101 = dl H := by rw [g101]; exact dl_ne (by decide) (by decide) (by decide) (fun q => absurd q.2 (by decide))
        have hz : am_gi G101 288 39 = am_gi H 288 39 := by rw [g101]; exact gi_si hz (fun q => absurd q.2 (by decide))
        refine ae_aload_n (q := 39) dX7_begin_38 rfl rfl rfl ?_
        refine ae_getI (q := 42) dX7_begin_39 fl_X7_101 rfl (h.s l288 t288) (h.l l288) rfl ?_
        refine ae_eqi (show am_gi G101 288 37 = 1 by rw [g101]; exact gi_set) ?_
        refine ae_if_le (t := 46) (q := 45) dX7_begin_42 (by decide) rfl (fun h => absurd h (by decide)) (fun _ => ?_)
        refine ae_vret dX7_begin_45 rfl ?_
        exact ⟨rfl, ⟨h, (hb.elim (fun z => Or.inl (hz.trans z)) (fun z => Or.inr (by omega))), Or.inr ⟨by omega, (show am_gi G101 288 37 = 1 by rw [g101]; exact gi_set)⟩⟩⟩
    · have d2 := i_out (a := 1) (b := a3.toInt) (c := 3) (by decide) rfl (by decide) c2
      refine ae_if_eq (t := 34) (q := 20) dX7_begin_17 (by decide) rfl (fun _ => ?_) (fun h => absurd h (by decide))
      refine ae_iconst (v := 1) (q := 35) dX7_begin_34 (by decide) rfl ?_
      refine ae_putI (q := 38) dX7_begin_35 fl_X7_101 rfl rfl rfl (h.s l288 t288) (h.l l288) rfl ?_
      refine ae_gen (fun G102 g102 => ?_)
      have h : jm N B 320 G102 := by rw [g102]; exact h.w t288 (by decide) (by decide) (by decide) inr_any
      have q102 : dl G102 = dl H := by rw [g102]; exact dl_ne (by decide) (by decide) (by decide) (fun q => absurd q.2 (by decide))
      have hz : am_gi G102 288 39 = am_gi H 288 39 := by rw [g102]; exact gi_si hz (fun q => absurd q.2 (by decide))
      refine ae_aload_n (q := 39) dX7_begin_38 rfl rfl rfl ?_
      refine ae_getI (q := 42) dX7_begin_39 fl_X7_101 rfl (h.s l288 t288) (h.l l288) rfl ?_
      refine ae_eqi (show am_gi G102 288 37 = 1 by rw [g102]; exact gi_set) ?_
      refine ae_if_le (t := 46) (q := 45) dX7_begin_42 (by decide) rfl (fun h => absurd h (by decide)) (fun _ => ?_)
      refine ae_vret dX7_begin_45 rfl ?_
      exact ⟨rfl, ⟨h, (hb.elim (fun z => Or.inl (hz.trans z)) (fun z => Or.inr (by omega))), Or.inr ⟨by omega, (show am_gi G102 288 37 = 1 by rw [g102]; exact gi_set)⟩⟩⟩
  · have d1 := i_out (a := 0) (b := a1.toInt) (c := 7) (by decide) rfl (by decide) c1
    refine ae_if_eq (t := 34) (q := 11) dX7_begin_8 (by decide) rfl (fun _ => ?_) (fun h => absurd h (by decide))
    refine ae_iconst (v := 1) (q := 35) dX7_begin_34 (by decide) rfl ?_
    refine ae_putI (q := 38) dX7_begin_35 fl_X7_101 rfl rfl rfl (h.s l288 t288) (h.l l288) rfl ?_
    refine ae_gen (fun G103 g103 => ?_)
    have h : jm N B 320 G103 := by rw [g103]; exact h.w t288 (by decide) (by decide) (by decide) inr_any
    have q103 : dl G103 = dl H := by rw [g103]; exact dl_ne (by decide) (by decide) (by decide) (fun q => absurd q.2 (by decide))
    have hz : am_gi G103 288 39 = am_gi H 288 39 := by rw [g103]; exact gi_si hz (fun q => absurd q.2 (by decide))
    refine ae_aload_n (q := 39) dX7_begin_38 rfl rfl rfl ?_
    refine ae_getI (q := 42) dX7_begin_39 fl_X7_101 rfl (h.s l288 t288) (h.l l288) rfl ?_
    refine ae_eqi (show am_gi G103 288 37 = 1 by rw [g103]; exact gi_set) ?_
    refine ae_if_le (t := 46) (q := 45) dX7_begin_42 (by decide) rfl (fun h => absurd h (by decide)) (fun _ => ?_)
    refine ae_vret dX7_begin_45 rfl ?_
    exact ⟨rfl, ⟨h, (hb.elim (fun z => Or.inl (hz.trans z)) (fun z => Or.inr (by omega))), Or.inr ⟨by omega, (show am_gi G103 288 37 = 1 by rw [g103]; exact gi_set)⟩⟩⟩
