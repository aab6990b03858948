set_option maxRecDepth 100000 in
set_option maxHeartbeats 4000000 in
theorem c_X6_run {ox : List (Nat × (Nat → Int32))} {d N : Nat} {B H : am_H} {p0 : Nat} {a1 : Int32} (ho3 : ox[3]? = some (4, fun k => am_t3.getD k 0)) (hR : R1 B) (hN : N + 600 ≤ 1000000) (h : jc N B 320 H) (lp0 : p0 < 320) (tp0 : ty p0 = 0) : am_DB 1 ox (d + 6) yX6_run mX6_run [.ref p0, .int a1] H (fun o H1 => lo cs_run o ∧ jc (N + 600) B 320 H1) := by
  refine ae_enter rfl rfl rfl rfl (Nat.le_of_ble_eq_true rfl) ?_
  show am_EB 1 ox (d + 6) mX6_run 0 [(0, .ref p0), (1, .int a1)] [] H _
  refine ae_iload_n (q := 1) dX6_run_0 rfl rfl rfl ?_
  refine ae_iconst (v := 0) (q := 2) dX6_run_1 (by decide) rfl ?_
  refine ae_sipush (v := 200) (q := 5) dX6_run_2 (by decide) rfl ?_
  refine ae_wX6 (q := 8) dX6_run_5 lk_X6_25 (Nat.le_of_ble_eq_true rfl) rfl (fun c1 => ?_) (fun c1 => ?_)
  · have d1 := i_le (a := 0) (b := a1.toInt) (by decide) rfl c1.1
    have f1 := i_le (a := a1.toInt) (b := 200) rfl (by decide) c1.2
    refine ae_if_ne (t := 21) (q := 11) dX6_run_8 (by decide) rfl (fun _ => ?_) (fun h => absurd h (by decide))
    refine ae_aload_n (q := 22) dX6_run_21 rfl rfl rfl ?_
    obtain ⟨b2, r2, l2, t2⟩ := h.r lp0 tp0 (k := 1) (T' := 5) rfl (by decide)
    refine ae_getR (q := 25) dX6_run_22 fl_X6_21 rfl (h.s lp0 tp0) (h.l lp0) r2 rfl ?_
    refine ae_callV (ci := 2) (as := []) (b := b2) (st := []) (q := 28) dX6_run_25 (c_X2_isBegun (N := N) (d := d + 5) h l2 t2) myX2_isBegun lk_X6_66 im_X2_isBegun se_X2_isBegun rfl (by decide) (h.s l2 t2) (h.l l2) rfl rfl (Nat.le_of_ble_eq_true rfl) rfl (fun o H1 hh => ⟨_, hh.1.choose_spec.1⟩) (fun vv G3 hv => ?_)
    obtain ⟨⟨x3, o3, u3, v3⟩, z3⟩ := hv
    cases o3
    have z3 := z3.symm
    subst z3
    refine ⟨Or.inl rfl, ?_⟩
    refine ae_if_ne (t := 41) (q := 31) dX6_run_28 (by decide) rfl (fun c4 => ?_) (fun c4 => ?_)
    · have c4 := i_ne (a := x3.toInt) (b := 0) rfl (by decide) c4
      refine ae_iconst (v := 0) (q := 42) dX6_run_41 (by decide) rfl ?_
      refine ae_istore_n (lv' := [(2, .int 0), (0, .ref p0), (1, .int a1)]) (q := 43) dX6_run_42 rfl (by decide) rfl rfl ?_
      have lab43 : ∀ (n5 : Nat) (m5 : Nat) (y5_2 : Int32) (K5 : am_H), jc m5 B 320 K5 → 0 ≤ y5_2.toInt → y5_2.toInt ≤ 200 → 200 - y5_2.toInt ≤ (n5 : Int) → (m5 : Int) ≤ N + 3 * y5_2.toInt → am_EB 1 ox (d + 6) mX6_run 43 [(2, .int y5_2), (0, .ref p0), (1, .int a1)] [] K5 (fun o H1 => lo cs_run o ∧ jc (N + 600) B 320 H1) := by
        intro n5
        induction n5 using Nat.strongRecOn with
        | ind n5 ih5 =>
          intro m5 y5_2 K5 h p5_2 q5_2 mm5 k5
          refine ae_iload_n (q := 44) dX6_run_43 rfl rfl rfl ?_
          refine ae_iload_n (q := 45) dX6_run_44 rfl rfl rfl ?_
          refine ae_icmp_ge (t := 81) (q := 48) dX6_run_45 (by decide) rfl (fun c6 => ?_) (fun c6 => ?_)
          · have c6 := i_le (a := a1.toInt) (b := y5_2.toInt) rfl rfl c6
            refine ae_aload_n (q := 82) dX6_run_81 rfl rfl rfl ?_
            obtain ⟨b7, r7, l7, t7⟩ := h.r lp0 tp0 (k := 1) (T' := 5) rfl (by decide)
            refine ae_getR (q := 85) dX6_run_82 fl_X6_21 rfl (h.s lp0 tp0) (h.l lp0) r7 rfl ?_
            refine ae_callV (ci := 2) (as := []) (b := b7) (st := []) (q := 88) dX6_run_85 (c_X2_isStuck (N := m5) (d := d + 3) h l7 t7) myX2_isStuck lk_X6_75 im_X2_isStuck se_X2_isStuck rfl (by decide) (h.s l7 t7) (h.l l7) rfl rfl (Nat.le_of_ble_eq_true rfl) rfl (fun o H1 hh => ⟨_, hh.1.choose_spec.1⟩) (fun vv G8 hv => ?_)
            obtain ⟨⟨x8, o8, u8, v8⟩, z8⟩ := hv
            cases o8
            have z8 := z8.symm
            subst z8
            refine ⟨Or.inl rfl, ?_⟩
            refine ae_if_eq (t := 101) (q := 91) dX6_run_88 (by decide) rfl (fun c9 => ?_) (fun c9 => ?_)
            · have c9 := i_eq (a := x8.toInt) (b := 0) rfl (by decide) c9
              refine ae_aload_n (q := 102) dX6_run_101 rfl rfl rfl ?_
              refine ae_getR (q := 105) dX6_run_102 fl_X6_21 rfl (h.s lp0 tp0) (h.l lp0) r7 rfl ?_
              refine ae_callV (ci := 2) (as := []) (b := b7) (st := []) (q := 108) dX6_run_105 (c_X2_isOver (N := m5) (d := d + 4) h l7 t7) myX2_isOver lk_X6_72 im_X2_isOver se_X2_isOver rfl (by decide) (h.s l7 t7) (h.l l7) rfl rfl (Nat.le_of_ble_eq_true rfl) rfl (fun o H1 hh => ⟨_, hh.1.choose_spec.1⟩) (fun vv G10 hv => ?_)
              obtain ⟨⟨x10, o10, u10, v10⟩, z10⟩ := hv
              cases o10
              have z10 := z10.symm
              subst z10
              refine ⟨Or.inl rfl, ?_⟩
              refine ae_if_eq (t := 115) (q := 111) dX6_run_108 (by decide) rfl (fun c11 => ?_) (fun c11 => ?_)
              · have c11 := i_eq (a := x10.toInt) (b := 0) rfl (by decide) c11
                refine ae_iconst (v := 0) (q := 116) dX6_run_115 (by decide) rfl ?_
                refine ae_iret dX6_run_116 rfl rfl ?_
                exact ⟨Or.inl ⟨_, rfl⟩, (h.up (by omega))⟩
              · have c11 := i_ne (a := x10.toInt) (b := 0) rfl (by decide) c11
                refine ae_iconst (v := 1) (q := 112) dX6_run_111 (by decide) rfl ?_
                refine ae_goto (q := 116) dX6_run_112 (by decide) ?_
                refine ae_iret dX6_run_116 rfl rfl ?_
                exact ⟨Or.inl ⟨_, rfl⟩, (h.up (by omega))⟩
            · have c9 := i_ne (a := x8.toInt) (b := 0) rfl (by decide) c9
              refine ae_throw (names := am_exn) (text := "the run is stuck") dX6_run_91 dX6_run_94 dX6_run_95 dX6_run_97 dX6_run_100 (by decide +kernel) am_exf aw_587 aw_17 (by decide +kernel) tw_UOE (by decide) rfl (Nat.le_of_ble_eq_true rfl) (Nat.le_of_ble_eq_true rfl) (by decide) ?_
              exact ⟨Or.inr ⟨_, 3, by decide, rfl⟩, (h.up (by omega))⟩
          · have c6 := i_nle (a := a1.toInt) (b := y5_2.toInt) rfl rfl c6
            refine ae_aload_n (q := 49) dX6_run_48 rfl rfl rfl ?_
            obtain ⟨b12, r12, l12, t12⟩ := h.r lp0 tp0 (k := 1) (T' := 5) rfl (by decide)
            refine ae_getR (q := 52) dX6_run_49 fl_X6_21 rfl (h.s lp0 tp0) (h.l lp0) r12 rfl ?_
            refine ae_callV (ci := 2) (as := []) (b := b12) (st := []) (q := 55) dX6_run_52 (c_X2_isOver (N := m5) (d := d + 4) h l12 t12) myX2_isOver lk_X6_72 im_X2_isOver se_X2_isOver rfl (by decide) (h.s l12 t12) (h.l l12) rfl rfl (Nat.le_of_ble_eq_true rfl) rfl (fun o H1 hh => ⟨_, hh.1.choose_spec.1⟩) (fun vv G13 hv => ?_)
            obtain ⟨⟨x13, o13, u13, v13⟩, z13⟩ := hv
            cases o13
            have z13 := z13.symm
            subst z13
            refine ⟨Or.inl rfl, ?_⟩
            refine ae_if_ne (t := 81) (q := 58) dX6_run_55 (by decide) rfl (fun c14 => ?_) (fun c14 => ?_)
            · have c14 := i_ne (a := x13.toInt) (b := 0) rfl (by decide) c14
              refine ae_aload_n (q := 82) dX6_run_81 rfl rfl rfl ?_
              refine ae_getR (q := 85) dX6_run_82 fl_X6_21 rfl (h.s lp0 tp0) (h.l lp0) r12 rfl ?_
              refine ae_callV (ci := 2) (as := []) (b := b12) (st := []) (q := 88) dX6_run_85 (c_X2_isStuck (N := m5) (d := d + 3) h l12 t12) myX2_isStuck lk_X6_75 im_X2_isStuck se_X2_isStuck rfl (by decide) (h.s l12 t12) (h.l l12) rfl rfl (Nat.le_of_ble_eq_true rfl) rfl (fun o H1 hh => ⟨_, hh.1.choose_spec.1⟩) (fun vv G15 hv => ?_)
              obtain ⟨⟨x15, o15, u15, v15⟩, z15⟩ := hv
              cases o15
              have z15 := z15.symm
              subst z15
              refine ⟨Or.inl rfl, ?_⟩
              refine ae_if_eq (t := 101) (q := 91) dX6_run_88 (by decide) rfl (fun c16 => ?_) (fun c16 => ?_)
              · have c16 := i_eq (a := x15.toInt) (b := 0) rfl (by decide) c16
                refine ae_aload_n (q := 102) dX6_run_101 rfl rfl rfl ?_
                refine ae_getR (q := 105) dX6_run_102 fl_X6_21 rfl (h.s lp0 tp0) (h.l lp0) r12 rfl ?_
                refine ae_callV (ci := 2) (as := []) (b := b12) (st := []) (q := 108) dX6_run_105 (c_X2_isOver (N := m5) (d := d + 4) h l12 t12) myX2_isOver lk_X6_72 im_X2_isOver se_X2_isOver rfl (by decide) (h.s l12 t12) (h.l l12) rfl rfl (Nat.le_of_ble_eq_true rfl) rfl (fun o H1 hh => ⟨_, hh.1.choose_spec.1⟩) (fun vv G17 hv => ?_)
                obtain ⟨⟨x17, o17, u17, v17⟩, z17⟩ := hv
                cases o17
                have z17 := z17.symm
                subst z17
                refine ⟨Or.inl rfl, ?_⟩
                refine ae_if_eq (t := 115) (q := 111) dX6_run_108 (by decide) rfl (fun c18 => ?_) (fun c18 => ?_)
                · have c18 := i_eq (a := x17.toInt) (b := 0) rfl (by decide) c18
                  refine ae_iconst (v := 0) (q := 116) dX6_run_115 (by decide) rfl ?_
                  refine ae_iret dX6_run_116 rfl rfl ?_
                  exact ⟨Or.inl ⟨_, rfl⟩, (h.up (by omega))⟩
                · have c18 := i_ne (a := x17.toInt) (b := 0) rfl (by decide) c18
                  refine ae_iconst (v := 1) (q := 112) dX6_run_111 (by decide) rfl ?_
                  refine ae_goto (q := 116) dX6_run_112 (by decide) ?_
                  refine ae_iret dX6_run_116 rfl rfl ?_
                  exact ⟨Or.inl ⟨_, rfl⟩, (h.up (by omega))⟩
              · have c16 := i_ne (a := x15.toInt) (b := 0) rfl (by decide) c16
                refine ae_throw (names := am_exn) (text := "the run is stuck") dX6_run_91 dX6_run_94 dX6_run_95 dX6_run_97 dX6_run_100 (by decide +kernel) am_exf aw_587 aw_17 (by decide +kernel) tw_UOE (by decide) rfl (Nat.le_of_ble_eq_true rfl) (Nat.le_of_ble_eq_true rfl) (by decide) ?_
                exact ⟨Or.inr ⟨_, 3, by decide, rfl⟩, (h.up (by omega))⟩
            · have c14 := i_eq (a := x13.toInt) (b := 0) rfl (by decide) c14
              refine ae_aload_n (q := 59) dX6_run_58 rfl rfl rfl ?_
              refine ae_getR (q := 62) dX6_run_59 fl_X6_21 rfl (h.s lp0 tp0) (h.l lp0) r12 rfl ?_
              refine ae_callV (ci := 2) (as := []) (b := b12) (st := []) (q := 65) dX6_run_62 (c_X2_isStuck (N := m5) (d := d + 3) h l12 t12) myX2_isStuck lk_X6_75 im_X2_isStuck se_X2_isStuck rfl (by decide) (h.s l12 t12) (h.l l12) rfl rfl (Nat.le_of_ble_eq_true rfl) rfl (fun o H1 hh => ⟨_, hh.1.choose_spec.1⟩) (fun vv G19 hv => ?_)
              obtain ⟨⟨x19, o19, u19, v19⟩, z19⟩ := hv
              cases o19
              have z19 := z19.symm
              subst z19
              refine ⟨Or.inl rfl, ?_⟩
              refine ae_if_ne (t := 81) (q := 68) dX6_run_65 (by decide) rfl (fun c20 => ?_) (fun c20 => ?_)
              · have c20 := i_ne (a := x19.toInt) (b := 0) rfl (by decide) c20
                refine ae_aload_n (q := 82) dX6_run_81 rfl rfl rfl ?_
                refine ae_getR (q := 85) dX6_run_82 fl_X6_21 rfl (h.s lp0 tp0) (h.l lp0) r12 rfl ?_
                refine ae_callV (ci := 2) (as := []) (b := b12) (st := []) (q := 88) dX6_run_85 (c_X2_isStuck (N := m5) (d := d + 3) h l12 t12) myX2_isStuck lk_X6_75 im_X2_isStuck se_X2_isStuck rfl (by decide) (h.s l12 t12) (h.l l12) rfl rfl (Nat.le_of_ble_eq_true rfl) rfl (fun o H1 hh => ⟨_, hh.1.choose_spec.1⟩) (fun vv G21 hv => ?_)
                obtain ⟨⟨x21, o21, u21, v21⟩, z21⟩ := hv
                cases o21
                have z21 := z21.symm
                subst z21
                refine ⟨Or.inl rfl, ?_⟩
                refine ae_if_eq (t := 101) (q := 91) dX6_run_88 (by decide) rfl (fun c22 => ?_) (fun c22 => ?_)
                · have c22 := i_eq (a := x21.toInt) (b := 0) rfl (by decide) c22
                  refine ae_aload_n (q := 102) dX6_run_101 rfl rfl rfl ?_
                  refine ae_getR (q := 105) dX6_run_102 fl_X6_21 rfl (h.s lp0 tp0) (h.l lp0) r12 rfl ?_
                  refine ae_callV (ci := 2) (as := []) (b := b12) (st := []) (q := 108) dX6_run_105 (c_X2_isOver (N := m5) (d := d + 4) h l12 t12) myX2_isOver lk_X6_72 im_X2_isOver se_X2_isOver rfl (by decide) (h.s l12 t12) (h.l l12) rfl rfl (Nat.le_of_ble_eq_true rfl) rfl (fun o H1 hh => ⟨_, hh.1.choose_spec.1⟩) (fun vv G23 hv => ?_)
                  obtain ⟨⟨x23, o23, u23, v23⟩, z23⟩ := hv
                  cases o23
                  have z23 := z23.symm
                  subst z23
                  refine ⟨Or.inl rfl, ?_⟩
                  refine ae_if_eq (t := 115) (q := 111) dX6_run_108 (by decide) rfl (fun c24 => ?_) (fun c24 => ?_)
                  · have c24 := i_eq (a := x23.toInt) (b := 0) rfl (by decide) c24
                    refine ae_iconst (v := 0) (q := 116) dX6_run_115 (by decide) rfl ?_
                    refine ae_iret dX6_run_116 rfl rfl ?_
                    exact ⟨Or.inl ⟨_, rfl⟩, (h.up (by omega))⟩
                  · have c24 := i_ne (a := x23.toInt) (b := 0) rfl (by decide) c24
                    refine ae_iconst (v := 1) (q := 112) dX6_run_111 (by decide) rfl ?_
                    refine ae_goto (q := 116) dX6_run_112 (by decide) ?_
                    refine ae_iret dX6_run_116 rfl rfl ?_
                    exact ⟨Or.inl ⟨_, rfl⟩, (h.up (by omega))⟩
                · have c22 := i_ne (a := x21.toInt) (b := 0) rfl (by decide) c22
                  refine ae_throw (names := am_exn) (text := "the run is stuck") dX6_run_91 dX6_run_94 dX6_run_95 dX6_run_97 dX6_run_100 (by decide +kernel) am_exf aw_587 aw_17 (by decide +kernel) tw_UOE (by decide) rfl (Nat.le_of_ble_eq_true rfl) (Nat.le_of_ble_eq_true rfl) (by decide) ?_
                  exact ⟨Or.inr ⟨_, 3, by decide, rfl⟩, (h.up (by omega))⟩
              · have c20 := i_eq (a := x19.toInt) (b := 0) rfl (by decide) c20
                refine ae_aload_n (q := 69) dX6_run_68 rfl rfl rfl ?_
                refine ae_getR (q := 72) dX6_run_69 fl_X6_21 rfl (h.s lp0 tp0) (h.l lp0) r12 rfl ?_
                refine ae_callV (ci := 2) (as := []) (b := b12) (st := []) (q := 75) dX6_run_72 (c_X2_tick (N := m5) (d := d) ho3 hR (by omega) h l12 t12) myX2_tick lk_X6_78 im_X2_tick se_X2_tick rfl (by decide) (h.s l12 t12) (h.l l12) rfl rfl (Nat.le_of_ble_eq_true rfl) rfl (fun o H1 hh => ⟨_, hh.1⟩) (fun vv G25 hv => ?_)
                obtain ⟨o25, z25⟩ := hv
                cases o25
                refine ⟨Or.inl (z25.nx.trans h.nx.symm), ?_⟩
                have h : jc (m5 + 3) B 320 G25 := z25
                clear z25
                obtain ⟨x26, e26⟩ : ∃ z, y5_2 + Int32.ofInt 1 = z := ⟨_, rfl⟩
                have f26 : x26.toInt = y5_2.toInt + 1 := by rw [← e26]; exact i_add rfl (by decide) (by omega) (by omega)
                refine ae_iinc (v := x26) (lv' := [(2, .int x26), (0, .ref p0), (1, .int a1)]) (q := 78) dX6_run_75 rfl e26 (by decide) rfl rfl ?_
                refine ae_goto (q := 43) dX6_run_78 (by decide) ?_
                exact ae_lv (lv' := [(2, .int x26), (0, .ref p0), (1, .int a1)]) ⟨rfl, rfl, rfl, trivial⟩ (ih5 (n5 - 1) (by omega) (m5 + 3) x26 _ h (by omega) (by omega) (by omega) (by omega))
      exact ae_lv (lv' := [(2, .int 0), (0, .ref p0), (1, .int a1)]) ⟨rfl, rfl, rfl, trivial⟩ (lab43 200 N 0 _ h (by decide) (by decide) (show 200 - (0 : Int32).toInt ≤ _ from by rw [show (0 : Int32).toInt = 0 from by decide]; omega) (have zz0 : (0 : Int32).toInt = 0 := (by decide); by omega))
    · have c4 := i_eq (a := x3.toInt) (b := 0) rfl (by decide) c4
      refine ae_throw (names := am_exn) (text := "nothing was begun") dX6_run_31 dX6_run_34 dX6_run_35 dX6_run_37 dX6_run_40 (by decide +kernel) am_exf aw_341 aw_13 (by decide +kernel) tw_ISE (by decide) rfl (Nat.le_of_ble_eq_true rfl) (Nat.le_of_ble_eq_true rfl) (by decide) ?_
      exact ⟨Or.inr ⟨_, 2, by decide, rfl⟩, (h.up (by omega))⟩
  · have d1 := i_out (a := 0) (b := a1.toInt) (c := 200) (by decide) rfl (by decide) c1
    refine ae_if_ne (t := 21) (q := 11) dX6_run_8 (by decide) rfl (fun h => absurd h (by decide)) (fun _ => ?_)
    refine ae_throw (names := am_exn) (text := "too few or too many ticks") dX6_run_11 dX6_run_14 dX6_run_15 dX6_run_17 dX6_run_20 (by decide +kernel) am_exf aw_255 aw_12 (by decide +kernel) tw_IAE (by decide) rfl (Nat.le_of_ble_eq_true rfl) (Nat.le_of_ble_eq_true rfl) (by decide) ?_
    exact ⟨Or.inr ⟨_, 1, by decide, rfl⟩, (h.up (by omega))⟩
set_option maxRecDepth 100000 in
set_option maxHeartbeats 4000000 in
theorem c_X6_result {ox : List (Nat × (Nat → Int32))} {d N : Nat} {B H : am_H} {p0 : Nat}  (h : jc N B 320 H) (lp0 : p0 < 320) (tp0 : ty p0 = 0) : am_DB 1 ox (d + 6) yX6_result mX6_result [.ref p0] H (fun o H1 => lo cs_result o ∧ jc N B 320 H1) := by
  refine ae_enter rfl rfl rfl rfl (Nat.le_of_ble_eq_true rfl) ?_
  show am_EB 1 ox (d + 6) mX6_result 0 [(0, .ref p0)] [] H _
  refine ae_aload_n (q := 1) dX6_result_0 rfl rfl rfl ?_
  obtain ⟨b1, r1, l1, t1⟩ := h.r lp0 tp0 (k := 1) (T' := 5) rfl (by decide)
  refine ae_getR (q := 4) dX6_result_1 fl_X6_21 rfl (h.s lp0 tp0) (h.l lp0) r1 rfl ?_
  refine ae_callV (ci := 2) (as := []) (b := b1) (st := []) (q := 7) dX6_result_4 (c_X2_isOver (N := N) (d := d + 4) h l1 t1) myX2_isOver lk_X6_72 im_X2_isOver se_X2_isOver rfl (by decide) (h.s l1 t1) (h.l l1) rfl rfl (Nat.le_of_ble_eq_true rfl) rfl (fun o H1 hh => ⟨_, hh.1.choose_spec.1⟩) (fun vv G2 hv => ?_)
  obtain ⟨⟨x2, o2, u2, v2⟩, z2⟩ := hv
  cases o2
  have z2 := z2.symm
  subst z2
  refine ⟨Or.inl rfl, ?_⟩
  refine ae_if_ne (t := 20) (q := 10) dX6_result_7 (by decide) rfl (fun c3 => ?_) (fun c3 => ?_)
  · have c3 := i_ne (a := x2.toInt) (b := 0) rfl (by decide) c3
    refine ae_aload_n (q := 21) dX6_result_20 rfl rfl rfl ?_
    refine ae_getR (q := 24) dX6_result_21 fl_X6_21 rfl (h.s lp0 tp0) (h.l lp0) r1 rfl ?_
    obtain ⟨b4, r4, l4, t4⟩ := h.r l1 t1 (k := 3) (T' := 6) rfl (by decide)
    refine ae_getR (q := 27) dX6_result_24 fl_X6_88 rfl (h.s l1 t1) (h.l l1) r4 rfl ?_
    refine ae_getI (q := 30) dX6_result_27 fl_X6_92 rfl (h.s l4 t4) (h.l l4) rfl ?_
    obtain ⟨x5, e5⟩ : ∃ x, am_gi H b4 4 = x := ⟨_, rfl⟩
    refine ae_eqi e5 ?_
    refine ae_if_le (t := 43) (q := 33) dX6_result_30 (by decide) rfl (fun c6 => ?_) (fun c6 => ?_)
    · have c6 := i_le (a := x5.toInt) (b := 0) rfl (by decide) c6
      refine ae_aload_n (q := 44) dX6_result_43 rfl rfl rfl ?_
      refine ae_getR (q := 47) dX6_result_44 fl_X6_21 rfl (h.s lp0 tp0) (h.l lp0) r1 rfl ?_
      obtain ⟨b7, r7, l7, t7⟩ := h.r l1 t1 (k := 1) (T' := 7) rfl (by decide)
      refine ae_getR (q := 50) dX6_result_47 fl_X6_102 rfl (h.s l1 t1) (h.l l1) r7 rfl ?_
      refine ae_iconst (v := 0) (q := 51) dX6_result_50 (by decide) rfl ?_
      obtain ⟨b8, r8, l8, t8⟩ := h.r l7 t7 (k := (0 : Int32).toNatClampNeg) (T' := 8) rfl (by decide)
      refine ae_aald (q := 52) dX6_result_51 (show am_sh H b7 = (103 + 4, 48) from h.s l7 t7) (show am_kinds[6]? = some (103 + 4, .object RX4) from rfl) (h.l l7) (by unfold vp_in; decide) r8 rfl ?_
      refine ae_getI (q := 55) dX6_result_52 fl_X6_106 rfl (h.s l8 t8) (h.l l8) rfl ?_
      obtain ⟨x9, e9⟩ : ∃ x, am_gi H b8 5 = x := ⟨_, rfl⟩
      refine ae_eqi e9 ?_
      refine ae_aload_n (q := 56) dX6_result_55 rfl rfl rfl ?_
      refine ae_getR (q := 59) dX6_result_56 fl_X6_21 rfl (h.s lp0 tp0) (h.l lp0) r1 rfl ?_
      refine ae_getR (q := 62) dX6_result_59 fl_X6_88 rfl (h.s l1 t1) (h.l l1) r4 rfl ?_
      refine ae_getI (q := 65) dX6_result_62 fl_X6_111 rfl (h.s l4 t4) (h.l l4) rfl ?_
      obtain ⟨x10, e10⟩ : ∃ x, am_gi H b4 3 = x := ⟨_, rfl⟩
      refine ae_eqi e10 ?_
      refine ae_iadd (q := 66) dX6_result_65 rfl ?_
      obtain ⟨x11, e11⟩ : ∃ z, x9 + x10 = z := ⟨_, rfl⟩
      refine ae_eqi e11 ?_
      refine ae_iret dX6_result_66 rfl rfl ?_
      exact ⟨Or.inl ⟨_, rfl⟩, h⟩
    · have c6 := i_nle (a := x5.toInt) (b := 0) rfl (by decide) c6
      refine ae_throw (names := am_exn) (text := "a code came to the root scope") dX6_result_33 dX6_result_36 dX6_result_37 dX6_result_39 dX6_result_42 (by decide +kernel) am_exf aw_612 aw_18 (by decide +kernel) tw_ARE (by decide) rfl (Nat.le_of_ble_eq_true rfl) (Nat.le_of_ble_eq_true rfl) (by decide) ?_
      exact ⟨Or.inr ⟨_, 2, by decide, rfl⟩, h⟩
  · have c3 := i_eq (a := x2.toInt) (b := 0) rfl (by decide) c3
    refine ae_throw (names := am_exn) (text := "the run is not over") dX6_result_10 dX6_result_13 dX6_result_14 dX6_result_16 dX6_result_19 (by decide +kernel) am_exf aw_341 aw_13 (by decide +kernel) tw_ISE (by decide) rfl (Nat.le_of_ble_eq_true rfl) (Nat.le_of_ble_eq_true rfl) (by decide) ?_
    exact ⟨Or.inr ⟨_, 1, by decide, rfl⟩, h⟩
set_option maxRecDepth 100000 in
set_option maxHeartbeats 4000000 in
theorem c_X6_said {ox : List (Nat × (Nat → Int32))} {d N : Nat} {B H : am_H} {p0 : Nat} {a1 : Int32}  (h : jc N B 320 H) (lp0 : p0 < 320) (tp0 : ty p0 = 0) : am_DB 1 ox (d + 6) yX6_said mX6_said [.ref p0, .int a1] H (fun o H1 => lo cs_said o ∧ jc N B 320 H1) := by
  refine ae_enter rfl rfl rfl rfl (Nat.le_of_ble_eq_true rfl) ?_
  show am_EB 1 ox (d + 6) mX6_said 0 [(0, .ref p0), (1, .int a1)] [] H _
  refine ae_iload_n (q := 1) dX6_said_0 rfl rfl rfl ?_
  refine ae_iconst (v := 0) (q := 2) dX6_said_1 (by decide) rfl ?_
  refine ae_aload_n (q := 3) dX6_said_2 rfl rfl rfl ?_
  obtain ⟨b1, r1, l1, t1⟩ := h.r lp0 tp0 (k := 1) (T' := 5) rfl (by decide)
  refine ae_getR (q := 6) dX6_said_3 fl_X6_21 rfl (h.s lp0 tp0) (h.l lp0) r1 rfl ?_
  refine ae_getI (q := 9) dX6_said_6 fl_X6_114 rfl (h.s l1 t1) (h.l l1) rfl ?_
  obtain ⟨x2, e2, u2, v2⟩ := rdi (h.i l1 t1 (k := 11) (p := (0, ((N : Nat) : Int))) rfl)
  refine ae_eqi e2 ?_
  refine ae_bipush (v := 40) (q := 11) dX6_said_9 (by decide) rfl ?_
  refine ae_mmin (q := 14) dX6_said_11 (Nat.succ_le_succ (Nat.zero_le _)) aw_636 aw_522 aw_16 cd_mmin (Nat.le_of_ble_eq_true rfl) rfl ?_
  obtain ⟨x3, e3⟩ : ∃ z, (if 40 < x2 then 40 else x2) = z := ⟨_, rfl⟩
  refine ae_eqi e3 ?_
  have f3 : 0 ≤ x3.toInt ∧ x3.toInt ≤ 40 := by rw [← e3]; split; (exact ⟨by decide, by decide⟩); (rename_i qq; have q2 := i_nlt (a := 40) (b := x2.toInt) (by decide) rfl qq; omega)
  refine ae_iconst (v := 1) (q := 15) dX6_said_14 (by decide) rfl ?_
  refine ae_isub (q := 16) dX6_said_15 rfl ?_
  obtain ⟨x4, e4⟩ : ∃ z, x3 - 1 = z := ⟨_, rfl⟩
  refine ae_eqi e4 ?_
  have f4 : x4.toInt = x3.toInt - 1 := by rw [← e4]; exact i_sub rfl (by decide) (by omega) (by omega)
  refine ae_wX6 (q := 19) dX6_said_16 lk_X6_25 (Nat.le_of_ble_eq_true rfl) rfl (fun c5 => ?_) (fun c5 => ?_)
  · have d5 := i_le (a := 0) (b := a1.toInt) (by decide) rfl c5.1
    have f5 := i_le (a := a1.toInt) (b := x4.toInt) rfl rfl c5.2
    refine ae_if_ne (t := 32) (q := 22) dX6_said_19 (by decide) rfl (fun _ => ?_) (fun h => absurd h (by decide))
    refine ae_aload_n (q := 33) dX6_said_32 rfl rfl rfl ?_
    refine ae_getR (q := 36) dX6_said_33 fl_X6_21 rfl (h.s lp0 tp0) (h.l lp0) r1 rfl ?_
    obtain ⟨b6, r6, l6, t6⟩ := h.r l1 t1 (k := 10) (T' := 18) rfl (by decide)
    refine ae_getR (q := 39) dX6_said_36 fl_X6_128 rfl (h.s l1 t1) (h.l l1) r6 rfl ?_
    refine ae_iload_n (q := 40) dX6_said_39 rfl rfl rfl ?_
    refine ae_iald (q := 41) dX6_said_40 (h.s l6 t6) (h.l l6) (vin (by omega) (by omega)) rfl ?_
    obtain ⟨x7, e7⟩ : ∃ x, am_gi H b6 a1.toNatClampNeg = x := ⟨_, rfl⟩
    refine ae_eqi e7 ?_
    refine ae_iret dX6_said_41 rfl rfl ?_
    exact ⟨Or.inl ⟨_, rfl⟩, h⟩
  · have d5 := i_out (a := 0) (b := a1.toInt) (c := x4.toInt) (by decide) rfl rfl c5
    refine ae_if_ne (t := 32) (q := 22) dX6_said_19 (by decide) rfl (fun h => absurd h (by decide)) (fun _ => ?_)
    refine ae_throw (names := am_exn) (text := "no such number is kept") dX6_said_22 dX6_said_25 dX6_said_26 dX6_said_28 dX6_said_31 (by decide +kernel) am_exf aw_637 aw_19 (by decide +kernel) tw_IOE (by decide) rfl (Nat.le_of_ble_eq_true rfl) (Nat.le_of_ble_eq_true rfl) (by decide) ?_
    exact ⟨Or.inr ⟨_, 1, by decide, rfl⟩, h⟩
set_option maxRecDepth 100000 in
set_option maxHeartbeats 4000000 in
theorem c_X6_task {ox : List (Nat × (Nat → Int32))} {d N : Nat} {B H : am_H} {p0 : Nat} {a1 : Int32} {a2 : Int32}  (h : jc N B 320 H) (lp0 : p0 < 320) (tp0 : ty p0 = 0) : am_DB 1 ox (d + 6) yX6_task mX6_task [.ref p0, .int a1, .int a2] H (fun o H1 => lo cs_task o ∧ jc N B 320 H1) := by
  refine ae_enter rfl rfl rfl rfl (Nat.le_of_ble_eq_true rfl) ?_
  show am_EB 1 ox (d + 6) mX6_task 0 [(0, .ref p0), (1, .int a1), (2, .int a2)] [] H _
  refine ae_iload_n (q := 1) dX6_task_0 rfl rfl rfl ?_
  refine ae_iconst (v := 0) (q := 2) dX6_task_1 (by decide) rfl ?_
  refine ae_bipush (v := 6) (q := 4) dX6_task_2 (by decide) rfl ?_
  refine ae_wX6 (q := 7) dX6_task_4 lk_X6_25 (Nat.le_of_ble_eq_true rfl) rfl (fun c1 => ?_) (fun c1 => ?_)
  · have d1 := i_le (a := 0) (b := a2.toInt) (by decide) rfl c1.1
    have f1 := i_le (a := a2.toInt) (b := 6) rfl (by decide) c1.2
    refine ae_if_ne (t := 20) (q := 10) dX6_task_7 (by decide) rfl (fun _ => ?_) (fun h => absurd h (by decide))
    refine ae_iload_n (q := 21) dX6_task_20 rfl rfl rfl ?_
    refine ae_iconst (v := 0) (q := 22) dX6_task_21 (by decide) rfl ?_
    refine ae_aload_n (q := 23) dX6_task_22 rfl rfl rfl ?_
    obtain ⟨b2, r2, l2, t2⟩ := h.r lp0 tp0 (k := 1) (T' := 5) rfl (by decide)
    refine ae_getR (q := 26) dX6_task_23 fl_X6_21 rfl (h.s lp0 tp0) (h.l lp0) r2 rfl ?_
    refine ae_getI (q := 29) dX6_task_26 fl_X6_134 rfl (h.s l2 t2) (h.l l2) rfl ?_
    obtain ⟨x3, e3, u3, v3⟩ := rdi (h.i l2 t2 (k := 2) (p := (0, 48)) rfl)
    refine ae_eqi e3 ?_
    refine ae_iconst (v := 1) (q := 30) dX6_task_29 (by decide) rfl ?_
    refine ae_isub (q := 31) dX6_task_30 rfl ?_
    obtain ⟨x4, e4⟩ : ∃ z, x3 - 1 = z := ⟨_, rfl⟩
    refine ae_eqi e4 ?_
    have f4 : x4.toInt = x3.toInt - 1 := by rw [← e4]; exact i_sub rfl (by decide) (by omega) (by omega)
    refine ae_wX6 (q := 34) dX6_task_31 lk_X6_25 (Nat.le_of_ble_eq_true rfl) rfl (fun c5 => ?_) (fun c5 => ?_)
    · have d5 := i_le (a := 0) (b := a1.toInt) (by decide) rfl c5.1
      have f5 := i_le (a := a1.toInt) (b := x4.toInt) rfl rfl c5.2
      refine ae_if_ne (t := 47) (q := 37) dX6_task_34 (by decide) rfl (fun _ => ?_) (fun h => absurd h (by decide))
      refine ae_aload_n (q := 48) dX6_task_47 rfl rfl rfl ?_
      refine ae_getR (q := 51) dX6_task_48 fl_X6_21 rfl (h.s lp0 tp0) (h.l lp0) r2 rfl ?_
      refine ae_aload_n (q := 52) dX6_task_51 rfl rfl rfl ?_
      refine ae_getR (q := 55) dX6_task_52 fl_X6_21 rfl (h.s lp0 tp0) (h.l lp0) r2 rfl ?_
      obtain ⟨b6, r6, l6, t6⟩ := h.r l2 t2 (k := 1) (T' := 7) rfl (by decide)
      refine ae_getR (q := 58) dX6_task_55 fl_X6_102 rfl (h.s l2 t2) (h.l l2) r6 rfl ?_
      refine ae_iload_n (q := 59) dX6_task_58 rfl rfl rfl ?_
      obtain ⟨b7, r7, l7, t7⟩ := h.r l6 t6 (k := a1.toNatClampNeg) (T' := 8) (if_pos (ixn (by omega) (by omega))) (by decide)
      refine ae_aald (q := 60) dX6_task_59 (show am_sh H b6 = (103 + 4, 48) from h.s l6 t6) (show am_kinds[6]? = some (103 + 4, .object RX4) from rfl) (h.l l6) (vin (by omega) (by omega)) r7 rfl ?_
      refine ae_iload_n (q := 61) dX6_task_60 rfl rfl rfl ?_
      refine ae_callV (ci := 2) (as := [.ref b7, .int a2]) (b := b2) (st := []) (q := 64) dX6_task_61 (c_X2_answerOf (N := N) (d := d + 5) h l2 t2 l7 t7 (by omega) (by omega)) myX2_answerOf lk_X6_139 im_X2_answerOf se_X2_answerOf rfl (by decide) (h.s l2 t2) (h.l l2) rfl rfl (Nat.le_of_ble_eq_true rfl) rfl (fun o H1 hh => ⟨_, hh.1.choose_spec⟩) (fun vv G8 hv => ?_)
      obtain ⟨⟨x8, o8⟩, z8⟩ := hv
      cases o8
      have z8 := z8.symm
      subst z8
      refine ⟨Or.inl rfl, ?_⟩
      refine ae_iret dX6_task_64 rfl rfl ?_
      exact ⟨Or.inl ⟨_, rfl⟩, h⟩
    · have d5 := i_out (a := 0) (b := a1.toInt) (c := x4.toInt) (by decide) rfl rfl c5
      refine ae_if_ne (t := 47) (q := 37) dX6_task_34 (by decide) rfl (fun h => absurd h (by decide)) (fun _ => ?_)
      refine ae_throw (names := am_exn) (text := "no such task") dX6_task_37 dX6_task_40 dX6_task_41 dX6_task_43 dX6_task_46 (by decide +kernel) am_exf aw_637 aw_19 (by decide +kernel) tw_IOE (by decide) rfl (Nat.le_of_ble_eq_true rfl) (Nat.le_of_ble_eq_true rfl) (by decide) ?_
      exact ⟨Or.inr ⟨_, 2, by decide, rfl⟩, h⟩
  · have d1 := i_out (a := 0) (b := a2.toInt) (c := 6) (by decide) rfl (by decide) c1
    refine ae_if_ne (t := 20) (q := 10) dX6_task_7 (by decide) rfl (fun h => absurd h (by decide)) (fun _ => ?_)
    refine ae_throw (names := am_exn) (text := "no such question of a task") dX6_task_10 dX6_task_13 dX6_task_14 dX6_task_16 dX6_task_19 (by decide +kernel) am_exf aw_255 aw_12 (by decide +kernel) tw_IAE (by decide) rfl (Nat.le_of_ble_eq_true rfl) (Nat.le_of_ble_eq_true rfl) (by decide) ?_
    exact ⟨Or.inr ⟨_, 1, by decide, rfl⟩, h⟩
set_option maxRecDepth 100000 in
set_option maxHeartbeats 4000000 in
theorem c_X6_future {ox : List (Nat × (Nat → Int32))} {d N : Nat} {B H : am_H} {p0 : Nat} {a1 : Int32}  (h : jc N B 320 H) (lp0 : p0 < 320) (tp0 : ty p0 = 0) : am_DB 1 ox (d + 6) yX6_future mX6_future [.ref p0, .int a1] H (fun o H1 => lo cs_future o ∧ jc N B 320 H1) := by
  refine ae_enter rfl rfl rfl rfl (Nat.le_of_ble_eq_true rfl) ?_
  show am_EB 1 ox (d + 6) mX6_future 0 [(0, .ref p0), (1, .int a1)] [] H _
  refine ae_iload_n (q := 1) dX6_future_0 rfl rfl rfl ?_
  refine ae_iconst (v := 0) (q := 2) dX6_future_1 (by decide) rfl ?_
  refine ae_iconst (v := 3) (q := 3) dX6_future_2 (by decide) rfl ?_
  refine ae_wX6 (q := 6) dX6_future_3 lk_X6_25 (Nat.le_of_ble_eq_true rfl) rfl (fun c1 => ?_) (fun c1 => ?_)
  · have d1 := i_le (a := 0) (b := a1.toInt) (by decide) rfl c1.1
    have f1 := i_le (a := a1.toInt) (b := 3) rfl (by decide) c1.2
    refine ae_if_ne (t := 19) (q := 9) dX6_future_6 (by decide) rfl (fun _ => ?_) (fun h => absurd h (by decide))
    refine ae_aload_n (q := 20) dX6_future_19 rfl rfl rfl ?_
    obtain ⟨b2, r2, l2, t2⟩ := h.r lp0 tp0 (k := 1) (T' := 5) rfl (by decide)
    refine ae_getR (q := 23) dX6_future_20 fl_X6_21 rfl (h.s lp0 tp0) (h.l lp0) r2 rfl ?_
    obtain ⟨b3, r3, l3, t3⟩ := h.r l2 t2 (k := 9) (T' := 17) rfl (by decide)
    refine ae_getR (q := 26) dX6_future_23 fl_X6_145 rfl (h.s l2 t2) (h.l l2) r3 rfl ?_
    refine ae_iload_n (q := 27) dX6_future_26 rfl rfl rfl ?_
    refine ae_zald (q := 28) dX6_future_27 (h.s l3 t3) (h.l l3) (vin (by omega) (by omega)) rfl ?_
    obtain ⟨x4, e4, u4, v4⟩ := rdi (h.i l3 t3 (k := a1.toNatClampNeg) (p := (0, 1)) rfl)
    refine ae_eqi e4 ?_
    refine ae_if_ne (t := 41) (q := 31) dX6_future_28 (by decide) rfl (fun c5 => ?_) (fun c5 => ?_)
    · have c5 := i_ne (a := x4.toInt) (b := 0) rfl (by decide) c5
      refine ae_aload_n (q := 42) dX6_future_41 rfl rfl rfl ?_
      refine ae_getR (q := 45) dX6_future_42 fl_X6_21 rfl (h.s lp0 tp0) (h.l lp0) r2 rfl ?_
      obtain ⟨b6, r6, l6, t6⟩ := h.r l2 t2 (k := 8) (T' := 16) rfl (by decide)
      refine ae_getR (q := 48) dX6_future_45 fl_X6_151 rfl (h.s l2 t2) (h.l l2) r6 rfl ?_
      refine ae_iload_n (q := 49) dX6_future_48 rfl rfl rfl ?_
      refine ae_iald (q := 50) dX6_future_49 (h.s l6 t6) (h.l l6) (vin (by omega) (by omega)) rfl ?_
      obtain ⟨x7, e7⟩ : ∃ x, am_gi H b6 a1.toNatClampNeg = x := ⟨_, rfl⟩
      refine ae_eqi e7 ?_
      refine ae_iret dX6_future_50 rfl rfl ?_
      exact ⟨Or.inl ⟨_, rfl⟩, h⟩
    · have c5 := i_eq (a := x4.toInt) (b := 0) rfl (by decide) c5
      refine ae_throw (names := am_exn) (text := "the future was not put") dX6_future_31 dX6_future_34 dX6_future_35 dX6_future_37 dX6_future_40 (by decide +kernel) am_exf aw_341 aw_13 (by decide +kernel) tw_ISE (by decide) rfl (Nat.le_of_ble_eq_true rfl) (Nat.le_of_ble_eq_true rfl) (by decide) ?_
      exact ⟨Or.inr ⟨_, 2, by decide, rfl⟩, h⟩
  · have d1 := i_out (a := 0) (b := a1.toInt) (c := 3) (by decide) rfl (by decide) c1
    refine ae_if_ne (t := 19) (q := 9) dX6_future_6 (by decide) rfl (fun h => absurd h (by decide)) (fun _ => ?_)
    refine ae_throw (names := am_exn) (text := "no such future") dX6_future_9 dX6_future_12 dX6_future_13 dX6_future_15 dX6_future_18 (by decide +kernel) am_exf aw_255 aw_12 (by decide +kernel) tw_IAE (by decide) rfl (Nat.le_of_ble_eq_true rfl) (Nat.le_of_ble_eq_true rfl) (by decide) ?_
    exact ⟨Or.inr ⟨_, 1, by decide, rfl⟩, h⟩
set_option maxRecDepth 100000 in
set_option maxHeartbeats 4000000 in
theorem c_X6_count {ox : List (Nat × (Nat → Int32))} {d N : Nat} {B H : am_H} {p0 : Nat} {a1 : Int32}  (h : jc N B 320 H) (lp0 : p0 < 320) (tp0 : ty p0 = 0) : am_DB 1 ox (d + 6) yX6_count mX6_count [.ref p0, .int a1] H (fun o H1 => lo cs_count o ∧ jc N B 320 H1) := by
  refine ae_enter rfl rfl rfl rfl (Nat.le_of_ble_eq_true rfl) ?_
  show am_EB 1 ox (d + 6) mX6_count 0 [(0, .ref p0), (1, .int a1)] [] H _
  refine ae_iload_n (q := 1) dX6_count_0 rfl rfl rfl ?_
  refine ae_iconst (v := 0) (q := 2) dX6_count_1 (by decide) rfl ?_
  refine ae_bipush (v := 10) (q := 4) dX6_count_2 (by decide) rfl ?_
  refine ae_wX6 (q := 7) dX6_count_4 lk_X6_25 (Nat.le_of_ble_eq_true rfl) rfl (fun c1 => ?_) (fun c1 => ?_)
  · have d1 := i_le (a := 0) (b := a1.toInt) (by decide) rfl c1.1
    have f1 := i_le (a := a1.toInt) (b := 10) rfl (by decide) c1.2
    refine ae_if_eq (t := 19) (q := 10) dX6_count_7 (by decide) rfl (fun h => absurd h (by decide)) (fun _ => ?_)
    refine ae_aload_n (q := 11) dX6_count_10 rfl rfl rfl ?_
    obtain ⟨b2, r2, l2, t2⟩ := h.r lp0 tp0 (k := 1) (T' := 5) rfl (by decide)
    refine ae_getR (q := 14) dX6_count_11 fl_X6_21 rfl (h.s lp0 tp0) (h.l lp0) r2 rfl ?_
    refine ae_iload_n (q := 15) dX6_count_14 rfl rfl rfl ?_
    refine ae_callV (ci := 2) (as := [.int a1]) (b := b2) (st := []) (q := 18) dX6_count_15 (c_X2_figure (N := N) (d := d + 3) h l2 t2 (by omega) (by omega)) myX2_figure lk_X6_154 im_X2_figure se_X2_figure rfl (by decide) (h.s l2 t2) (h.l l2) rfl rfl (Nat.le_of_ble_eq_true rfl) rfl (fun o H1 hh => ⟨_, hh.1.choose_spec⟩) (fun vv G3 hv => ?_)
    obtain ⟨⟨x3, o3⟩, z3⟩ := hv
    cases o3
    have z3 := z3.symm
    subst z3
    refine ⟨Or.inl rfl, ?_⟩
    refine ae_iret dX6_count_18 rfl rfl ?_
    exact ⟨Or.inl ⟨_, rfl⟩, h⟩
  · have d1 := i_out (a := 0) (b := a1.toInt) (c := 10) (by decide) rfl (by decide) c1
    refine ae_if_eq (t := 19) (q := 10) dX6_count_7 (by decide) rfl (fun _ => ?_) (fun h => absurd h (by decide))
    refine ae_iload_n (q := 20) dX6_count_19 rfl rfl rfl ?_
    refine ae_bipush (v := 20) (q := 22) dX6_count_20 (by decide) rfl ?_
    refine ae_bipush (v := 22) (q := 24) dX6_count_22 (by decide) rfl ?_
    refine ae_wX6 (q := 27) dX6_count_24 lk_X6_25 (Nat.le_of_ble_eq_true rfl) rfl (fun c4 => ?_) (fun c4 => ?_)
    · have d4 := i_le (a := 20) (b := a1.toInt) (by decide) rfl c4.1
      have f4 := i_le (a := a1.toInt) (b := 22) rfl (by decide) c4.2
      refine ae_if_eq (t := 46) (q := 30) dX6_count_27 (by decide) rfl (fun h => absurd h (by decide)) (fun _ => ?_)
      refine ae_aload_n (q := 31) dX6_count_30 rfl rfl rfl ?_
      obtain ⟨b5, r5, l5, t5⟩ := h.r lp0 tp0 (k := 1) (T' := 5) rfl (by decide)
      refine ae_getR (q := 34) dX6_count_31 fl_X6_21 rfl (h.s lp0 tp0) (h.l lp0) r5 rfl ?_
      obtain ⟨b6, r6, l6, t6⟩ := h.r l5 t5 (k := 5) (T' := 13) rfl (by decide)
      refine ae_getR (q := 37) dX6_count_34 fl_X6_158 rfl (h.s l5 t5) (h.l l5) r6 rfl ?_
      refine ae_iload_n (q := 38) dX6_count_37 rfl rfl rfl ?_
      refine ae_bipush (v := 20) (q := 40) dX6_count_38 (by decide) rfl ?_
      refine ae_isub (q := 41) dX6_count_40 rfl ?_
      obtain ⟨x7, e7⟩ : ∃ z, a1 - 20 = z := ⟨_, rfl⟩
      refine ae_eqi e7 ?_
      have f7 : x7.toInt = a1.toInt - 20 := by rw [← e7]; exact i_sub rfl (by decide) (by omega) (by omega)
      obtain ⟨b8, r8, l8, t8⟩ := h.r l6 t6 (k := x7.toNatClampNeg) (T' := 14) (if_pos (ixn (by omega) (by omega))) (by decide)
      refine ae_aald (q := 42) dX6_count_41 (show am_sh H b6 = (103 + 5, 3) from h.s l6 t6) (show am_kinds[7]? = some (103 + 5, .object RX5) from rfl) (h.l l6) (vin (by omega) (by omega)) r8 rfl ?_
      refine ae_getI (q := 45) dX6_count_42 fl_X6_162 rfl (h.s l8 t8) (h.l l8) rfl ?_
      obtain ⟨x9, e9, u9, v9⟩ := rdi (h.i l8 t8 (k := 2) (p := ((-1), 47)) rfl)
      refine ae_eqi e9 ?_
      refine ae_iret dX6_count_45 rfl rfl ?_
      exact ⟨Or.inl ⟨_, rfl⟩, h⟩
    · have d4 := i_out (a := 20) (b := a1.toInt) (c := 22) (by decide) rfl (by decide) c4
      refine ae_if_eq (t := 46) (q := 30) dX6_count_27 (by decide) rfl (fun _ => ?_) (fun h => absurd h (by decide))
      refine ae_iload_n (q := 47) dX6_count_46 rfl rfl rfl ?_
      refine ae_bipush (v := 30) (q := 49) dX6_count_47 (by decide) rfl ?_
      refine ae_bipush (v := 32) (q := 51) dX6_count_49 (by decide) rfl ?_
      refine ae_wX6 (q := 54) dX6_count_51 lk_X6_25 (Nat.le_of_ble_eq_true rfl) rfl (fun c10 => ?_) (fun c10 => ?_)
      · have d10 := i_le (a := 30) (b := a1.toInt) (by decide) rfl c10.1
        have f10 := i_le (a := a1.toInt) (b := 32) rfl (by decide) c10.2
        refine ae_if_eq (t := 73) (q := 57) dX6_count_54 (by decide) rfl (fun h => absurd h (by decide)) (fun _ => ?_)
        refine ae_aload_n (q := 58) dX6_count_57 rfl rfl rfl ?_
        obtain ⟨b11, r11, l11, t11⟩ := h.r lp0 tp0 (k := 1) (T' := 5) rfl (by decide)
        refine ae_getR (q := 61) dX6_count_58 fl_X6_21 rfl (h.s lp0 tp0) (h.l lp0) r11 rfl ?_
        obtain ⟨b12, r12, l12, t12⟩ := h.r l11 t11 (k := 5) (T' := 13) rfl (by decide)
        refine ae_getR (q := 64) dX6_count_61 fl_X6_158 rfl (h.s l11 t11) (h.l l11) r12 rfl ?_
        refine ae_iload_n (q := 65) dX6_count_64 rfl rfl rfl ?_
        refine ae_bipush (v := 30) (q := 67) dX6_count_65 (by decide) rfl ?_
        refine ae_isub (q := 68) dX6_count_67 rfl ?_
        obtain ⟨x13, e13⟩ : ∃ z, a1 - 30 = z := ⟨_, rfl⟩
        refine ae_eqi e13 ?_
        have f13 : x13.toInt = a1.toInt - 30 := by rw [← e13]; exact i_sub rfl (by decide) (by omega) (by omega)
        obtain ⟨b14, r14, l14, t14⟩ := h.r l12 t12 (k := x13.toNatClampNeg) (T' := 14) (if_pos (ixn (by omega) (by omega))) (by decide)
        refine ae_aald (q := 69) dX6_count_68 (show am_sh H b12 = (103 + 5, 3) from h.s l12 t12) (show am_kinds[7]? = some (103 + 5, .object RX5) from rfl) (h.l l12) (vin (by omega) (by omega)) r14 rfl ?_
        refine ae_getI (q := 72) dX6_count_69 fl_X6_167 rfl (h.s l14 t14) (h.l l14) rfl ?_
        obtain ⟨x15, e15, u15, v15⟩ := rdi (h.i l14 t14 (k := 1) (p := (0, 48)) rfl)
        refine ae_eqi e15 ?_
        refine ae_iret dX6_count_72 rfl rfl ?_
        exact ⟨Or.inl ⟨_, rfl⟩, h⟩
      · have d10 := i_out (a := 30) (b := a1.toInt) (c := 32) (by decide) rfl (by decide) c10
        refine ae_if_eq (t := 73) (q := 57) dX6_count_54 (by decide) rfl (fun _ => ?_) (fun h => absurd h (by decide))
        refine ae_iload_n (q := 74) dX6_count_73 rfl rfl rfl ?_
        refine ae_bipush (v := 40) (q := 76) dX6_count_74 (by decide) rfl ?_
        refine ae_bipush (v := 87) (q := 78) dX6_count_76 (by decide) rfl ?_
        refine ae_wX6 (q := 81) dX6_count_78 lk_X6_25 (Nat.le_of_ble_eq_true rfl) rfl (fun c16 => ?_) (fun c16 => ?_)
        · have d16 := i_le (a := 40) (b := a1.toInt) (by decide) rfl c16.1
          have f16 := i_le (a := a1.toInt) (b := 87) rfl (by decide) c16.2
          refine ae_if_eq (t := 101) (q := 84) dX6_count_81 (by decide) rfl (fun h => absurd h (by decide)) (fun _ => ?_)
          refine ae_aload_n (q := 85) dX6_count_84 rfl rfl rfl ?_
          obtain ⟨b17, r17, l17, t17⟩ := h.r lp0 tp0 (k := 1) (T' := 5) rfl (by decide)
          refine ae_getR (q := 88) dX6_count_85 fl_X6_21 rfl (h.s lp0 tp0) (h.l lp0) r17 rfl ?_
          obtain ⟨b18, r18, l18, t18⟩ := h.r l17 t17 (k := 5) (T' := 13) rfl (by decide)
          refine ae_getR (q := 91) dX6_count_88 fl_X6_158 rfl (h.s l17 t17) (h.l l17) r18 rfl ?_
          refine ae_iconst (v := 0) (q := 92) dX6_count_91 (by decide) rfl ?_
          obtain ⟨b19, r19, l19, t19⟩ := h.r l18 t18 (k := (0 : Int32).toNatClampNeg) (T' := 14) rfl (by decide)
          refine ae_aald (q := 93) dX6_count_92 (show am_sh H b18 = (103 + 5, 3) from h.s l18 t18) (show am_kinds[7]? = some (103 + 5, .object RX5) from rfl) (h.l l18) (by unfold vp_in; decide) r19 rfl ?_
          refine ae_iload_n (q := 94) dX6_count_93 rfl rfl rfl ?_
          refine ae_bipush (v := 40) (q := 96) dX6_count_94 (by decide) rfl ?_
          refine ae_isub (q := 97) dX6_count_96 rfl ?_
          obtain ⟨x20, e20⟩ : ∃ z, a1 - 40 = z := ⟨_, rfl⟩
          refine ae_eqi e20 ?_
          have f20 : x20.toInt = a1.toInt - 40 := by rw [← e20]; exact i_sub rfl (by decide) (by omega) (by omega)
          refine ae_callV (ci := 5) (as := [.int x20]) (b := b19) (st := []) (q := 100) dX6_count_97 (c_X5_taskAt (N := N) (d := d + 5) h l19 t19) myX5_taskAt lk_X6_168 im_X5_taskAt se_X5_taskAt rfl (by decide) (h.s l19 t19) (h.l l19) rfl rfl (Nat.le_of_ble_eq_true rfl) rfl (fun o H1 hh => ⟨_, hh.1.choose_spec.1⟩) (fun vv G21 hv => ?_)
          obtain ⟨⟨x21, o21, u21, v21⟩, z21⟩ := hv
          cases o21
          have z21 := z21.symm
          subst z21
          refine ⟨Or.inl rfl, ?_⟩
          refine ae_iret dX6_count_100 rfl rfl ?_
          exact ⟨Or.inl ⟨_, rfl⟩, h⟩
        · have d16 := i_out (a := 40) (b := a1.toInt) (c := 87) (by decide) rfl (by decide) c16
          refine ae_if_eq (t := 101) (q := 84) dX6_count_81 (by decide) rfl (fun _ => ?_) (fun h => absurd h (by decide))
          refine ae_iload_n (q := 102) dX6_count_101 rfl rfl rfl ?_
          refine ae_bipush (v := 100) (q := 104) dX6_count_102 (by decide) rfl ?_
          refine ae_sipush (v := 147) (q := 107) dX6_count_104 (by decide) rfl ?_
          refine ae_wX6 (q := 110) dX6_count_107 lk_X6_25 (Nat.le_of_ble_eq_true rfl) rfl (fun c22 => ?_) (fun c22 => ?_)
          · have d22 := i_le (a := 100) (b := a1.toInt) (by decide) rfl c22.1
            have f22 := i_le (a := a1.toInt) (b := 147) rfl (by decide) c22.2
            refine ae_if_eq (t := 130) (q := 113) dX6_count_110 (by decide) rfl (fun h => absurd h (by decide)) (fun _ => ?_)
            refine ae_aload_n (q := 114) dX6_count_113 rfl rfl rfl ?_
            obtain ⟨b23, r23, l23, t23⟩ := h.r lp0 tp0 (k := 1) (T' := 5) rfl (by decide)
            refine ae_getR (q := 117) dX6_count_114 fl_X6_21 rfl (h.s lp0 tp0) (h.l lp0) r23 rfl ?_
            obtain ⟨b24, r24, l24, t24⟩ := h.r l23 t23 (k := 5) (T' := 13) rfl (by decide)
            refine ae_getR (q := 120) dX6_count_117 fl_X6_158 rfl (h.s l23 t23) (h.l l23) r24 rfl ?_
            refine ae_iconst (v := 1) (q := 121) dX6_count_120 (by decide) rfl ?_
            obtain ⟨b25, r25, l25, t25⟩ := h.r l24 t24 (k := (1 : Int32).toNatClampNeg) (T' := 14) rfl (by decide)
            refine ae_aald (q := 122) dX6_count_121 (show am_sh H b24 = (103 + 5, 3) from h.s l24 t24) (show am_kinds[7]? = some (103 + 5, .object RX5) from rfl) (h.l l24) (by unfold vp_in; decide) r25 rfl ?_
            refine ae_iload_n (q := 123) dX6_count_122 rfl rfl rfl ?_
            refine ae_bipush (v := 100) (q := 125) dX6_count_123 (by decide) rfl ?_
            refine ae_isub (q := 126) dX6_count_125 rfl ?_
            obtain ⟨x26, e26⟩ : ∃ z, a1 - 100 = z := ⟨_, rfl⟩
            refine ae_eqi e26 ?_
            have f26 : x26.toInt = a1.toInt - 100 := by rw [← e26]; exact i_sub rfl (by decide) (by omega) (by omega)
            refine ae_callV (ci := 5) (as := [.int x26]) (b := b25) (st := []) (q := 129) dX6_count_126 (c_X5_taskAt (N := N) (d := d + 5) h l25 t25) myX5_taskAt lk_X6_168 im_X5_taskAt se_X5_taskAt rfl (by decide) (h.s l25 t25) (h.l l25) rfl rfl (Nat.le_of_ble_eq_true rfl) rfl (fun o H1 hh => ⟨_, hh.1.choose_spec.1⟩) (fun vv G27 hv => ?_)
            obtain ⟨⟨x27, o27, u27, v27⟩, z27⟩ := hv
            cases o27
            have z27 := z27.symm
            subst z27
            refine ⟨Or.inl rfl, ?_⟩
            refine ae_iret dX6_count_129 rfl rfl ?_
            exact ⟨Or.inl ⟨_, rfl⟩, h⟩
          · have d22 := i_out (a := 100) (b := a1.toInt) (c := 147) (by decide) rfl (by decide) c22
            refine ae_if_eq (t := 130) (q := 113) dX6_count_110 (by decide) rfl (fun _ => ?_) (fun h => absurd h (by decide))
            refine ae_throw (names := am_exn) (text := "no such count") dX6_count_130 dX6_count_133 dX6_count_134 dX6_count_136 dX6_count_139 (by decide +kernel) am_exf aw_255 aw_12 (by decide +kernel) tw_IAE (by decide) rfl (Nat.le_of_ble_eq_true rfl) (Nat.le_of_ble_eq_true rfl) (by decide) ?_
            exact ⟨Or.inr ⟨_, 1, by decide, rfl⟩, h⟩
set_option maxRecDepth 100000 in
set_option maxHeartbeats 4000000 in
theorem c_X6_begin {ox : List (Nat × (Nat → Int32))} {d N : Nat} {B H : am_H} {p0 : Nat} {a1 : Int32} {a2 : Int32} {a3 : Int32} {a4 : Int32} (ho3 : ox[3]? = some (4, fun k => am_t3.getD k 0))  (h : jc N B 320 H) (lp0 : p0 < 320) (tp0 : ty p0 = 0) : am_DB 1 ox (d + 6) yX6_begin mX6_begin [.ref p0, .int a1, .int a2, .int a3, .int a4] H (fun o H1 => ((0 ≤ a1.toInt ∧ a1.toInt ≤ 7 ∧ 1 ≤ a3.toInt ∧ a3.toInt ≤ 3 ∧ 0 ≤ a4.toInt ∧ a4.toInt ≤ 1) ∧ o = .inl none ∨ ¬ (0 ≤ a1.toInt ∧ a1.toInt ≤ 7 ∧ 1 ≤ a3.toInt ∧ a3.toInt ≤ 3 ∧ 0 ≤ a4.toInt ∧ a4.toInt ≤ 1) ∧ o = .inr "java/lang/IllegalArgumentException") ∧ jc N B 320 H1) := by
  refine ae_enter rfl rfl rfl rfl (Nat.le_of_ble_eq_true rfl) ?_
  show am_EB 1 ox (d + 6) mX6_begin 0 [(0, .ref p0), (1, .int a1), (2, .int a2), (3, .int a3), (4, .int a4)] [] H _
  refine ae_iload_n (q := 1) dX6_begin_0 rfl rfl rfl ?_
  refine ae_iconst (v := 0) (q := 2) dX6_begin_1 (by decide) rfl ?_
  refine ae_bipush (v := 7) (q := 4) dX6_begin_2 (by decide) rfl ?_
  refine ae_wX6 (q := 7) dX6_begin_4 lk_X6_25 (Nat.le_of_ble_eq_true rfl) rfl (fun c1 => ?_) (fun c1 => ?_)
  · have d1 := i_le (a := 0) (b := a1.toInt) (by decide) rfl c1.1
    have f1 := i_le (a := a1.toInt) (b := 7) rfl (by decide) c1.2
    refine ae_if_eq (t := 29) (q := 10) dX6_begin_7 (by decide) rfl (fun h => absurd h (by decide)) (fun _ => ?_)
    refine ae_iload_n (q := 11) dX6_begin_10 rfl rfl rfl ?_
    refine ae_iconst (v := 1) (q := 12) dX6_begin_11 (by decide) rfl ?_
    refine ae_iconst (v := 3) (q := 13) dX6_begin_12 (by decide) rfl ?_
    refine ae_wX6 (q := 16) dX6_begin_13 lk_X6_25 (Nat.le_of_ble_eq_true rfl) rfl (fun c2 => ?_) (fun c2 => ?_)
    · have d2 := i_le (a := 1) (b := a3.toInt) (by decide) rfl c2.1
      have f2 := i_le (a := a3.toInt) (b := 3) rfl (by decide) c2.2
      refine ae_if_eq (t := 29) (q := 19) dX6_begin_16 (by decide) rfl (fun h => absurd h (by decide)) (fun _ => ?_)
      refine ae_iload (q := 21) dX6_begin_19 rfl rfl ?_
      refine ae_iconst (v := 0) (q := 22) dX6_begin_21 (by decide) rfl ?_
      refine ae_iconst (v := 1) (q := 23) dX6_begin_22 (by decide) rfl ?_
      refine ae_wX6 (q := 26) dX6_begin_23 lk_X6_25 (Nat.le_of_ble_eq_true rfl) rfl (fun c3 => ?_) (fun c3 => ?_)
      · have d3 := i_le (a := 0) (b := a4.toInt) (by decide) rfl c3.1
        have f3 := i_le (a := a4.toInt) (b := 1) rfl (by decide) c3.2
        refine ae_if_ne (t := 39) (q := 29) dX6_begin_26 (by decide) rfl (fun _ => ?_) (fun h => absurd h (by decide))
        refine ae_aload_n (q := 40) dX6_begin_39 rfl rfl rfl ?_
        obtain ⟨b4, r4, l4, t4⟩ := h.r lp0 tp0 (k := 1) (T' := 5) rfl (by decide)
        refine ae_getR (q := 43) dX6_begin_40 fl_X6_21 rfl (h.s lp0 tp0) (h.l lp0) r4 rfl ?_
        refine ae_iload_n (q := 44) dX6_begin_43 rfl rfl rfl ?_
        refine ae_iload (q := 46) dX6_begin_44 rfl rfl ?_
        refine ae_iconst (v := 1) (q := 47) dX6_begin_46 (by decide) rfl ?_
        refine ae_icmp_ne (t := 54) (q := 50) dX6_begin_47 (by decide) rfl (fun c5 => ?_) (fun c5 => ?_)
        · have c5 := i_ne (a := a4.toInt) (b := 1) rfl (by decide) c5
          refine ae_iconst (v := 0) (q := 55) dX6_begin_54 (by decide) rfl ?_
          refine ae_callV (ci := 2) (as := [.int a3, .int 0]) (b := b4) (st := []) (q := 58) dX6_begin_55 (c_X2_reset (N := N) (d := d + 3) ho3 h l4 t4 (by omega) (by omega) (by decide) (by decide)) myX2_reset lk_X6_57 im_X2_reset se_X2_reset rfl (by decide) (h.s l4 t4) (h.l l4) rfl rfl (Nat.le_of_ble_eq_true rfl) rfl (fun o H1 hh => ⟨_, hh.1⟩) (fun vv G6 hv => ?_)
          obtain ⟨o6, z6⟩ := hv
          cases o6
          refine ⟨Or.inl (z6.nx.trans h.nx.symm), ?_⟩
          have h : jc N B 320 G6 := z6
          clear z6
          refine ae_aload_n (q := 59) dX6_begin_58 rfl rfl rfl ?_
          obtain ⟨b7, r7, l7, t7⟩ := h.r lp0 tp0 (k := 1) (T' := 5) rfl (by decide)
          refine ae_getR (q := 62) dX6_begin_59 fl_X6_21 rfl (h.s lp0 tp0) (h.l lp0) r7 rfl ?_
          refine ae_iload_n (q := 63) dX6_begin_62 rfl rfl rfl ?_
          refine ae_iload_n (q := 64) dX6_begin_63 rfl rfl rfl ?_
          refine ae_callV (ci := 2) (as := [.int a1, .int a2]) (b := b7) (st := []) (q := 67) dX6_begin_64 (c_X2_beginFirst (N := N) (d := d + 4) h l7 t7 (by omega) (by omega)) myX2_beginFirst lk_X6_61 im_X2_beginFirst se_X2_beginFirst rfl (by decide) (h.s l7 t7) (h.l l7) rfl rfl (Nat.le_of_ble_eq_true rfl) rfl (fun o H1 hh => ⟨_, hh.1⟩) (fun vv G8 hv => ?_)
          obtain ⟨o8, z8⟩ := hv
          cases o8
          refine ⟨Or.inl (z8.nx.trans h.nx.symm), ?_⟩
          have h : jc N B 320 G8 := z8
          clear z8
          refine ae_vret dX6_begin_67 rfl ?_
          exact ⟨Or.inl ⟨by omega, rfl⟩, h⟩
        · have c5 := i_eq (a := a4.toInt) (b := 1) rfl (by decide) c5
          refine ae_iconst (v := 1) (q := 51) dX6_begin_50 (by decide) rfl ?_
          refine ae_goto (q := 55) dX6_begin_51 (by decide) ?_
          refine ae_callV (ci := 2) (as := [.int a3, .int 1]) (b := b4) (st := []) (q := 58) dX6_begin_55 (c_X2_reset (N := N) (d := d + 3) ho3 h l4 t4 (by omega) (by omega) (by decide) (by decide)) myX2_reset lk_X6_57 im_X2_reset se_X2_reset rfl (by decide) (h.s l4 t4) (h.l l4) rfl rfl (Nat.le_of_ble_eq_true rfl) rfl (fun o H1 hh => ⟨_, hh.1⟩) (fun vv G9 hv => ?_)
          obtain ⟨o9, z9⟩ := hv
          cases o9
          refine ⟨Or.inl (z9.nx.trans h.nx.symm), ?_⟩
          have h : jc N B 320 G9 := z9
          clear z9
          refine ae_aload_n (q := 59) dX6_begin_58 rfl rfl rfl ?_
          obtain ⟨b10, r10, l10, t10⟩ := h.r lp0 tp0 (k := 1) (T' := 5) rfl (by decide)
          refine ae_getR (q := 62) dX6_begin_59 fl_X6_21 rfl (h.s lp0 tp0) (h.l lp0) r10 rfl ?_
          refine ae_iload_n (q := 63) dX6_begin_62 rfl rfl rfl ?_
          refine ae_iload_n (q := 64) dX6_begin_63 rfl rfl rfl ?_
          refine ae_callV (ci := 2) (as := [.int a1, .int a2]) (b := b10) (st := []) (q := 67) dX6_begin_64 (c_X2_beginFirst (N := N) (d := d + 4) h l10 t10 (by omega) (by omega)) myX2_beginFirst lk_X6_61 im_X2_beginFirst se_X2_beginFirst rfl (by decide) (h.s l10 t10) (h.l l10) rfl rfl (Nat.le_of_ble_eq_true rfl) rfl (fun o H1 hh => ⟨_, hh.1⟩) (fun vv G11 hv => ?_)
          obtain ⟨o11, z11⟩ := hv
          cases o11
          refine ⟨Or.inl (z11.nx.trans h.nx.symm), ?_⟩
          have h : jc N B 320 G11 := z11
          clear z11
          refine ae_vret dX6_begin_67 rfl ?_
          exact ⟨Or.inl ⟨by omega, rfl⟩, h⟩
      · have d3 := i_out (a := 0) (b := a4.toInt) (c := 1) (by decide) rfl (by decide) c3
        refine ae_if_ne (t := 39) (q := 29) dX6_begin_26 (by decide) rfl (fun h => absurd h (by decide)) (fun _ => ?_)
        refine ae_throw (names := am_exn) (text := "no such body, number of workers or policy") dX6_begin_29 dX6_begin_32 dX6_begin_33 dX6_begin_35 dX6_begin_38 (by decide +kernel) am_exf aw_255 aw_12 (by decide +kernel) tw_IAE (by decide) rfl (Nat.le_of_ble_eq_true rfl) (Nat.le_of_ble_eq_true rfl) (by decide) ?_
        exact ⟨Or.inr ⟨by omega, rfl⟩, h⟩
    · have d2 := i_out (a := 1) (b := a3.toInt) (c := 3) (by decide) rfl (by decide) c2
      refine ae_if_eq (t := 29) (q := 19) dX6_begin_16 (by decide) rfl (fun _ => ?_) (fun h => absurd h (by decide))
      refine ae_throw (names := am_exn) (text := "no such body, number of workers or policy") dX6_begin_29 dX6_begin_32 dX6_begin_33 dX6_begin_35 dX6_begin_38 (by decide +kernel) am_exf aw_255 aw_12 (by decide +kernel) tw_IAE (by decide) rfl (Nat.le_of_ble_eq_true rfl) (Nat.le_of_ble_eq_true rfl) (by decide) ?_
      exact ⟨Or.inr ⟨by omega, rfl⟩, h⟩
  · have d1 := i_out (a := 0) (b := a1.toInt) (c := 7) (by decide) rfl (by decide) c1
    refine ae_if_eq (t := 29) (q := 10) dX6_begin_7 (by decide) rfl (fun _ => ?_) (fun h => absurd h (by decide))
    refine ae_throw (names := am_exn) (text := "no such body, number of workers or policy") dX6_begin_29 dX6_begin_32 dX6_begin_33 dX6_begin_35 dX6_begin_38 (by decide +kernel) am_exf aw_255 aw_12 (by decide +kernel) tw_IAE (by decide) rfl (Nat.le_of_ble_eq_true rfl) (Nat.le_of_ble_eq_true rfl) (by decide) ?_
    exact ⟨Or.inr ⟨by omega, rfl⟩, h⟩
