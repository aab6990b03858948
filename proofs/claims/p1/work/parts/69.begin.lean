/-! begin: the class whole. -/
set_option maxRecDepth 100000 in
set_option maxHeartbeats 4000000 in
theorem e_X2_beginFirst {ox : List (Nat × (Nat → Int32))} {d : Nat} {H : am_H} {H0 : am_H} {b v : Int32} (h : fz H0) (hk : kz H0 H) (hz : am_gi H 279 1 = 0) : am_D ox (d + 1) yX2_beginFirst mX2_beginFirst [.ref 26, .int b, .int v] H (fun o H1 => o = .inl none ∧ kz H0 H1) := by
  refine ae_enter rfl rfl rfl rfl (Nat.le_of_ble_eq_true rfl) ?_
  show am_E ox (d + 1) mX2_beginFirst 0 [(0, .ref 26), (1, .int b), (2, .int v)] [] H _
  refine ae_aload_n (q := 1) dX2_beginFirst_0 rfl rfl rfl ?_
  refine ae_getR (q := 4) dX2_beginFirst_1 fl_X2_24 rfl (hk.s h.s26) (hk.l (h.lt (by decide))) (hk.r h.r26_1 (by decide)) rfl ?_
  refine ae_iconst (v := 0) (q := 5) dX2_beginFirst_4 (by decide) rfl ?_
  refine ae_aald (q := 6) dX2_beginFirst_5 (hk.s h.s28) (show am_kinds[6]? = some (103 + 4, .object RX4) from rfl) (hk.l (h.lt (by decide))) (by unfold vp_in; decide) (hk.r (h.r28 (t := 0) (by decide)) (by decide)) rfl ?_
  refine ae_iload_n (q := 7) dX2_beginFirst_6 rfl rfl rfl ?_
  refine ae_iload_n (q := 8) dX2_beginFirst_7 rfl rfl rfl ?_
  refine ae_aload_n (q := 9) dX2_beginFirst_8 rfl rfl rfl ?_
  refine ae_getR (q := 12) dX2_beginFirst_9 fl_X2_18 rfl (hk.s h.s26) (hk.l (h.lt (by decide))) (hk.r h.r26_3 (by decide)) rfl ?_
  refine ae_callV (ci := 4) (as := [.int b, .int v, .ref 27]) (b := 29) (st := []) (q := 15) dX2_beginFirst_12 (e_X4_reset (hk.s (h.lT (t := 0) (by decide)).1) (hk.l (h.lt (by decide))) (hk.l (h.lt (by decide)))) myX4_reset lk_X2_87 im_X4_reset se_X4_reset rfl (by decide) (hk.s (h.lT (t := 0) (by decide)).1) (hk.l (h.lt (by decide))) rfl rfl (Nat.le_of_ble_eq_true rfl) rfl (fun o H1 h => ⟨_, h.1⟩) (fun v G1 hv => ?_)
  obtain ⟨hv1, hv2, hv3⟩ := hv
  cases hv1
  refine ⟨Or.inl hv2.1, ?_⟩
  have hz : am_gi G1 279 1 = 0 := (congrFun (hv3 279 (by decide)) 1).trans hz
  have hk := hk.trans hv2
  clear hv2 hv3
  refine ae_aload_n (q := 16) dX2_beginFirst_15 rfl rfl rfl ?_
  refine ae_iconst (v := 1) (q := 17) dX2_beginFirst_16 (by decide) rfl ?_
  refine ae_putI (q := 20) dX2_beginFirst_17 fl_X2_64 rfl rfl rfl (hk.s h.s26) (hk.l (h.lt (by decide))) rfl ?_
  refine ae_gen (fun G2 eG2 => ?_)
  have hk : kz H0 G2 := by rw [eG2]; exact (hk.si (by decide))
  have hz : am_gi G2 279 1 = 0 := by rw [eG2]; exact gi_si hz (by decide)
  clear eG2
  refine ae_aload_n (q := 21) dX2_beginFirst_20 rfl rfl rfl ?_
  refine ae_getR (q := 24) dX2_beginFirst_21 fl_X2_18 rfl (hk.s h.s26) (hk.l (h.lt (by decide))) (hk.r h.r26_3 (by decide)) rfl ?_
  refine ae_iconst (v := 1) (q := 25) dX2_beginFirst_24 (by decide) rfl ?_
  refine ae_putI (q := 28) dX2_beginFirst_25 fl_X2_90 rfl rfl rfl (hk.s h.s27) (hk.l (h.lt (by decide))) rfl ?_
  refine ae_gen (fun G3 eG3 => ?_)
  have hk : kz H0 G3 := by rw [eG3]; exact (hk.si (by decide))
  have hz : am_gi G3 279 1 = 0 := by rw [eG3]; exact gi_si hz (by decide)
  clear eG3
  refine ae_aload_n (q := 29) dX2_beginFirst_28 rfl rfl rfl ?_
  refine ae_getR (q := 32) dX2_beginFirst_29 fl_X2_40 rfl (hk.s h.s26) (hk.l (h.lt (by decide))) (hk.r h.r26_5 (by decide)) rfl ?_
  refine ae_iconst (v := 0) (q := 33) dX2_beginFirst_32 (by decide) rfl ?_
  refine ae_aald (q := 34) dX2_beginFirst_33 (hk.s h.s278) (show am_kinds[7]? = some (103 + 5, .object RX5) from rfl) (hk.l (h.lt (by decide))) (by unfold vp_in; decide) (hk.r (h.r278 (t := 0) (by decide)) (by decide)) rfl ?_
  refine ae_iconst (v := 0) (q := 35) dX2_beginFirst_34 (by decide) rfl ?_
  refine ae_callV (ci := 5) (as := [.int 0]) (b := 279) (st := []) (q := 38) dX2_beginFirst_35 (e_X5_append (hk.s (h.lW (t := 0) (by decide)).1) (hk.l (h.lt (by decide))) (hk.r (h.lW (t := 0) (by decide)).2.1 (by decide)) (hk.s (h.lW (t := 0) (by decide)).2.2.2.2.1) (hk.l (h.lt (by decide))) hz) myX5_append lk_X2_93 im_X5_append se_X5_append rfl (by decide) (hk.s (h.lW (t := 0) (by decide)).1) (hk.l (h.lt (by decide))) rfl rfl (Nat.le_of_ble_eq_true rfl) rfl (fun o H1 h => ⟨_, h.1⟩) (fun v G4 hv => ?_)
  obtain ⟨hv1, hv2⟩ := hv
  cases hv1
  refine ⟨Or.inl hv2.1, ?_⟩
  have hk := hk.trans hv2
  clear hv2
  refine ae_vret dX2_beginFirst_38 rfl ?_
  exact ⟨rfl, hk⟩
set_option maxRecDepth 100000 in
set_option maxHeartbeats 4000000 in
theorem e_X6_begin {ox : List (Nat × (Nat → Int32))} {d : Nat} {H : am_H} {x0 x1 x2 x3 : Int32} (ho3 : ox[3]? = some (4, fun k => am_t3.getD k 0)) (h : fz H) : am_DB 1 ox (d + 6) yX6_begin mX6_begin [.ref 0, .int x0, .int x1, .int x2, .int x3] H (fun o H1 => (((0 ≤ x0 ∧ x0 ≤ 7) ∧ (1 ≤ x2 ∧ x2 ≤ 3) ∧ (0 ≤ x3 ∧ x3 ≤ 1)) ∧ o = .inl none ∨ ¬ ((0 ≤ x0 ∧ x0 ≤ 7) ∧ (1 ≤ x2 ∧ x2 ≤ 3) ∧ (0 ≤ x3 ∧ x3 ≤ 1)) ∧ o = .inr "java/lang/IllegalArgumentException") ∧ pz H H1) := by
  refine ae_enter rfl rfl rfl rfl (Nat.le_of_ble_eq_true rfl) ?_
  show am_EB 1 ox (d + 6) mX6_begin 0 [(0, .ref 0), (1, .int x0), (2, .int x1), (3, .int x2), (4, .int x3)] [] H _
  have hk : kz H H := kz.rf
  refine ae_iload_n (q := 1) dX6_begin_0 rfl rfl rfl ?_
  refine ae_iconst (v := 0) (q := 2) dX6_begin_1 (by decide) rfl ?_
  refine ae_bipush (v := 7) (q := 4) dX6_begin_2 (by decide) rfl ?_
  refine ae_wX6 (q := 7) dX6_begin_4 lk_X6_25 (Nat.le_of_ble_eq_true rfl) rfl (fun c1 => ?_) (fun c1 => ?_)
  · refine ae_if_eq (t := 29) (q := 10) dX6_begin_7 (by decide) rfl (fun h => absurd h (by decide)) (fun _ => ?_)
    refine ae_iload_n (q := 11) dX6_begin_10 rfl rfl rfl ?_
    refine ae_iconst (v := 1) (q := 12) dX6_begin_11 (by decide) rfl ?_
    refine ae_iconst (v := 3) (q := 13) dX6_begin_12 (by decide) rfl ?_
    refine ae_wX6 (q := 16) dX6_begin_13 lk_X6_25 (Nat.le_of_ble_eq_true rfl) rfl (fun c2 => ?_) (fun c2 => ?_)
    · refine ae_if_eq (t := 29) (q := 19) dX6_begin_16 (by decide) rfl (fun h => absurd h (by decide)) (fun _ => ?_)
      refine ae_iload (q := 21) dX6_begin_19 rfl rfl ?_
      refine ae_iconst (v := 0) (q := 22) dX6_begin_21 (by decide) rfl ?_
      refine ae_iconst (v := 1) (q := 23) dX6_begin_22 (by decide) rfl ?_
      refine ae_wX6 (q := 26) dX6_begin_23 lk_X6_25 (Nat.le_of_ble_eq_true rfl) rfl (fun c3 => ?_) (fun c3 => ?_)
      · refine ae_if_ne (t := 39) (q := 29) dX6_begin_26 (by decide) rfl (fun _ => ?_) (fun h => absurd h (by decide))
        refine ae_aload_n (q := 40) dX6_begin_39 rfl rfl rfl ?_
        refine ae_getR (q := 43) dX6_begin_40 fl_X6_21 rfl (hk.s h.s0) (hk.l (h.lt (by decide))) (hk.r h.r01 (by decide)) rfl ?_
        refine ae_iload_n (q := 44) dX6_begin_43 rfl rfl rfl ?_
        refine ae_iload (q := 46) dX6_begin_44 rfl rfl ?_
        refine ae_iconst (v := 1) (q := 47) dX6_begin_46 (by decide) rfl ?_
        refine ae_icmp_ne (t := 54) (q := 50) dX6_begin_47 (by decide) rfl (fun c4 => ?_) (fun c4 => ?_)
        · refine ae_iconst (v := 0) (q := 55) dX6_begin_54 (by decide) rfl ?_
          refine ae_callV (ci := 2) (as := [.int x2, .int 0]) (b := 26) (st := []) (q := 58) dX6_begin_55 (e_X2_reset (d := d + 3) ho3 h (by decide) (by decide)) myX2_reset lk_X6_57 im_X2_reset se_X2_reset rfl (by decide) h.s26 (h.lt (by decide)) rfl rfl (Nat.le_of_ble_eq_true rfl) rfl (fun o H1 h => ⟨_, h.1⟩) (fun v G1 hv => ?_)
          obtain ⟨hv1, hk, hz⟩ := hv
          cases hv1
          refine ⟨Or.inl hk.1, ?_⟩
          refine ae_aload_n (q := 59) dX6_begin_58 rfl rfl rfl ?_
          refine ae_getR (q := 62) dX6_begin_59 fl_X6_21 rfl (hk.s h.s0) (hk.l (h.lt (by decide))) (hk.r h.r01 (by decide)) rfl ?_
          refine ae_iload_n (q := 63) dX6_begin_62 rfl rfl rfl ?_
          refine ae_iload_n (q := 64) dX6_begin_63 rfl rfl rfl ?_
          refine ae_callV (ci := 2) (as := [.int x0, .int x1]) (b := 26) (st := []) (q := 67) dX6_begin_64 (e_X2_beginFirst (d := d + 4) h hk hz) myX2_beginFirst lk_X6_61 im_X2_beginFirst se_X2_beginFirst rfl (by decide) (hk.s h.s26) (hk.l (h.lt (by decide))) rfl rfl (Nat.le_of_ble_eq_true rfl) rfl (fun o H1 h => ⟨_, h.1⟩) (fun v G2 hv => ?_)
          obtain ⟨hv1, hk2⟩ := hv
          cases hv1
          refine ⟨Or.inl (hk2.1.trans hk.1.symm), ?_⟩
          have hk := hk2
          refine ae_vret dX6_begin_67 rfl ?_
          exact ⟨Or.inl ⟨⟨c1, c2, c3⟩, rfl⟩, hk.pz⟩
        · refine ae_iconst (v := 1) (q := 51) dX6_begin_50 (by decide) rfl ?_
          refine ae_goto (q := 55) dX6_begin_51 (by decide) ?_
          refine ae_callV (ci := 2) (as := [.int x2, .int 1]) (b := 26) (st := []) (q := 58) dX6_begin_55 (e_X2_reset (d := d + 3) ho3 h (by decide) (by decide)) myX2_reset lk_X6_57 im_X2_reset se_X2_reset rfl (by decide) h.s26 (h.lt (by decide)) rfl rfl (Nat.le_of_ble_eq_true rfl) rfl (fun o H1 h => ⟨_, h.1⟩) (fun v G3 hv => ?_)
          obtain ⟨hv1, hk, hz⟩ := hv
          cases hv1
          refine ⟨Or.inl hk.1, ?_⟩
          refine ae_aload_n (q := 59) dX6_begin_58 rfl rfl rfl ?_
          refine ae_getR (q := 62) dX6_begin_59 fl_X6_21 rfl (hk.s h.s0) (hk.l (h.lt (by decide))) (hk.r h.r01 (by decide)) rfl ?_
          refine ae_iload_n (q := 63) dX6_begin_62 rfl rfl rfl ?_
          refine ae_iload_n (q := 64) dX6_begin_63 rfl rfl rfl ?_
          refine ae_callV (ci := 2) (as := [.int x0, .int x1]) (b := 26) (st := []) (q := 67) dX6_begin_64 (e_X2_beginFirst (d := d + 4) h hk hz) myX2_beginFirst lk_X6_61 im_X2_beginFirst se_X2_beginFirst rfl (by decide) (hk.s h.s26) (hk.l (h.lt (by decide))) rfl rfl (Nat.le_of_ble_eq_true rfl) rfl (fun o H1 h => ⟨_, h.1⟩) (fun v G4 hv => ?_)
          obtain ⟨hv1, hk2⟩ := hv
          cases hv1
          refine ⟨Or.inl (hk2.1.trans hk.1.symm), ?_⟩
          have hk := hk2
          refine ae_vret dX6_begin_67 rfl ?_
          exact ⟨Or.inl ⟨⟨c1, c2, c3⟩, rfl⟩, hk.pz⟩
      · refine ae_if_ne (t := 39) (q := 29) dX6_begin_26 (by decide) rfl (fun h => absurd h (by decide)) (fun _ => ?_)
        refine ae_throw (names := am_exn) (text := "no such body, number of workers or policy") dX6_begin_29 dX6_begin_32 dX6_begin_33 dX6_begin_35 dX6_begin_38 (by decide +kernel) am_exf aw_255 aw_12 (by decide +kernel) tw_IAE (by decide) rfl (Nat.le_of_ble_eq_true rfl) (Nat.le_of_ble_eq_true rfl) (by decide) ?_
        exact ⟨Or.inr ⟨fun z => c3 z.2.2, rfl⟩, pz.ga⟩
    · refine ae_if_eq (t := 29) (q := 19) dX6_begin_16 (by decide) rfl (fun _ => ?_) (fun h => absurd h (by decide))
      refine ae_throw (names := am_exn) (text := "no such body, number of workers or policy") dX6_begin_29 dX6_begin_32 dX6_begin_33 dX6_begin_35 dX6_begin_38 (by decide +kernel) am_exf aw_255 aw_12 (by decide +kernel) tw_IAE (by decide) rfl (Nat.le_of_ble_eq_true rfl) (Nat.le_of_ble_eq_true rfl) (by decide) ?_
      exact ⟨Or.inr ⟨fun z => c2 z.2.1, rfl⟩, pz.ga⟩
  · refine ae_if_eq (t := 29) (q := 10) dX6_begin_7 (by decide) rfl (fun _ => ?_) (fun h => absurd h (by decide))
    refine ae_throw (names := am_exn) (text := "no such body, number of workers or policy") dX6_begin_29 dX6_begin_32 dX6_begin_33 dX6_begin_35 dX6_begin_38 (by decide +kernel) am_exf aw_255 aw_12 (by decide +kernel) tw_IAE (by decide) rfl (Nat.le_of_ble_eq_true rfl) (Nat.le_of_ble_eq_true rfl) (by decide) ?_
    exact ⟨Or.inr ⟨fun z => c1 z.1, rfl⟩, pz.ga⟩
