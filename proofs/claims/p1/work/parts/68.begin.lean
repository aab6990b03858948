/-! begin: the class's run reset and begun. -/
set_option maxRecDepth 100000 in
set_option maxHeartbeats 4000000 in
theorem f_X5_reset {ox : List (Nat × (Nat → Int32))} {d a : Nat} {H : am_H} (hs : am_sh H a = (5, am_Nf 5)) (hb : a < am_nx H) : am_D ox d yX5_reset mX5_reset [.ref a] H (fun o H1 => o = .inl none ∧ H1 = am_si (am_si H a 1 0) a 2 (-1)) := by
  refine ae_enter rfl rfl rfl rfl (Nat.le_of_ble_eq_true rfl) ?_
  show am_E ox d mX5_reset 0 [(0, .ref a)] [] H _
  refine ae_aload_n (q := 1) dX5_reset_0 rfl rfl rfl ?_
  refine ae_iconst (v := 0) (q := 2) dX5_reset_1 (by decide) rfl ?_
  refine ae_putI (q := 5) dX5_reset_2 fl_X5_19 rfl rfl rfl hs hb rfl ?_
  refine ae_aload_n (q := 6) dX5_reset_5 rfl rfl rfl ?_
  refine ae_iconst (v := (-1)) (q := 7) dX5_reset_6 (by decide) rfl ?_
  refine ae_putI (q := 10) dX5_reset_7 fl_X5_15 rfl rfl rfl hs hb rfl ?_
  refine ae_vret dX5_reset_10 rfl ?_
  exact ⟨rfl, rfl⟩
set_option maxRecDepth 100000 in
set_option maxHeartbeats 4000000 in
theorem e_X2_reset {ox : List (Nat × (Nat → Int32))} {d : Nat} {H : am_H} {w z : Int32} (ho3 : ox[3]? = some (4, fun k => am_t3.getD k 0)) (h : fz H) (hz1 : narrow .boolean (.int z) = .int z) (hz2 : fits .boolean (.int z) = true) : am_D ox (d + 2) yX2_reset mX2_reset [.ref 26, .int w, .int z] H (fun o H1 => o = .inl none ∧ kz H H1 ∧ am_gi H1 279 1 = 0) := by
  refine ae_enter rfl rfl rfl rfl (Nat.le_of_ble_eq_true rfl) ?_
  show am_E ox (d + 2) mX2_reset 0 [(0, .ref 26), (1, .int w), (2, .int z)] [] H _
  have hk : kz H H := kz.rf
  refine ae_aload_n (q := 1) dX2_reset_0 rfl rfl rfl ?_
  refine ae_iload_n (q := 2) dX2_reset_1 rfl rfl rfl ?_
  refine ae_putI (q := 5) dX2_reset_2 fl_X2_56 rfl rfl rfl (hk.s h.s26) (hk.l (h.lt (by decide))) rfl ?_
  refine ae_gen (fun G1 eG1 => ?_)
  have hk : kz H G1 := by rw [eG1]; exact (hk.si (by decide))
  clear eG1
  refine ae_aload_n (q := 6) dX2_reset_5 rfl rfl rfl ?_
  refine ae_iload_n (q := 7) dX2_reset_6 rfl rfl rfl ?_
  refine ae_putI (q := 10) dX2_reset_7 fl_X2_60 rfl hz1 hz2 (hk.s h.s26) (hk.l (h.lt (by decide))) rfl ?_
  refine ae_gen (fun G2 eG2 => ?_)
  have hk : kz H G2 := by rw [eG2]; exact (hk.si (by decide))
  clear eG2
  refine ae_aload_n (q := 11) dX2_reset_10 rfl rfl rfl ?_
  refine ae_iconst (v := 0) (q := 12) dX2_reset_11 (by decide) rfl ?_
  refine ae_putI (q := 15) dX2_reset_12 fl_X2_64 rfl rfl rfl (hk.s h.s26) (hk.l (h.lt (by decide))) rfl ?_
  refine ae_gen (fun G3 eG3 => ?_)
  have hk : kz H G3 := by rw [eG3]; exact (hk.si (by decide))
  clear eG3
  refine ae_aload_n (q := 16) dX2_reset_15 rfl rfl rfl ?_
  refine ae_iconst (v := 0) (q := 17) dX2_reset_16 (by decide) rfl ?_
  refine ae_putI (q := 20) dX2_reset_17 fl_X2_67 rfl rfl rfl (hk.s h.s26) (hk.l (h.lt (by decide))) rfl ?_
  refine ae_gen (fun G4 eG4 => ?_)
  have hk : kz H G4 := by rw [eG4]; exact (hk.si (by decide))
  clear eG4
  refine ae_aload_n (q := 21) dX2_reset_20 rfl rfl rfl ?_
  refine ae_iconst (v := 0) (q := 22) dX2_reset_21 (by decide) rfl ?_
  refine ae_putI (q := 25) dX2_reset_22 fl_X2_70 rfl rfl rfl (hk.s h.s26) (hk.l (h.lt (by decide))) rfl ?_
  refine ae_gen (fun G5 eG5 => ?_)
  have hk : kz H G5 := by rw [eG5]; exact (hk.si (by decide))
  clear eG5
  refine ae_aload_n (q := 26) dX2_reset_25 rfl rfl rfl ?_
  refine ae_iconst (v := 0) (q := 27) dX2_reset_26 (by decide) rfl ?_
  refine ae_putI (q := 30) dX2_reset_27 fl_X2_73 rfl rfl rfl (hk.s h.s26) (hk.l (h.lt (by decide))) rfl ?_
  refine ae_gen (fun G6 eG6 => ?_)
  have hk : kz H G6 := by rw [eG6]; exact (hk.si (by decide))
  clear eG6
  refine ae_aload_n (q := 31) dX2_reset_30 rfl rfl rfl ?_
  refine ae_iconst (v := 0) (q := 32) dX2_reset_31 (by decide) rfl ?_
  refine ae_putI (q := 35) dX2_reset_32 fl_X2_76 rfl rfl rfl (hk.s h.s26) (hk.l (h.lt (by decide))) rfl ?_
  refine ae_gen (fun G7 eG7 => ?_)
  have hk : kz H G7 := by rw [eG7]; exact (hk.si (by decide))
  clear eG7
  refine ae_aload_n (q := 36) dX2_reset_35 rfl rfl rfl ?_
  refine ae_getR (q := 39) dX2_reset_36 fl_X2_18 rfl (hk.s h.s26) (hk.l (h.lt (by decide))) (hk.r h.r26_3 (by decide)) rfl ?_
  refine ae_iconst (v := 0) (q := 40) dX2_reset_39 (by decide) rfl ?_
  refine ae_iconst (v := 0) (q := 41) dX2_reset_40 (by decide) rfl ?_
  refine ae_callV (ci := 3) (as := [.int 0, .int 0]) (b := 27) (st := []) (q := 44) dX2_reset_41 (e_X3_open ho3 (by decide) (hk.s h.s27) (hk.l (h.lt (by decide)))) myX3_open lk_X2_79 im_X3_open se_X3_open rfl (by decide) (hk.s h.s27) (hk.l (h.lt (by decide))) rfl rfl (Nat.le_of_ble_eq_true rfl) rfl (fun o H1 h => ⟨_, h.1⟩) (fun v G8 hv => ?_)
  obtain ⟨hv1, hv2⟩ := hv
  cases hv1
  refine ⟨Or.inl hv2.1, ?_⟩
  have hk := hk.trans hv2
  clear hv2
  refine ae_iconst (v := 0) (q := 45) dX2_reset_44 (by decide) rfl ?_
  refine ae_istore_n (lv' := [(3, .int 0), (0, .ref 26), (1, .int w), (2, .int z)]) (q := 46) dX2_reset_45 rfl (by decide) rfl rfl ?_
  refine ae_iload_n (q := 47) dX2_reset_46 rfl rfl rfl ?_
  refine ae_iconst (v := 4) (q := 48) dX2_reset_47 (by decide) rfl ?_
  refine ae_icmp_ge (t := 64) (q := 51) dX2_reset_48 (by decide) rfl (fun h => absurd h (by decide)) (fun _ => ?_)
  refine ae_aload_n (q := 52) dX2_reset_51 rfl rfl rfl ?_
  refine ae_getR (q := 55) dX2_reset_52 fl_X2_49 rfl (hk.s h.s26) (hk.l (h.lt (by decide))) (hk.r h.r26_9 (by decide)) rfl ?_
  refine ae_iload_n (q := 56) dX2_reset_55 rfl rfl rfl ?_
  refine ae_iconst (v := 0) (q := 57) dX2_reset_56 (by decide) rfl ?_
  refine ae_zast (q := 58) dX2_reset_57 (hk.s h.s286) (hk.l (h.lt (by decide))) (by unfold vp_in; decide) (by decide) rfl ?_
  refine ae_eqH (show am_si G8 286 (0 : Int32).toNatClampNeg 0 = am_si G8 286 0 0 from by rw [show (0 : Int32).toNatClampNeg = 0 from by decide]) ?_
  refine ae_gen (fun G9 eG9 => ?_)
  have hk : kz H G9 := by rw [eG9]; exact (hk.si (by decide))
  clear eG9
  refine ae_iinc (v := 1) (lv' := [(3, .int 1), (0, .ref 26), (1, .int w), (2, .int z)]) (q := 61) dX2_reset_58 rfl (by decide) (by decide) rfl rfl ?_
  refine ae_goto (q := 46) dX2_reset_61 (by decide) ?_
  refine ae_iload_n (q := 47) dX2_reset_46 rfl rfl rfl ?_
  refine ae_iconst (v := 4) (q := 48) dX2_reset_47 (by decide) rfl ?_
  refine ae_icmp_ge (t := 64) (q := 51) dX2_reset_48 (by decide) rfl (fun h => absurd h (by decide)) (fun _ => ?_)
  refine ae_aload_n (q := 52) dX2_reset_51 rfl rfl rfl ?_
  refine ae_getR (q := 55) dX2_reset_52 fl_X2_49 rfl (hk.s h.s26) (hk.l (h.lt (by decide))) (hk.r h.r26_9 (by decide)) rfl ?_
  refine ae_iload_n (q := 56) dX2_reset_55 rfl rfl rfl ?_
  refine ae_iconst (v := 0) (q := 57) dX2_reset_56 (by decide) rfl ?_
  refine ae_zast (q := 58) dX2_reset_57 (hk.s h.s286) (hk.l (h.lt (by decide))) (by unfold vp_in; decide) (by decide) rfl ?_
  refine ae_eqH (show am_si G9 286 (1 : Int32).toNatClampNeg 0 = am_si G9 286 1 0 from by rw [show (1 : Int32).toNatClampNeg = 1 from by decide]) ?_
  refine ae_gen (fun G10 eG10 => ?_)
  have hk : kz H G10 := by rw [eG10]; exact (hk.si (by decide))
  clear eG10
  refine ae_iinc (v := 2) (lv' := [(3, .int 2), (0, .ref 26), (1, .int w), (2, .int z)]) (q := 61) dX2_reset_58 rfl (by decide) (by decide) rfl rfl ?_
  refine ae_goto (q := 46) dX2_reset_61 (by decide) ?_
  refine ae_iload_n (q := 47) dX2_reset_46 rfl rfl rfl ?_
  refine ae_iconst (v := 4) (q := 48) dX2_reset_47 (by decide) rfl ?_
  refine ae_icmp_ge (t := 64) (q := 51) dX2_reset_48 (by decide) rfl (fun h => absurd h (by decide)) (fun _ => ?_)
  refine ae_aload_n (q := 52) dX2_reset_51 rfl rfl rfl ?_
  refine ae_getR (q := 55) dX2_reset_52 fl_X2_49 rfl (hk.s h.s26) (hk.l (h.lt (by decide))) (hk.r h.r26_9 (by decide)) rfl ?_
  refine ae_iload_n (q := 56) dX2_reset_55 rfl rfl rfl ?_
  refine ae_iconst (v := 0) (q := 57) dX2_reset_56 (by decide) rfl ?_
  refine ae_zast (q := 58) dX2_reset_57 (hk.s h.s286) (hk.l (h.lt (by decide))) (by unfold vp_in; decide) (by decide) rfl ?_
  refine ae_eqH (show am_si G10 286 (2 : Int32).toNatClampNeg 0 = am_si G10 286 2 0 from by rw [show (2 : Int32).toNatClampNeg = 2 from by decide]) ?_
  refine ae_gen (fun G11 eG11 => ?_)
  have hk : kz H G11 := by rw [eG11]; exact (hk.si (by decide))
  clear eG11
  refine ae_iinc (v := 3) (lv' := [(3, .int 3), (0, .ref 26), (1, .int w), (2, .int z)]) (q := 61) dX2_reset_58 rfl (by decide) (by decide) rfl rfl ?_
  refine ae_goto (q := 46) dX2_reset_61 (by decide) ?_
  refine ae_iload_n (q := 47) dX2_reset_46 rfl rfl rfl ?_
  refine ae_iconst (v := 4) (q := 48) dX2_reset_47 (by decide) rfl ?_
  refine ae_icmp_ge (t := 64) (q := 51) dX2_reset_48 (by decide) rfl (fun h => absurd h (by decide)) (fun _ => ?_)
  refine ae_aload_n (q := 52) dX2_reset_51 rfl rfl rfl ?_
  refine ae_getR (q := 55) dX2_reset_52 fl_X2_49 rfl (hk.s h.s26) (hk.l (h.lt (by decide))) (hk.r h.r26_9 (by decide)) rfl ?_
  refine ae_iload_n (q := 56) dX2_reset_55 rfl rfl rfl ?_
  refine ae_iconst (v := 0) (q := 57) dX2_reset_56 (by decide) rfl ?_
  refine ae_zast (q := 58) dX2_reset_57 (hk.s h.s286) (hk.l (h.lt (by decide))) (by unfold vp_in; decide) (by decide) rfl ?_
  refine ae_eqH (show am_si G11 286 (3 : Int32).toNatClampNeg 0 = am_si G11 286 3 0 from by rw [show (3 : Int32).toNatClampNeg = 3 from by decide]) ?_
  refine ae_gen (fun G12 eG12 => ?_)
  have hk : kz H G12 := by rw [eG12]; exact (hk.si (by decide))
  clear eG12
  refine ae_iinc (v := 4) (lv' := [(3, .int 4), (0, .ref 26), (1, .int w), (2, .int z)]) (q := 61) dX2_reset_58 rfl (by decide) (by decide) rfl rfl ?_
  refine ae_goto (q := 46) dX2_reset_61 (by decide) ?_
  refine ae_iload_n (q := 47) dX2_reset_46 rfl rfl rfl ?_
  refine ae_iconst (v := 4) (q := 48) dX2_reset_47 (by decide) rfl ?_
  refine ae_icmp_ge (t := 64) (q := 51) dX2_reset_48 (by decide) rfl (fun _ => ?_) (fun h => absurd h (by decide))
  refine ae_iconst (v := 0) (q := 65) dX2_reset_64 (by decide) rfl ?_
  refine ae_istore_n (lv' := [(3, .int 0), (0, .ref 26), (1, .int w), (2, .int z)]) (q := 66) dX2_reset_65 rfl (by decide) rfl rfl ?_
  refine ae_iload_n (q := 67) dX2_reset_66 rfl rfl rfl ?_
  refine ae_iconst (v := 2) (q := 68) dX2_reset_67 (by decide) rfl ?_
  refine ae_icmp_ge (t := 86) (q := 71) dX2_reset_68 (by decide) rfl (fun h => absurd h (by decide)) (fun _ => ?_)
  refine ae_aload_n (q := 72) dX2_reset_71 rfl rfl rfl ?_
  refine ae_getR (q := 75) dX2_reset_72 fl_X2_33 rfl (hk.s h.s26) (hk.l (h.lt (by decide))) (hk.r h.r26_4 (by decide)) rfl ?_
  refine ae_iload_n (q := 76) dX2_reset_75 rfl rfl rfl ?_
  refine ae_aald (q := 77) dX2_reset_76 (hk.s h.s269) (show am_kinds[4]? = some (103 + 1, .object RX1) from rfl) (hk.l (h.lt (by decide))) (by unfold vp_in; decide) (hk.r (h.r269 (t := 0) (by decide)) (by decide)) rfl ?_
  refine ae_callV (ci := 1) (as := []) (b := 270) (st := []) (q := 80) dX2_reset_77 (e_X1_reset (d := d) (p := 271) (by decide) (by decide) (hk.s (h.lP (t := 0) (by decide)).1) (hk.l (h.lt (by decide))) (hk.r ((h.lP (t := 0) (by decide)).2.2 0 (by decide)).1 (by decide)) (hk.s ((h.lP (t := 0) (by decide)).2.2 0 (by decide)).2.1) (hk.l (h.lt (by decide)))) myX1_reset lk_X2_83 im_X1_reset se_X1_reset rfl (by decide) (hk.s (h.lP (t := 0) (by decide)).1) (hk.l (h.lt (by decide))) rfl rfl (Nat.le_of_ble_eq_true rfl) rfl (fun o H1 h => ⟨_, h.1⟩) (fun v G13 hv => ?_)
  obtain ⟨hv1, hv2⟩ := hv
  cases hv1
  refine ⟨Or.inl hv2.1, ?_⟩
  have hk := hk.trans hv2
  clear hv2
  refine ae_iinc (v := 1) (lv' := [(3, .int 1), (0, .ref 26), (1, .int w), (2, .int z)]) (q := 83) dX2_reset_80 rfl (by decide) (by decide) rfl rfl ?_
  refine ae_goto (q := 66) dX2_reset_83 (by decide) ?_
  refine ae_iload_n (q := 67) dX2_reset_66 rfl rfl rfl ?_
  refine ae_iconst (v := 2) (q := 68) dX2_reset_67 (by decide) rfl ?_
  refine ae_icmp_ge (t := 86) (q := 71) dX2_reset_68 (by decide) rfl (fun h => absurd h (by decide)) (fun _ => ?_)
  refine ae_aload_n (q := 72) dX2_reset_71 rfl rfl rfl ?_
  refine ae_getR (q := 75) dX2_reset_72 fl_X2_33 rfl (hk.s h.s26) (hk.l (h.lt (by decide))) (hk.r h.r26_4 (by decide)) rfl ?_
  refine ae_iload_n (q := 76) dX2_reset_75 rfl rfl rfl ?_
  refine ae_aald (q := 77) dX2_reset_76 (hk.s h.s269) (show am_kinds[4]? = some (103 + 1, .object RX1) from rfl) (hk.l (h.lt (by decide))) (by unfold vp_in; decide) (hk.r (h.r269 (t := 1) (by decide)) (by decide)) rfl ?_
  refine ae_callV (ci := 1) (as := []) (b := 274) (st := []) (q := 80) dX2_reset_77 (e_X1_reset (d := d) (p := 275) (by decide) (by decide) (hk.s (h.lP (t := 1) (by decide)).1) (hk.l (h.lt (by decide))) (hk.r ((h.lP (t := 1) (by decide)).2.2 0 (by decide)).1 (by decide)) (hk.s ((h.lP (t := 1) (by decide)).2.2 0 (by decide)).2.1) (hk.l (h.lt (by decide)))) myX1_reset lk_X2_83 im_X1_reset se_X1_reset rfl (by decide) (hk.s (h.lP (t := 1) (by decide)).1) (hk.l (h.lt (by decide))) rfl rfl (Nat.le_of_ble_eq_true rfl) rfl (fun o H1 h => ⟨_, h.1⟩) (fun v G14 hv => ?_)
  obtain ⟨hv1, hv2⟩ := hv
  cases hv1
  refine ⟨Or.inl hv2.1, ?_⟩
  have hk := hk.trans hv2
  clear hv2
  refine ae_iinc (v := 2) (lv' := [(3, .int 2), (0, .ref 26), (1, .int w), (2, .int z)]) (q := 83) dX2_reset_80 rfl (by decide) (by decide) rfl rfl ?_
  refine ae_goto (q := 66) dX2_reset_83 (by decide) ?_
  refine ae_iload_n (q := 67) dX2_reset_66 rfl rfl rfl ?_
  refine ae_iconst (v := 2) (q := 68) dX2_reset_67 (by decide) rfl ?_
  refine ae_icmp_ge (t := 86) (q := 71) dX2_reset_68 (by decide) rfl (fun _ => ?_) (fun h => absurd h (by decide))
  refine ae_iconst (v := 0) (q := 87) dX2_reset_86 (by decide) rfl ?_
  refine ae_istore_n (lv' := [(3, .int 0), (0, .ref 26), (1, .int w), (2, .int z)]) (q := 88) dX2_reset_87 rfl (by decide) rfl rfl ?_
  refine ae_iload_n (q := 89) dX2_reset_88 rfl rfl rfl ?_
  refine ae_iconst (v := 3) (q := 90) dX2_reset_89 (by decide) rfl ?_
  refine ae_icmp_ge (t := 108) (q := 93) dX2_reset_90 (by decide) rfl (fun h => absurd h (by decide)) (fun _ => ?_)
  refine ae_aload_n (q := 94) dX2_reset_93 rfl rfl rfl ?_
  refine ae_getR (q := 97) dX2_reset_94 fl_X2_40 rfl (hk.s h.s26) (hk.l (h.lt (by decide))) (hk.r h.r26_5 (by decide)) rfl ?_
  refine ae_iload_n (q := 98) dX2_reset_97 rfl rfl rfl ?_
  refine ae_aald (q := 99) dX2_reset_98 (hk.s h.s278) (show am_kinds[7]? = some (103 + 5, .object RX5) from rfl) (hk.l (h.lt (by decide))) (by unfold vp_in; decide) (hk.r (h.r278 (t := 0) (by decide)) (by decide)) rfl ?_
  refine ae_callV (ci := 5) (as := []) (b := 279) (st := []) (q := 102) dX2_reset_99 (f_X5_reset (hk.s (h.lW (t := 0) (by decide)).1) (hk.l (h.lt (by decide)))) myX5_reset lk_X2_86 im_X5_reset se_X5_reset rfl (by decide) (hk.s (h.lW (t := 0) (by decide)).1) (hk.l (h.lt (by decide))) rfl rfl (Nat.le_of_ble_eq_true rfl) rfl (fun o H1 h => ⟨_, h.1⟩) (fun v G15 hv => ?_)
  obtain ⟨hv1, hv2⟩ := hv
  cases hv1
  refine ⟨Or.inl (by rw [hv2]; rfl), ?_⟩
  have hk : kz H G15 := by rw [hv2]; exact (hk.si (by decide)).si (by decide)
  have hz : am_gi G15 279 1 = 0 := by rw [hv2]; exact gi_si gi_set (by decide)
  clear hv2
  refine ae_iinc (v := 1) (lv' := [(3, .int 1), (0, .ref 26), (1, .int w), (2, .int z)]) (q := 105) dX2_reset_102 rfl (by decide) (by decide) rfl rfl ?_
  refine ae_goto (q := 88) dX2_reset_105 (by decide) ?_
  refine ae_iload_n (q := 89) dX2_reset_88 rfl rfl rfl ?_
  refine ae_iconst (v := 3) (q := 90) dX2_reset_89 (by decide) rfl ?_
  refine ae_icmp_ge (t := 108) (q := 93) dX2_reset_90 (by decide) rfl (fun h => absurd h (by decide)) (fun _ => ?_)
  refine ae_aload_n (q := 94) dX2_reset_93 rfl rfl rfl ?_
  refine ae_getR (q := 97) dX2_reset_94 fl_X2_40 rfl (hk.s h.s26) (hk.l (h.lt (by decide))) (hk.r h.r26_5 (by decide)) rfl ?_
  refine ae_iload_n (q := 98) dX2_reset_97 rfl rfl rfl ?_
  refine ae_aald (q := 99) dX2_reset_98 (hk.s h.s278) (show am_kinds[7]? = some (103 + 5, .object RX5) from rfl) (hk.l (h.lt (by decide))) (by unfold vp_in; decide) (hk.r (h.r278 (t := 1) (by decide)) (by decide)) rfl ?_
  refine ae_callV (ci := 5) (as := []) (b := 281) (st := []) (q := 102) dX2_reset_99 (f_X5_reset (hk.s (h.lW (t := 1) (by decide)).1) (hk.l (h.lt (by decide)))) myX5_reset lk_X2_86 im_X5_reset se_X5_reset rfl (by decide) (hk.s (h.lW (t := 1) (by decide)).1) (hk.l (h.lt (by decide))) rfl rfl (Nat.le_of_ble_eq_true rfl) rfl (fun o H1 h => ⟨_, h.1⟩) (fun v G16 hv => ?_)
  obtain ⟨hv1, hv2⟩ := hv
  cases hv1
  refine ⟨Or.inl (by rw [hv2]; rfl), ?_⟩
  have hk : kz H G16 := by rw [hv2]; exact (hk.si (by decide)).si (by decide)
  have hz : am_gi G16 279 1 = 0 := by rw [hv2]; exact gi_si (gi_si hz (by decide)) (by decide)
  clear hv2
  refine ae_iinc (v := 2) (lv' := [(3, .int 2), (0, .ref 26), (1, .int w), (2, .int z)]) (q := 105) dX2_reset_102 rfl (by decide) (by decide) rfl rfl ?_
  refine ae_goto (q := 88) dX2_reset_105 (by decide) ?_
  refine ae_iload_n (q := 89) dX2_reset_88 rfl rfl rfl ?_
  refine ae_iconst (v := 3) (q := 90) dX2_reset_89 (by decide) rfl ?_
  refine ae_icmp_ge (t := 108) (q := 93) dX2_reset_90 (by decide) rfl (fun h => absurd h (by decide)) (fun _ => ?_)
  refine ae_aload_n (q := 94) dX2_reset_93 rfl rfl rfl ?_
  refine ae_getR (q := 97) dX2_reset_94 fl_X2_40 rfl (hk.s h.s26) (hk.l (h.lt (by decide))) (hk.r h.r26_5 (by decide)) rfl ?_
  refine ae_iload_n (q := 98) dX2_reset_97 rfl rfl rfl ?_
  refine ae_aald (q := 99) dX2_reset_98 (hk.s h.s278) (show am_kinds[7]? = some (103 + 5, .object RX5) from rfl) (hk.l (h.lt (by decide))) (by unfold vp_in; decide) (hk.r (h.r278 (t := 2) (by decide)) (by decide)) rfl ?_
  refine ae_callV (ci := 5) (as := []) (b := 283) (st := []) (q := 102) dX2_reset_99 (f_X5_reset (hk.s (h.lW (t := 2) (by decide)).1) (hk.l (h.lt (by decide)))) myX5_reset lk_X2_86 im_X5_reset se_X5_reset rfl (by decide) (hk.s (h.lW (t := 2) (by decide)).1) (hk.l (h.lt (by decide))) rfl rfl (Nat.le_of_ble_eq_true rfl) rfl (fun o H1 h => ⟨_, h.1⟩) (fun v G17 hv => ?_)
  obtain ⟨hv1, hv2⟩ := hv
  cases hv1
  refine ⟨Or.inl (by rw [hv2]; rfl), ?_⟩
  have hk : kz H G17 := by rw [hv2]; exact (hk.si (by decide)).si (by decide)
  have hz : am_gi G17 279 1 = 0 := by rw [hv2]; exact gi_si (gi_si hz (by decide)) (by decide)
  clear hv2
  refine ae_iinc (v := 3) (lv' := [(3, .int 3), (0, .ref 26), (1, .int w), (2, .int z)]) (q := 105) dX2_reset_102 rfl (by decide) (by decide) rfl rfl ?_
  refine ae_goto (q := 88) dX2_reset_105 (by decide) ?_
  refine ae_iload_n (q := 89) dX2_reset_88 rfl rfl rfl ?_
  refine ae_iconst (v := 3) (q := 90) dX2_reset_89 (by decide) rfl ?_
  refine ae_icmp_ge (t := 108) (q := 93) dX2_reset_90 (by decide) rfl (fun _ => ?_) (fun h => absurd h (by decide))
  refine ae_vret dX2_reset_108 rfl ?_
  exact ⟨rfl, hk, hz⟩
theorem gx {H G : am_H} {x k : Nat} {v : Int32} (e : am_gi G x = am_gi H x) (hx : x ≠ 29) : am_gi (am_si G 29 k v) x = am_gi H x := (funext fun y => if_neg (fun q => hx q.1) : am_gi (am_si G 29 k v) x = am_gi G x).trans e
set_option maxRecDepth 100000 in
set_option maxHeartbeats 4000000 in
theorem e_X4_reset {ox : List (Nat × (Nat → Int32))} {d : Nat} {H : am_H} {b v : Int32} (hs : am_sh H 29 = (4, am_Nf 4)) (hb : 29 < am_nx H) (hc : 27 < am_nx H) : am_D ox d yX4_reset mX4_reset [.ref 29, .int b, .int v, .ref 27] H (fun o H1 => o = .inl none ∧ kz H H1 ∧ ∀ x, x ≠ 29 → am_gi H1 x = am_gi H x) := by
  refine ae_enter rfl rfl rfl rfl (Nat.le_of_ble_eq_true rfl) ?_
  show am_E ox d mX4_reset 0 [(0, .ref 29), (1, .int b), (2, .int v), (3, .ref 27)] [] H _
  have hk : kz H H := kz.rf
  refine ae_aload_n (q := 1) dX4_reset_0 rfl rfl rfl ?_
  refine ae_iload_n (q := 2) dX4_reset_1 rfl rfl rfl ?_
  refine ae_putI (q := 5) dX4_reset_2 fl_X4_26 rfl rfl rfl hs hb rfl ?_
  refine ae_aload_n (q := 6) dX4_reset_5 rfl rfl rfl ?_
  refine ae_iload_n (q := 7) dX4_reset_6 rfl rfl rfl ?_
  refine ae_putI (q := 10) dX4_reset_7 fl_X4_29 rfl rfl rfl hs hb rfl ?_
  refine ae_aload_n (q := 11) dX4_reset_10 rfl rfl rfl ?_
  refine ae_aload_n (q := 12) dX4_reset_11 rfl rfl rfl ?_
  refine ae_putR (q := 15) dX4_reset_12 fl_X4_15 rfl (fun _ => rfl) (fun _ => rfl) hs hb hc rfl ?_
  refine ae_aload_n (q := 16) dX4_reset_15 rfl rfl rfl ?_
  refine ae_iconst (v := 0) (q := 17) dX4_reset_16 (by decide) rfl ?_
  refine ae_putI (q := 20) dX4_reset_17 fl_X4_32 rfl rfl rfl hs hb rfl ?_
  refine ae_aload_n (q := 21) dX4_reset_20 rfl rfl rfl ?_
  refine ae_iconst (v := 0) (q := 22) dX4_reset_21 (by decide) rfl ?_
  refine ae_putI (q := 25) dX4_reset_22 fl_X4_35 rfl rfl rfl hs hb rfl ?_
  refine ae_aload_n (q := 26) dX4_reset_25 rfl rfl rfl ?_
  refine ae_iconst (v := 0) (q := 27) dX4_reset_26 (by decide) rfl ?_
  refine ae_putI (q := 30) dX4_reset_27 fl_X4_38 rfl rfl rfl hs hb rfl ?_
  refine ae_aload_n (q := 31) dX4_reset_30 rfl rfl rfl ?_
  refine ae_iconst (v := 0) (q := 32) dX4_reset_31 (by decide) rfl ?_
  refine ae_putI (q := 35) dX4_reset_32 fl_X4_41 rfl rfl rfl hs hb rfl ?_
  refine ae_vret dX4_reset_35 rfl ?_
  exact ⟨rfl, ((((((hk.si (by decide)).si (by decide)).sr.si (by decide)).si (by decide)).si (by decide)).si (by decide)), fun x hx => (gx (gx (gx (gx (gx (gx rfl hx) hx) hx) hx) hx) hx)⟩
set_option maxRecDepth 100000 in
set_option maxHeartbeats 4000000 in
theorem e_X5_append {ox : List (Nat × (Nat → Int32))} {d : Nat} {H : am_H} {x : Int32} (hs : am_sh H 279 = (5, am_Nf 5)) (hb : 279 < am_nx H) (hr : am_gr H 279 0 = some 280) (sp : am_sh H 280 = (100, 48)) (bp : 280 < am_nx H) (hz : am_gi H 279 1 = 0) : am_D ox d yX5_append mX5_append [.ref 279, .int x] H (fun o H1 => o = .inl none ∧ kz H H1) := by
  refine ae_enter rfl rfl rfl rfl (Nat.le_of_ble_eq_true rfl) ?_
  show am_E ox d mX5_append 0 [(0, .ref 279), (1, .int x)] [] H _
  have hk : kz H H := kz.rf
  refine ae_aload_n (q := 1) dX5_append_0 rfl rfl rfl ?_
  refine ae_getI (q := 4) dX5_append_1 fl_X5_19 rfl hs hb rfl ?_
  refine ae_eqi (show am_gi H 279 1 = 0 from hz) ?_
  refine ae_bipush (v := 48) (q := 6) dX5_append_4 (by decide) rfl ?_
  refine ae_icmp_ge (t := 29) (q := 9) dX5_append_6 (by decide) rfl (fun h => absurd h (by decide)) (fun _ => ?_)
  refine ae_aload_n (q := 10) dX5_append_9 rfl rfl rfl ?_
  refine ae_getR (q := 13) dX5_append_10 fl_X5_9 rfl hs hb hr rfl ?_
  refine ae_aload_n (q := 14) dX5_append_13 rfl rfl rfl ?_
  refine ae_getI (q := 17) dX5_append_14 fl_X5_19 rfl hs hb rfl ?_
  refine ae_eqi (show am_gi H 279 1 = 0 from hz) ?_
  refine ae_iload_n (q := 18) dX5_append_17 rfl rfl rfl ?_
  refine ae_iast (q := 19) dX5_append_18 sp bp (by unfold vp_in; decide) rfl ?_
  refine ae_eqH (show am_si H 280 (0 : Int32).toNatClampNeg x = am_si H 280 0 x from by rw [show (0 : Int32).toNatClampNeg = 0 from by decide]) ?_
  refine ae_aload_n (q := 20) dX5_append_19 rfl rfl rfl ?_
  refine ae_dup (q := 21) dX5_append_20 rfl rfl ?_
  refine ae_getI (q := 24) dX5_append_21 fl_X5_19 rfl hs hb rfl ?_
  refine ae_eqi (show am_gi (am_si H 280 0 x) 279 1 = 0 from (gi_si hz (by decide))) ?_
  refine ae_iconst (v := 1) (q := 25) dX5_append_24 (by decide) rfl ?_
  refine ae_iadd (q := 26) dX5_append_25 rfl ?_
  refine ae_putI (q := 29) dX5_append_26 fl_X5_19 rfl rfl rfl hs hb rfl ?_
  refine ae_vret dX5_append_29 rfl ?_
  exact ⟨rfl, ((hk.si (by decide)).si (by decide))⟩
