set_option maxRecDepth 100000 in
set_option maxHeartbeats 4000000 in
theorem c_Fill {ox : List (Nat × (Nat → Int32))} {d N : Nat} {B H : am_H} {p0 : Nat} {a1 : Int32}  (h : jc N B 320 H) (lp0 : p0 < 320) (tp0 : ty p0 = 12) : am_DB 0 ox d yFill mFill [.ref p0, .int a1] H (fun o H1 => o = .inl none ∧ jc N B 320 H1) := by
  refine ae_enter rfl rfl rfl rfl (Nat.le_of_ble_eq_true rfl) ?_
  show am_EB 0 ox d mFill 0 [(0, .ref p0), (1, .int a1)] [] H _
  refine ae_iconst (v := 0) (q := 1) dFill_0 (by decide) rfl ?_
  refine ae_istore_n (lv' := [(2, .int 0), (0, .ref p0), (1, .int a1)]) (q := 2) dFill_1 rfl (by decide) rfl rfl ?_
  refine ae_aload_n (q := 3) dFill_2 rfl rfl rfl ?_
  refine ae_alen (v := 48) (t := 0) (q := 4) dFill_3 (h.s lp0 tp0) (by decide) rfl (h.l lp0) (by decide) rfl ?_
  refine ae_istore_n (lv' := [(3, .int 48), (2, .int 0), (0, .ref p0), (1, .int a1)]) (q := 5) dFill_4 rfl (by decide) rfl rfl ?_
  have lab5 : ∀ (n1 : Nat) (y1_2 : Int32) (K1 : am_H), jc N B 320 K1 → 0 ≤ y1_2.toInt → y1_2.toInt ≤ 48 → 48 - y1_2.toInt ≤ (n1 : Int) → am_EB 0 ox d mFill 5 [(3, .int 48), (2, .int y1_2), (0, .ref p0), (1, .int a1)] [] K1 (fun o H1 => o = .inl none ∧ jc N B 320 H1) := by
    intro n1
    induction n1 using Nat.strongRecOn with
    | ind n1 ih1 =>
      intro y1_2 K1 h p1_2 q1_2 mm1
      refine ae_iload_n (q := 6) dFill_5 rfl rfl rfl ?_
      refine ae_iload_n (q := 7) dFill_6 rfl rfl rfl ?_
      refine ae_icmp_ge (t := 20) (q := 10) dFill_7 (by decide) rfl (fun c2 => ?_) (fun c2 => ?_)
      · have c2 := i_le (a := 48) (b := y1_2.toInt) (by decide) rfl c2
        refine ae_vret dFill_20 rfl ?_
        exact ⟨rfl, h⟩
      · have c2 := i_nle (a := 48) (b := y1_2.toInt) (by decide) rfl c2
        refine ae_aload_n (q := 11) dFill_10 rfl rfl rfl ?_
        refine ae_iload_n (q := 12) dFill_11 rfl rfl rfl ?_
        refine ae_iload_n (q := 13) dFill_12 rfl rfl rfl ?_
        refine ae_iast (q := 14) dFill_13 (h.s lp0 tp0) (h.l lp0) (vin (by omega) (by omega)) rfl ?_
        refine ae_gen (fun G3 g3 => ?_)
        have h : jc N B 320 G3 := by rw [g3]; exact h.w tp0 (by decide) (fun q => absurd q.1 (by decide)) inr_any
        obtain ⟨x4, e4⟩ : ∃ z, y1_2 + Int32.ofInt 1 = z := ⟨_, rfl⟩
        have f4 : x4.toInt = y1_2.toInt + 1 := by rw [← e4]; exact i_add rfl (by decide) (by omega) (by omega)
        refine ae_iinc (v := x4) (lv' := [(2, .int x4), (3, .int 48), (0, .ref p0), (1, .int a1)]) (q := 17) dFill_14 rfl e4 (by decide) rfl rfl ?_
        refine ae_goto (q := 5) dFill_17 (by decide) ?_
        exact ae_lv (lv' := [(3, .int 48), (2, .int x4), (0, .ref p0), (1, .int a1)]) ⟨rfl, rfl, rfl, rfl, trivial⟩ (ih1 (n1 - 1) (by omega) x4 _ h (by omega) (by omega) (by omega))
  exact ae_lv (lv' := [(3, .int 48), (2, .int 0), (0, .ref p0), (1, .int a1)]) ⟨rfl, rfl, rfl, rfl, trivial⟩ (lab5 48 0 _ h (by decide) (by decide) (show 48 - (0 : Int32).toInt ≤ _ from by rw [show (0 : Int32).toInt = 0 from by decide]; omega))
set_option maxRecDepth 100000 in
set_option maxHeartbeats 4000000 in
theorem c_X3_open {ox : List (Nat × (Nat → Int32))} {d N : Nat} {B H : am_H} {p0 : Nat} {a1 : Int32} {a2 : Int32} (ho3 : ox[3]? = some (4, fun k => am_t3.getD k 0))  (h : jc N B 320 H) (lp0 : p0 < 320) (tp0 : ty p0 = 6) (u_1 : 0 ≤ a1.toInt) (v_1 : a1.toInt ≤ 3) (u_2 : 0 ≤ a2.toInt) (v_2 : a2.toInt ≤ 15) : am_DB 0 ox d yX3_open mX3_open [.ref p0, .int a1, .int a2] H (fun o H1 => o = .inl none ∧ jc N B 320 H1 ∧ (∀ x, x < 320 → ty x ≠ 6 → am_gi H1 x = am_gi H x)) := by
  refine ae_enter rfl rfl rfl rfl (Nat.le_of_ble_eq_true rfl) ?_
  show am_EB 0 ox d mX3_open 0 [(0, .ref p0), (1, .int a1), (2, .int a2)] [] H _
  refine ae_aload_n (q := 1) dX3_open_0 rfl rfl rfl ?_
  refine ae_iload_n (q := 2) dX3_open_1 rfl rfl rfl ?_
  refine ae_putI (q := 5) dX3_open_2 fl_X3_9 rfl rfl rfl (h.s lp0 tp0) (h.l lp0) rfl ?_
  refine ae_gen (fun G1 g1 => ?_)
  have h : jc N B 320 G1 := by rw [g1]; exact h.w tp0 (by decide) (fun q => absurd q.1 (by decide)) inr_any
  refine ae_aload_n (q := 6) dX3_open_5 rfl rfl rfl ?_
  refine ae_iload_n (q := 7) dX3_open_6 rfl rfl rfl ?_
  refine ae_putI (q := 10) dX3_open_7 fl_X3_15 rfl rfl rfl (h.s lp0 tp0) (h.l lp0) rfl ?_
  refine ae_gen (fun G2 g2 => ?_)
  have h : jc N B 320 G2 := by rw [g2]; exact h.w tp0 (by decide) (fun q => absurd q.1 (by decide)) (mk_inr (lo := 0) (hi := 15) (by omega) (by omega))
  refine ae_aload_n (q := 11) dX3_open_10 rfl rfl rfl ?_
  refine ae_iconst (v := 0) (q := 12) dX3_open_11 (by decide) rfl ?_
  refine ae_putI (q := 15) dX3_open_12 fl_X3_18 rfl rfl rfl (h.s lp0 tp0) (h.l lp0) rfl ?_
  refine ae_gen (fun G3 g3 => ?_)
  have h : jc N B 320 G3 := by rw [g3]; exact h.w tp0 (by decide) (fun q => absurd q.1 (by decide)) inr_any
  refine ae_aload_n (q := 16) dX3_open_15 rfl rfl rfl ?_
  refine ae_getsN (i := 3) (q := 19) dX3_open_16 (show ("PhaserYard", "TOTAL_OF_NOTHING", "[I", 3) ∈ am_sts by decide) (show Cond.fieldLinkNest RX3 21 "PhaserYard" "TOTAL_OF_NOTHING" "[I" "PhaserYard" ∈ am_nst by decide +kernel) rfl ?_
  refine ae_iload_n (q := 20) dX3_open_19 rfl rfl rfl ?_
  refine ae_sld (i := 3) (q := 21) dX3_open_20 ho3 (vin (by omega) (by omega)) rfl ?_
  obtain ⟨x4, e4⟩ : ∃ x, (fun k => am_t3.getD k 0) a1.toNatClampNeg = x := ⟨_, rfl⟩
  refine ae_eqi e4 ?_
  refine ae_putI (q := 24) dX3_open_21 fl_X3_25 rfl rfl rfl (h.s lp0 tp0) (h.l lp0) rfl ?_
  refine ae_gen (fun G5 g5 => ?_)
  have h : jc N B 320 G5 := by rw [g5]; exact h.w tp0 (by decide) (fun q => absurd q.1 (by decide)) inr_any
  refine ae_aload_n (q := 25) dX3_open_24 rfl rfl rfl ?_
  refine ae_iconst (v := 0) (q := 26) dX3_open_25 (by decide) rfl ?_
  refine ae_putI (q := 29) dX3_open_26 fl_X3_28 rfl rfl rfl (h.s lp0 tp0) (h.l lp0) rfl ?_
  refine ae_gen (fun G6 g6 => ?_)
  have h : jc N B 320 G6 := by rw [g6]; exact h.w tp0 (by decide) (fun q => absurd q.1 (by decide)) inr_any
  refine ae_aload_n (q := 30) dX3_open_29 rfl rfl rfl ?_
  refine ae_iconst (v := 0) (q := 31) dX3_open_30 (by decide) rfl ?_
  refine ae_putI (q := 34) dX3_open_31 fl_X3_31 rfl rfl rfl (h.s lp0 tp0) (h.l lp0) rfl ?_
  refine ae_gen (fun G7 g7 => ?_)
  have h : jc N B 320 G7 := by rw [g7]; exact h.w tp0 (by decide) (fun q => absurd q.1 (by decide)) inr_any
  refine ae_vret dX3_open_34 rfl ?_
  exact ⟨rfl, ⟨h, (fun x lx tx => ((((((show am_gi G7 x = am_gi G6 x by rw [g7]; exact gi_rowne (fun q => tx (by rw [q]; exact tp0))).trans (show am_gi G6 x = am_gi G5 x by rw [g6]; exact gi_rowne (fun q => tx (by rw [q]; exact tp0)))).trans (show am_gi G5 x = am_gi G3 x by rw [g5]; exact gi_rowne (fun q => tx (by rw [q]; exact tp0)))).trans (show am_gi G3 x = am_gi G2 x by rw [g3]; exact gi_rowne (fun q => tx (by rw [q]; exact tp0)))).trans (show am_gi G2 x = am_gi G1 x by rw [g2]; exact gi_rowne (fun q => tx (by rw [q]; exact tp0)))).trans (show am_gi G1 x = am_gi H x by rw [g1]; exact gi_rowne (fun q => tx (by rw [q]; exact tp0)))))⟩⟩
set_option maxRecDepth 100000 in
set_option maxHeartbeats 4000000 in
theorem c_X3_give {ox : List (Nat × (Nat → Int32))} {d N : Nat} {B H : am_H} {p0 : Nat} {a1 : Int32}  (h : jc N B 320 H) (lp0 : p0 < 320) (tp0 : ty p0 = 6) : am_DB 0 ox (d + 1) yX3_give mX3_give [.ref p0, .int a1] H (fun o H1 => o = .inl none ∧ jc N B 320 H1 ∧ (∀ x, x < 320 → ty x ≠ 6 → am_gi H1 x = am_gi H x)) := by
  refine ae_enter rfl rfl rfl rfl (Nat.le_of_ble_eq_true rfl) ?_
  show am_EB 0 ox (d + 1) mX3_give 0 [(0, .ref p0), (1, .int a1)] [] H _
  refine ae_aload_n (q := 1) dX3_give_0 rfl rfl rfl ?_
  refine ae_getI (q := 4) dX3_give_1 fl_X3_9 rfl (h.s lp0 tp0) (h.l lp0) rfl ?_
  obtain ⟨x1, e1⟩ : ∃ x, am_gi H p0 0 = x := ⟨_, rfl⟩
  refine ae_eqi e1 ?_
  have c2 : x1.toInt = 0 ∨ x1.toInt = 1 ∨ x1.toInt = 2 ∨ (x1.toInt < 0 ∨ 2 < x1.toInt) := by omega
  rcases c2 with c2 | c2 | c2 | c2
  · have j2 : x1 = 0 := Int32.toInt_inj.mp (by rw [c2]; decide)
    refine ae_tableIn (off := 28) (q := 32) dX3_give_4 (by rw [j2]; decide) (by rw [j2]; decide) (by rw [j2]; decide) (by decide) ?_
    refine ae_aload_n (q := 33) dX3_give_32 rfl rfl rfl ?_
    refine ae_dup (q := 34) dX3_give_33 rfl rfl ?_
    refine ae_getI (q := 37) dX3_give_34 fl_X3_25 rfl (h.s lp0 tp0) (h.l lp0) rfl ?_
    obtain ⟨x3, e3⟩ : ∃ x, am_gi H p0 3 = x := ⟨_, rfl⟩
    refine ae_eqi e3 ?_
    refine ae_iload_n (q := 38) dX3_give_37 rfl rfl rfl ?_
    refine ae_iadd (q := 39) dX3_give_38 rfl ?_
    obtain ⟨x4, e4⟩ : ∃ z, x3 + a1 = z := ⟨_, rfl⟩
    refine ae_eqi e4 ?_
    refine ae_putI (q := 42) dX3_give_39 fl_X3_25 rfl rfl rfl (h.s lp0 tp0) (h.l lp0) rfl ?_
    refine ae_gen (fun G5 g5 => ?_)
    have h : jc N B 320 G5 := by rw [g5]; exact h.w tp0 (by decide) (fun q => absurd q.1 (by decide)) inr_any
    refine ae_goto (q := 85) dX3_give_42 (by decide) ?_
    refine ae_vret dX3_give_85 rfl ?_
    exact ⟨rfl, ⟨h, (fun x lx tx => (show am_gi G5 x = am_gi H x by rw [g5]; exact gi_rowne (fun q => tx (by rw [q]; exact tp0))))⟩⟩
  · have j2 : x1 = 1 := Int32.toInt_inj.mp (by rw [c2]; decide)
    refine ae_tableIn (off := 41) (q := 45) dX3_give_4 (by rw [j2]; decide) (by rw [j2]; decide) (by rw [j2]; decide) (by decide) ?_
    refine ae_aload_n (q := 46) dX3_give_45 rfl rfl rfl ?_
    refine ae_aload_n (q := 47) dX3_give_46 rfl rfl rfl ?_
    refine ae_getI (q := 50) dX3_give_47 fl_X3_25 rfl (h.s lp0 tp0) (h.l lp0) rfl ?_
    obtain ⟨x6, e6⟩ : ∃ x, am_gi H p0 3 = x := ⟨_, rfl⟩
    refine ae_eqi e6 ?_
    refine ae_iload_n (q := 51) dX3_give_50 rfl rfl rfl ?_
    refine ae_mmin (q := 54) dX3_give_51 (Nat.succ_le_succ (Nat.zero_le _)) aw_521 aw_522 aw_16 cd_mmin (Nat.le_of_ble_eq_true rfl) rfl ?_
    obtain ⟨x7, e7⟩ : ∃ z, (if a1 < x6 then a1 else x6) = z := ⟨_, rfl⟩
    refine ae_eqi e7 ?_
    refine ae_putI (q := 57) dX3_give_54 fl_X3_25 rfl rfl rfl (h.s lp0 tp0) (h.l lp0) rfl ?_
    refine ae_gen (fun G8 g8 => ?_)
    have h : jc N B 320 G8 := by rw [g8]; exact h.w tp0 (by decide) (fun q => absurd q.1 (by decide)) inr_any
    refine ae_goto (q := 85) dX3_give_57 (by decide) ?_
    refine ae_vret dX3_give_85 rfl ?_
    exact ⟨rfl, ⟨h, (fun x lx tx => (show am_gi G8 x = am_gi H x by rw [g8]; exact gi_rowne (fun q => tx (by rw [q]; exact tp0))))⟩⟩
  · have j2 : x1 = 2 := Int32.toInt_inj.mp (by rw [c2]; decide)
    refine ae_tableIn (off := 56) (q := 60) dX3_give_4 (by rw [j2]; decide) (by rw [j2]; decide) (by rw [j2]; decide) (by decide) ?_
    refine ae_aload_n (q := 61) dX3_give_60 rfl rfl rfl ?_
    refine ae_aload_n (q := 62) dX3_give_61 rfl rfl rfl ?_
    refine ae_getI (q := 65) dX3_give_62 fl_X3_25 rfl (h.s lp0 tp0) (h.l lp0) rfl ?_
    obtain ⟨x9, e9⟩ : ∃ x, am_gi H p0 3 = x := ⟨_, rfl⟩
    refine ae_eqi e9 ?_
    refine ae_iload_n (q := 66) dX3_give_65 rfl rfl rfl ?_
    refine ae_mmax (q := 69) dX3_give_66 (Nat.succ_le_succ (Nat.zero_le _)) aw_524 aw_525 aw_16 cd_mmax (Nat.le_of_ble_eq_true rfl) rfl ?_
    obtain ⟨x10, e10⟩ : ∃ z, (if x9 < a1 then a1 else x9) = z := ⟨_, rfl⟩
    refine ae_eqi e10 ?_
    refine ae_putI (q := 72) dX3_give_69 fl_X3_25 rfl rfl rfl (h.s lp0 tp0) (h.l lp0) rfl ?_
    refine ae_gen (fun G11 g11 => ?_)
    have h : jc N B 320 G11 := by rw [g11]; exact h.w tp0 (by decide) (fun q => absurd q.1 (by decide)) inr_any
    refine ae_goto (q := 85) dX3_give_72 (by decide) ?_
    refine ae_vret dX3_give_85 rfl ?_
    exact ⟨rfl, ⟨h, (fun x lx tx => (show am_gi G11 x = am_gi H x by rw [g11]; exact gi_rowne (fun q => tx (by rw [q]; exact tp0))))⟩⟩
  · refine ae_tableOut (q := 75) dX3_give_4 c2 (by decide) ?_
    refine ae_aload_n (q := 76) dX3_give_75 rfl rfl rfl ?_
    refine ae_dup (q := 77) dX3_give_76 rfl rfl ?_
    refine ae_getI (q := 80) dX3_give_77 fl_X3_25 rfl (h.s lp0 tp0) (h.l lp0) rfl ?_
    obtain ⟨x12, e12⟩ : ∃ x, am_gi H p0 3 = x := ⟨_, rfl⟩
    refine ae_eqi e12 ?_
    refine ae_iload_n (q := 81) dX3_give_80 rfl rfl rfl ?_
    refine ae_imul (q := 82) dX3_give_81 rfl ?_
    obtain ⟨x13, e13⟩ : ∃ z, x12 * a1 = z := ⟨_, rfl⟩
    refine ae_eqi e13 ?_
    refine ae_putI (q := 85) dX3_give_82 fl_X3_25 rfl rfl rfl (h.s lp0 tp0) (h.l lp0) rfl ?_
    refine ae_gen (fun G14 g14 => ?_)
    have h : jc N B 320 G14 := by rw [g14]; exact h.w tp0 (by decide) (fun q => absurd q.1 (by decide)) inr_any
    refine ae_vret dX3_give_85 rfl ?_
    exact ⟨rfl, ⟨h, (fun x lx tx => (show am_gi G14 x = am_gi H x by rw [g14]; exact gi_rowne (fun q => tx (by rw [q]; exact tp0))))⟩⟩
set_option maxRecDepth 100000 in
set_option maxHeartbeats 4000000 in
theorem c_X3_note {ox : List (Nat × (Nat → Int32))} {d N : Nat} {B H : am_H} {p0 : Nat} {a1 : Int32}  (h : jc N B 320 H) (lp0 : p0 < 320) (tp0 : ty p0 = 6) : am_DB 0 ox (d + 1) yX3_note mX3_note [.ref p0, .int a1] H (fun o H1 => o = .inl none ∧ jc N B 320 H1 ∧ (∀ x, x < 320 → ty x ≠ 6 → am_gi H1 x = am_gi H x)) := by
  refine ae_enter rfl rfl rfl rfl (Nat.le_of_ble_eq_true rfl) ?_
  show am_EB 0 ox (d + 1) mX3_note 0 [(0, .ref p0), (1, .int a1)] [] H _
  refine ae_aload_n (q := 1) dX3_note_0 rfl rfl rfl ?_
  refine ae_aload_n (q := 2) dX3_note_1 rfl rfl rfl ?_
  refine ae_getI (q := 5) dX3_note_2 fl_X3_28 rfl (h.s lp0 tp0) (h.l lp0) rfl ?_
  obtain ⟨x1, e1⟩ : ∃ x, am_gi H p0 4 = x := ⟨_, rfl⟩
  refine ae_eqi e1 ?_
  refine ae_if_ne (t := 12) (q := 8) dX3_note_5 (by decide) rfl (fun c2 => ?_) (fun c2 => ?_)
  · have c2 := i_ne (a := x1.toInt) (b := 0) rfl (by decide) c2
    refine ae_aload_n (q := 13) dX3_note_12 rfl rfl rfl ?_
    refine ae_getI (q := 16) dX3_note_13 fl_X3_31 rfl (h.s lp0 tp0) (h.l lp0) rfl ?_
    obtain ⟨x3, e3⟩ : ∃ x, am_gi H p0 5 = x := ⟨_, rfl⟩
    refine ae_eqi e3 ?_
    refine ae_iload_n (q := 17) dX3_note_16 rfl rfl rfl ?_
    refine ae_mmin (q := 20) dX3_note_17 (Nat.succ_le_succ (Nat.zero_le _)) aw_521 aw_522 aw_16 cd_mmin (Nat.le_of_ble_eq_true rfl) rfl ?_
    obtain ⟨x4, e4⟩ : ∃ z, (if a1 < x3 then a1 else x3) = z := ⟨_, rfl⟩
    refine ae_eqi e4 ?_
    refine ae_putI (q := 23) dX3_note_20 fl_X3_31 rfl rfl rfl (h.s lp0 tp0) (h.l lp0) rfl ?_
    refine ae_gen (fun G5 g5 => ?_)
    have h : jc N B 320 G5 := by rw [g5]; exact h.w tp0 (by decide) (fun q => absurd q.1 (by decide)) inr_any
    refine ae_aload_n (q := 24) dX3_note_23 rfl rfl rfl ?_
    refine ae_dup (q := 25) dX3_note_24 rfl rfl ?_
    refine ae_getI (q := 28) dX3_note_25 fl_X3_28 rfl (h.s lp0 tp0) (h.l lp0) rfl ?_
    have m6 : am_gi G5 p0 4 = x1 := by rw [g5]; exact gi_si e1 (fun q => absurd q.2 (by decide))
    refine ae_eqi m6 ?_
    refine ae_iconst (v := 1) (q := 29) dX3_note_28 (by decide) rfl ?_
    refine ae_iadd (q := 30) dX3_note_29 rfl ?_
    obtain ⟨x7, e7⟩ : ∃ z, x1 + 1 = z := ⟨_, rfl⟩
    refine ae_eqi e7 ?_
    refine ae_putI (q := 33) dX3_note_30 fl_X3_28 rfl rfl rfl (h.s lp0 tp0) (h.l lp0) rfl ?_
    refine ae_gen (fun G8 g8 => ?_)
    have h : jc N B 320 G8 := by rw [g8]; exact h.w tp0 (by decide) (fun q => absurd q.1 (by decide)) inr_any
    refine ae_vret dX3_note_33 rfl ?_
    exact ⟨rfl, ⟨h, (fun x lx tx => ((show am_gi G8 x = am_gi G5 x by rw [g8]; exact gi_rowne (fun q => tx (by rw [q]; exact tp0))).trans (show am_gi G5 x = am_gi H x by rw [g5]; exact gi_rowne (fun q => tx (by rw [q]; exact tp0)))))⟩⟩
  · have c2 := i_eq (a := x1.toInt) (b := 0) rfl (by decide) c2
    refine ae_iload_n (q := 9) dX3_note_8 rfl rfl rfl ?_
    refine ae_goto (q := 20) dX3_note_9 (by decide) ?_
    refine ae_putI (q := 23) dX3_note_20 fl_X3_31 rfl rfl rfl (h.s lp0 tp0) (h.l lp0) rfl ?_
    refine ae_gen (fun G9 g9 => ?_)
    have h : jc N B 320 G9 := by rw [g9]; exact h.w tp0 (by decide) (fun q => absurd q.1 (by decide)) inr_any
    refine ae_aload_n (q := 24) dX3_note_23 rfl rfl rfl ?_
    refine ae_dup (q := 25) dX3_note_24 rfl rfl ?_
    refine ae_getI (q := 28) dX3_note_25 fl_X3_28 rfl (h.s lp0 tp0) (h.l lp0) rfl ?_
    have m10 : am_gi G9 p0 4 = x1 := by rw [g9]; exact gi_si e1 (fun q => absurd q.2 (by decide))
    refine ae_eqi m10 ?_
    refine ae_iconst (v := 1) (q := 29) dX3_note_28 (by decide) rfl ?_
    refine ae_iadd (q := 30) dX3_note_29 rfl ?_
    obtain ⟨x11, e11⟩ : ∃ z, x1 + 1 = z := ⟨_, rfl⟩
    refine ae_eqi e11 ?_
    have f11 : x11.toInt = x1.toInt + 1 := by rw [← e11]; exact i_add rfl (by decide) (by omega) (by omega)
    refine ae_putI (q := 33) dX3_note_30 fl_X3_28 rfl rfl rfl (h.s lp0 tp0) (h.l lp0) rfl ?_
    refine ae_gen (fun G12 g12 => ?_)
    have h : jc N B 320 G12 := by rw [g12]; exact h.w tp0 (by decide) (fun q => absurd q.1 (by decide)) inr_any
    refine ae_vret dX3_note_33 rfl ?_
    exact ⟨rfl, ⟨h, (fun x lx tx => ((show am_gi G12 x = am_gi G9 x by rw [g12]; exact gi_rowne (fun q => tx (by rw [q]; exact tp0))).trans (show am_gi G9 x = am_gi H x by rw [g9]; exact gi_rowne (fun q => tx (by rw [q]; exact tp0)))))⟩⟩
set_option maxRecDepth 100000 in
set_option maxHeartbeats 4000000 in
theorem c_X3_sumAfter {ox : List (Nat × (Nat → Int32))} {d N : Nat} {B H : am_H} {p0 : Nat} {a1 : Int32}  (h : jc N B 320 H) (lp0 : p0 < 320) (tp0 : ty p0 = 6) : am_DB 0 ox d yX3_sumAfter mX3_sumAfter [.ref p0, .int a1] H (fun o H1 => (∃ v : Int32, o = .inl (some (.int v))) ∧ H1 = H) := by
  refine ae_enter rfl rfl rfl rfl (Nat.le_of_ble_eq_true rfl) ?_
  show am_EB 0 ox d mX3_sumAfter 0 [(0, .ref p0), (1, .int a1)] [] H _
  refine ae_aload_n (q := 1) dX3_sumAfter_0 rfl rfl rfl ?_
  refine ae_getI (q := 4) dX3_sumAfter_1 fl_X3_9 rfl (h.s lp0 tp0) (h.l lp0) rfl ?_
  obtain ⟨x1, e1⟩ : ∃ x, am_gi H p0 0 = x := ⟨_, rfl⟩
  refine ae_eqi e1 ?_
  refine ae_iconst (v := 1) (q := 5) dX3_sumAfter_4 (by decide) rfl ?_
  refine ae_icmp_eq (t := 16) (q := 8) dX3_sumAfter_5 (by decide) rfl (fun c2 => ?_) (fun c2 => ?_)
  · have c2 := i_eq (a := x1.toInt) (b := 1) rfl (by decide) c2
    refine ae_aload_n (q := 17) dX3_sumAfter_16 rfl rfl rfl ?_
    refine ae_getI (q := 20) dX3_sumAfter_17 fl_X3_25 rfl (h.s lp0 tp0) (h.l lp0) rfl ?_
    obtain ⟨x3, e3⟩ : ∃ x, am_gi H p0 3 = x := ⟨_, rfl⟩
    refine ae_eqi e3 ?_
    refine ae_goto (q := 29) dX3_sumAfter_20 (by decide) ?_
    refine ae_iret dX3_sumAfter_29 rfl rfl ?_
    exact ⟨⟨_, rfl⟩, rfl⟩
  · have c2 := i_ne (a := x1.toInt) (b := 1) rfl (by decide) c2
    refine ae_aload_n (q := 9) dX3_sumAfter_8 rfl rfl rfl ?_
    refine ae_getI (q := 12) dX3_sumAfter_9 fl_X3_9 rfl (h.s lp0 tp0) (h.l lp0) rfl ?_
    refine ae_eqi e1 ?_
    refine ae_iconst (v := 2) (q := 13) dX3_sumAfter_12 (by decide) rfl ?_
    refine ae_icmp_ne (t := 23) (q := 16) dX3_sumAfter_13 (by decide) rfl (fun c4 => ?_) (fun c4 => ?_)
    · have c4 := i_ne (a := x1.toInt) (b := 2) rfl (by decide) c4
      refine ae_iload_n (q := 24) dX3_sumAfter_23 rfl rfl rfl ?_
      refine ae_aload_n (q := 25) dX3_sumAfter_24 rfl rfl rfl ?_
      refine ae_getI (q := 28) dX3_sumAfter_25 fl_X3_25 rfl (h.s lp0 tp0) (h.l lp0) rfl ?_
      obtain ⟨x5, e5⟩ : ∃ x, am_gi H p0 3 = x := ⟨_, rfl⟩
      refine ae_eqi e5 ?_
      refine ae_iadd (q := 29) dX3_sumAfter_28 rfl ?_
      obtain ⟨x6, e6⟩ : ∃ z, a1 + x5 = z := ⟨_, rfl⟩
      refine ae_eqi e6 ?_
      refine ae_iret dX3_sumAfter_29 rfl rfl ?_
      exact ⟨⟨_, rfl⟩, rfl⟩
    · have c4 := i_eq (a := x1.toInt) (b := 2) rfl (by decide) c4
      refine ae_aload_n (q := 17) dX3_sumAfter_16 rfl rfl rfl ?_
      refine ae_getI (q := 20) dX3_sumAfter_17 fl_X3_25 rfl (h.s lp0 tp0) (h.l lp0) rfl ?_
      obtain ⟨x7, e7⟩ : ∃ x, am_gi H p0 3 = x := ⟨_, rfl⟩
      refine ae_eqi e7 ?_
      refine ae_goto (q := 29) dX3_sumAfter_20 (by decide) ?_
      refine ae_iret dX3_sumAfter_29 rfl rfl ?_
      exact ⟨⟨_, rfl⟩, rfl⟩
set_option maxRecDepth 100000 in
set_option maxHeartbeats 4000000 in
theorem c_X1_reset {ox : List (Nat × (Nat → Int32))} {d N : Nat} {B H : am_H} {p0 : Nat}  (h : jc N B 320 H) (lp0 : p0 < 320) (tp0 : ty p0 = 11) : am_DB 0 ox (d + 1) yX1_reset mX1_reset [.ref p0] H (fun o H1 => o = .inl none ∧ jc N B 320 H1) := by
  refine ae_enter rfl rfl rfl rfl (Nat.le_of_ble_eq_true rfl) ?_
  show am_EB 0 ox (d + 1) mX1_reset 0 [(0, .ref p0)] [] H _
  refine ae_aload_n (q := 1) dX1_reset_0 rfl rfl rfl ?_
  refine ae_iconst (v := 0) (q := 2) dX1_reset_1 (by decide) rfl ?_
  refine ae_putI (q := 5) dX1_reset_2 fl_X1_21 rfl rfl rfl (h.s lp0 tp0) (h.l lp0) rfl ?_
  refine ae_gen (fun G1 g1 => ?_)
  have h : jc N B 320 G1 := by rw [g1]; exact h.w tp0 (by decide) (fun q => absurd q.1 (by decide)) inr_any
  refine ae_aload_n (q := 6) dX1_reset_5 rfl rfl rfl ?_
  obtain ⟨b2, r2, l2, t2⟩ := h.r lp0 tp0 (k := 1) (T' := 12) rfl (by decide)
  refine ae_getR (q := 9) dX1_reset_6 fl_X1_9 rfl (h.s lp0 tp0) (h.l lp0) r2 rfl ?_
  refine ae_iconst (v := 0) (q := 10) dX1_reset_9 (by decide) rfl ?_
  refine ae_callS (as := [.ref b2, .int 0]) (st := []) (q := 13) dX1_reset_10 (c_Fill (N := N) h l2 t2) myFill aw_383 aw_384 rfl rfl (Nat.le_of_ble_eq_true rfl) rfl (fun o H1 hh => ⟨_, hh.1⟩) (fun vv G3 hv => ?_)
  obtain ⟨o3, z3⟩ := hv
  cases o3
  refine ⟨Or.inl (z3.nx.trans h.nx.symm), ?_⟩
  have h : jc N B 320 G3 := z3
  refine ae_vret dX1_reset_13 rfl ?_
  exact ⟨rfl, h⟩
set_option maxRecDepth 100000 in
set_option maxHeartbeats 4000000 in
theorem c_X1_join {ox : List (Nat × (Nat → Int32))} {d N : Nat} {B H : am_H} {p0 : Nat} {a1 : Int32} {a2 : Int32}  (h : jc N B 320 H) (lp0 : p0 < 320) (tp0 : ty p0 = 11) (u_1 : 0 ≤ a1.toInt) (v_1 : a1.toInt ≤ 47) : am_DB 0 ox d yX1_join mX1_join [.ref p0, .int a1, .int a2] H (fun o H1 => o = .inl none ∧ jc N B 320 H1) := by
  refine ae_enter rfl rfl rfl rfl (Nat.le_of_ble_eq_true rfl) ?_
  show am_EB 0 ox d mX1_join 0 [(0, .ref p0), (1, .int a1), (2, .int a2)] [] H _
  refine ae_aload_n (q := 1) dX1_join_0 rfl rfl rfl ?_
  obtain ⟨b1, r1, l1, t1⟩ := h.r lp0 tp0 (k := 1) (T' := 12) rfl (by decide)
  refine ae_getR (q := 4) dX1_join_1 fl_X1_9 rfl (h.s lp0 tp0) (h.l lp0) r1 rfl ?_
  refine ae_iload_n (q := 5) dX1_join_4 rfl rfl rfl ?_
  refine ae_iload_n (q := 6) dX1_join_5 rfl rfl rfl ?_
  refine ae_iast (q := 7) dX1_join_6 (h.s l1 t1) (h.l l1) (vin (by omega) (by omega)) rfl ?_
  refine ae_gen (fun G2 g2 => ?_)
  have h : jc N B 320 G2 := by rw [g2]; exact h.w t1 (by decide) (fun q => absurd q.1 (by decide)) inr_any
  refine ae_aload_n (q := 8) dX1_join_7 rfl rfl rfl ?_
  obtain ⟨b3, r3, l3, t3⟩ := h.r lp0 tp0 (k := 2) (T' := 12) rfl (by decide)
  refine ae_getR (q := 11) dX1_join_8 fl_X1_15 rfl (h.s lp0 tp0) (h.l lp0) r3 rfl ?_
  refine ae_iload_n (q := 12) dX1_join_11 rfl rfl rfl ?_
  refine ae_aload_n (q := 13) dX1_join_12 rfl rfl rfl ?_
  refine ae_getI (q := 16) dX1_join_13 fl_X1_21 rfl (h.s lp0 tp0) (h.l lp0) rfl ?_
  obtain ⟨x4, e4⟩ : ∃ x, am_gi G2 p0 0 = x := ⟨_, rfl⟩
  refine ae_eqi e4 ?_
  refine ae_iast (q := 17) dX1_join_16 (h.s l3 t3) (h.l l3) (vin (by omega) (by omega)) rfl ?_
  refine ae_gen (fun G5 g5 => ?_)
  have h : jc N B 320 G5 := by rw [g5]; exact h.w t3 (by decide) (fun q => absurd q.1 (by decide)) inr_any
  refine ae_aload_n (q := 18) dX1_join_17 rfl rfl rfl ?_
  obtain ⟨b6, r6, l6, t6⟩ := h.r lp0 tp0 (k := 3) (T' := 12) rfl (by decide)
  refine ae_getR (q := 21) dX1_join_18 fl_X1_18 rfl (h.s lp0 tp0) (h.l lp0) r6 rfl ?_
  refine ae_iload_n (q := 22) dX1_join_21 rfl rfl rfl ?_
  refine ae_aload_n (q := 23) dX1_join_22 rfl rfl rfl ?_
  refine ae_getI (q := 26) dX1_join_23 fl_X1_21 rfl (h.s lp0 tp0) (h.l lp0) rfl ?_
  have m7 : am_gi G5 p0 0 = x4 := by rw [g5]; exact gi_si e4 (fun q => absurd (tp0.symm.trans ((congrArg ty q.1).trans t3)) (by decide))
  refine ae_eqi m7 ?_
  refine ae_iast (q := 27) dX1_join_26 (h.s l6 t6) (h.l l6) (vin (by omega) (by omega)) rfl ?_
  refine ae_gen (fun G8 g8 => ?_)
  have h : jc N B 320 G8 := by rw [g8]; exact h.w t6 (by decide) (fun q => absurd q.1 (by decide)) inr_any
  refine ae_vret dX1_join_27 rfl ?_
  exact ⟨rfl, h⟩
set_option maxRecDepth 100000 in
set_option maxHeartbeats 4000000 in
theorem c_X1_copy {ox : List (Nat × (Nat → Int32))} {d N : Nat} {B H : am_H} {p0 : Nat} {a1 : Int32} {a2 : Int32}  (h : jc N B 320 H) (lp0 : p0 < 320) (tp0 : ty p0 = 11) (u_1 : 0 ≤ a1.toInt) (v_1 : a1.toInt ≤ 47) (u_2 : 0 ≤ a2.toInt) (v_2 : a2.toInt ≤ 47) : am_DB 0 ox d yX1_copy mX1_copy [.ref p0, .int a1, .int a2] H (fun o H1 => o = .inl none ∧ jc N B 320 H1) := by
  refine ae_enter rfl rfl rfl rfl (Nat.le_of_ble_eq_true rfl) ?_
  show am_EB 0 ox d mX1_copy 0 [(0, .ref p0), (1, .int a1), (2, .int a2)] [] H _
  refine ae_aload_n (q := 1) dX1_copy_0 rfl rfl rfl ?_
  obtain ⟨b1, r1, l1, t1⟩ := h.r lp0 tp0 (k := 1) (T' := 12) rfl (by decide)
  refine ae_getR (q := 4) dX1_copy_1 fl_X1_9 rfl (h.s lp0 tp0) (h.l lp0) r1 rfl ?_
  refine ae_iload_n (q := 5) dX1_copy_4 rfl rfl rfl ?_
  refine ae_aload_n (q := 6) dX1_copy_5 rfl rfl rfl ?_
  refine ae_getR (q := 9) dX1_copy_6 fl_X1_9 rfl (h.s lp0 tp0) (h.l lp0) r1 rfl ?_
  refine ae_iload_n (q := 10) dX1_copy_9 rfl rfl rfl ?_
  refine ae_iald (q := 11) dX1_copy_10 (h.s l1 t1) (h.l l1) (vin (by omega) (by omega)) rfl ?_
  obtain ⟨x2, e2⟩ : ∃ x, am_gi H b1 a1.toNatClampNeg = x := ⟨_, rfl⟩
  refine ae_eqi e2 ?_
  refine ae_iast (q := 12) dX1_copy_11 (h.s l1 t1) (h.l l1) (vin (by omega) (by omega)) rfl ?_
  refine ae_gen (fun G3 g3 => ?_)
  have h : jc N B 320 G3 := by rw [g3]; exact h.w t1 (by decide) (fun q => absurd q.1 (by decide)) inr_any
  refine ae_aload_n (q := 13) dX1_copy_12 rfl rfl rfl ?_
  obtain ⟨b4, r4, l4, t4⟩ := h.r lp0 tp0 (k := 2) (T' := 12) rfl (by decide)
  refine ae_getR (q := 16) dX1_copy_13 fl_X1_15 rfl (h.s lp0 tp0) (h.l lp0) r4 rfl ?_
  refine ae_iload_n (q := 17) dX1_copy_16 rfl rfl rfl ?_
  refine ae_aload_n (q := 18) dX1_copy_17 rfl rfl rfl ?_
  refine ae_getR (q := 21) dX1_copy_18 fl_X1_15 rfl (h.s lp0 tp0) (h.l lp0) r4 rfl ?_
  refine ae_iload_n (q := 22) dX1_copy_21 rfl rfl rfl ?_
  refine ae_iald (q := 23) dX1_copy_22 (h.s l4 t4) (h.l l4) (vin (by omega) (by omega)) rfl ?_
  obtain ⟨x5, e5⟩ : ∃ x, am_gi G3 b4 a1.toNatClampNeg = x := ⟨_, rfl⟩
  refine ae_eqi e5 ?_
  refine ae_iast (q := 24) dX1_copy_23 (h.s l4 t4) (h.l l4) (vin (by omega) (by omega)) rfl ?_
  refine ae_gen (fun G6 g6 => ?_)
  have h : jc N B 320 G6 := by rw [g6]; exact h.w t4 (by decide) (fun q => absurd q.1 (by decide)) inr_any
  refine ae_aload_n (q := 25) dX1_copy_24 rfl rfl rfl ?_
  obtain ⟨b7, r7, l7, t7⟩ := h.r lp0 tp0 (k := 3) (T' := 12) rfl (by decide)
  refine ae_getR (q := 28) dX1_copy_25 fl_X1_18 rfl (h.s lp0 tp0) (h.l lp0) r7 rfl ?_
  refine ae_iload_n (q := 29) dX1_copy_28 rfl rfl rfl ?_
  refine ae_aload_n (q := 30) dX1_copy_29 rfl rfl rfl ?_
  refine ae_getR (q := 33) dX1_copy_30 fl_X1_18 rfl (h.s lp0 tp0) (h.l lp0) r7 rfl ?_
  refine ae_iload_n (q := 34) dX1_copy_33 rfl rfl rfl ?_
  refine ae_iald (q := 35) dX1_copy_34 (h.s l7 t7) (h.l l7) (vin (by omega) (by omega)) rfl ?_
  obtain ⟨x8, e8⟩ : ∃ x, am_gi G6 b7 a1.toNatClampNeg = x := ⟨_, rfl⟩
  refine ae_eqi e8 ?_
  refine ae_iast (q := 36) dX1_copy_35 (h.s l7 t7) (h.l l7) (vin (by omega) (by omega)) rfl ?_
  refine ae_gen (fun G9 g9 => ?_)
  have h : jc N B 320 G9 := by rw [g9]; exact h.w t7 (by decide) (fun q => absurd q.1 (by decide)) inr_any
  refine ae_vret dX1_copy_36 rfl ?_
  exact ⟨rfl, h⟩
set_option maxRecDepth 100000 in
set_option maxHeartbeats 4000000 in
theorem c_X1_raisePhase {ox : List (Nat × (Nat → Int32))} {d N : Nat} {B H : am_H} {p0 : Nat}  (h : jc N B 320 H) (lp0 : p0 < 320) (tp0 : ty p0 = 11) : am_DB 0 ox d yX1_raisePhase mX1_raisePhase [.ref p0] H (fun o H1 => o = .inl none ∧ jc N B 320 H1) := by
  refine ae_enter rfl rfl rfl rfl (Nat.le_of_ble_eq_true rfl) ?_
  show am_EB 0 ox d mX1_raisePhase 0 [(0, .ref p0)] [] H _
  refine ae_iconst (v := 0) (q := 1) dX1_raisePhase_0 (by decide) rfl ?_
  refine ae_istore_n (lv' := [(1, .int 0), (0, .ref p0)]) (q := 2) dX1_raisePhase_1 rfl (by decide) rfl rfl ?_
  refine ae_iconst (v := 0) (q := 3) dX1_raisePhase_2 (by decide) rfl ?_
  refine ae_istore_n (lv' := [(2, .int 0), (1, .int 0), (0, .ref p0)]) (q := 4) dX1_raisePhase_3 rfl (by decide) rfl rfl ?_
  refine ae_iconst (v := 0) (q := 5) dX1_raisePhase_4 (by decide) rfl ?_
  refine ae_istore_n (lv' := [(3, .int 0), (2, .int 0), (1, .int 0), (0, .ref p0)]) (q := 6) dX1_raisePhase_5 rfl (by decide) rfl rfl ?_
  have lab6 : ∀ (n1 : Nat) (y1_3 : Int32) (y1_2 : Int32) (y1_1 : Int32) (K1 : am_H), jc N B 320 K1 → 0 ≤ y1_3.toInt → y1_3.toInt ≤ 48 → 0 ≤ y1_1.toInt → y1_1.toInt ≤ 1 → 48 - y1_3.toInt ≤ (n1 : Int) → am_EB 0 ox d mX1_raisePhase 6 [(3, .int y1_3), (2, .int y1_2), (1, .int y1_1), (0, .ref p0)] [] K1 (fun o H1 => o = .inl none ∧ jc N B 320 H1) := by
    intro n1
    induction n1 using Nat.strongRecOn with
    | ind n1 ih1 =>
      intro y1_3 y1_2 y1_1 K1 h p1_3 q1_3 p1_1 q1_1 mm1
      refine ae_iload_n (q := 7) dX1_raisePhase_6 rfl rfl rfl ?_
      refine ae_bipush (v := 48) (q := 9) dX1_raisePhase_7 (by decide) rfl ?_
      refine ae_icmp_ge (t := 52) (q := 12) dX1_raisePhase_9 (by decide) rfl (fun c2 => ?_) (fun c2 => ?_)
      · have c2 := i_le (a := 48) (b := y1_3.toInt) (by decide) rfl c2
        refine ae_iload_n (q := 53) dX1_raisePhase_52 rfl rfl rfl ?_
        refine ae_if_eq (t := 69) (q := 56) dX1_raisePhase_53 (by decide) rfl (fun c3 => ?_) (fun c3 => ?_)
        · have c3 := i_eq (a := y1_1.toInt) (b := 0) rfl (by decide) c3
          refine ae_vret dX1_raisePhase_69 rfl ?_
          exact ⟨rfl, h⟩
        · have c3 := i_ne (a := y1_1.toInt) (b := 0) rfl (by decide) c3
          refine ae_iload_n (q := 57) dX1_raisePhase_56 rfl rfl rfl ?_
          refine ae_aload_n (q := 58) dX1_raisePhase_57 rfl rfl rfl ?_
          refine ae_getI (q := 61) dX1_raisePhase_58 fl_X1_21 rfl (h.s lp0 tp0) (h.l lp0) rfl ?_
          obtain ⟨x4, e4⟩ : ∃ x, am_gi K1 p0 0 = x := ⟨_, rfl⟩
          refine ae_eqi e4 ?_
          refine ae_icmp_le (t := 69) (q := 64) dX1_raisePhase_61 (by decide) rfl (fun c5 => ?_) (fun c5 => ?_)
          · have c5 := i_le (a := y1_2.toInt) (b := x4.toInt) rfl rfl c5
            refine ae_vret dX1_raisePhase_69 rfl ?_
            exact ⟨rfl, h⟩
          · have c5 := i_nle (a := y1_2.toInt) (b := x4.toInt) rfl rfl c5
            refine ae_aload_n (q := 65) dX1_raisePhase_64 rfl rfl rfl ?_
            refine ae_iload_n (q := 66) dX1_raisePhase_65 rfl rfl rfl ?_
            refine ae_putI (q := 69) dX1_raisePhase_66 fl_X1_21 rfl rfl rfl (h.s lp0 tp0) (h.l lp0) rfl ?_
            refine ae_gen (fun G6 g6 => ?_)
            have h : jc N B 320 G6 := by rw [g6]; exact h.w tp0 (by decide) (fun q => absurd q.1 (by decide)) inr_any
            refine ae_vret dX1_raisePhase_69 rfl ?_
            exact ⟨rfl, h⟩
      · have c2 := i_nle (a := 48) (b := y1_3.toInt) (by decide) rfl c2
        refine ae_aload_n (q := 13) dX1_raisePhase_12 rfl rfl rfl ?_
        obtain ⟨b7, r7, l7, t7⟩ := h.r lp0 tp0 (k := 1) (T' := 12) rfl (by decide)
        refine ae_getR (q := 16) dX1_raisePhase_13 fl_X1_9 rfl (h.s lp0 tp0) (h.l lp0) r7 rfl ?_
        refine ae_iload_n (q := 17) dX1_raisePhase_16 rfl rfl rfl ?_
        refine ae_iald (q := 18) dX1_raisePhase_17 (h.s l7 t7) (h.l l7) (vin (by omega) (by omega)) rfl ?_
        obtain ⟨x8, e8⟩ : ∃ x, am_gi K1 b7 y1_3.toNatClampNeg = x := ⟨_, rfl⟩
        refine ae_eqi e8 ?_
        refine ae_iconst (v := 1) (q := 19) dX1_raisePhase_18 (by decide) rfl ?_
        refine ae_iand (q := 20) dX1_raisePhase_19 rfl ?_
        obtain ⟨x9, e9⟩ : ∃ z, x8 &&& 1 = z := ⟨_, rfl⟩
        refine ae_eqi e9 ?_
        refine ae_if_eq (t := 46) (q := 23) dX1_raisePhase_20 (by decide) rfl (fun c10 => ?_) (fun c10 => ?_)
        · have c10 := i_eq (a := x9.toInt) (b := 0) rfl (by decide) c10
          obtain ⟨x11, e11⟩ : ∃ z, y1_3 + Int32.ofInt 1 = z := ⟨_, rfl⟩
          have f11 : x11.toInt = y1_3.toInt + 1 := by rw [← e11]; exact i_add rfl (by decide) (by omega) (by omega)
          refine ae_iinc (v := x11) (lv' := [(3, .int x11), (2, .int y1_2), (1, .int y1_1), (0, .ref p0)]) (q := 49) dX1_raisePhase_46 rfl e11 (by decide) rfl rfl ?_
          refine ae_goto (q := 6) dX1_raisePhase_49 (by decide) ?_
          exact ae_lv (lv' := [(3, .int x11), (2, .int y1_2), (1, .int y1_1), (0, .ref p0)]) ⟨rfl, rfl, rfl, rfl, trivial⟩ (ih1 (n1 - 1) (by omega) x11 y1_2 y1_1 _ h (by omega) (by omega) (by omega) (by omega) (by omega))
        · have c10 := i_ne (a := x9.toInt) (b := 0) rfl (by decide) c10
          refine ae_iload_n (q := 24) dX1_raisePhase_23 rfl rfl rfl ?_
          refine ae_if_eq (t := 37) (q := 27) dX1_raisePhase_24 (by decide) rfl (fun c12 => ?_) (fun c12 => ?_)
          · have c12 := i_eq (a := y1_1.toInt) (b := 0) rfl (by decide) c12
            refine ae_iconst (v := 1) (q := 38) dX1_raisePhase_37 (by decide) rfl ?_
            refine ae_istore_n (lv' := [(1, .int 1), (3, .int y1_3), (2, .int y1_2), (0, .ref p0)]) (q := 39) dX1_raisePhase_38 rfl (by decide) rfl rfl ?_
            refine ae_aload_n (q := 40) dX1_raisePhase_39 rfl rfl rfl ?_
            obtain ⟨b13, r13, l13, t13⟩ := h.r lp0 tp0 (k := 2) (T' := 12) rfl (by decide)
            refine ae_getR (q := 43) dX1_raisePhase_40 fl_X1_15 rfl (h.s lp0 tp0) (h.l lp0) r13 rfl ?_
            refine ae_iload_n (q := 44) dX1_raisePhase_43 rfl rfl rfl ?_
            refine ae_iald (q := 45) dX1_raisePhase_44 (h.s l13 t13) (h.l l13) (vin (by omega) (by omega)) rfl ?_
            obtain ⟨x14, e14⟩ : ∃ x, am_gi K1 b13 y1_3.toNatClampNeg = x := ⟨_, rfl⟩
            refine ae_eqi e14 ?_
            refine ae_istore_n (lv' := [(2, .int x14), (1, .int 1), (3, .int y1_3), (0, .ref p0)]) (q := 46) dX1_raisePhase_45 rfl (by decide) rfl rfl ?_
            obtain ⟨x15, e15⟩ : ∃ z, y1_3 + Int32.ofInt 1 = z := ⟨_, rfl⟩
            have f15 : x15.toInt = y1_3.toInt + 1 := by rw [← e15]; exact i_add rfl (by decide) (by omega) (by omega)
            refine ae_iinc (v := x15) (lv' := [(3, .int x15), (2, .int x14), (1, .int 1), (0, .ref p0)]) (q := 49) dX1_raisePhase_46 rfl e15 (by decide) rfl rfl ?_
            refine ae_goto (q := 6) dX1_raisePhase_49 (by decide) ?_
            exact ae_lv (lv' := [(3, .int x15), (2, .int x14), (1, .int 1), (0, .ref p0)]) ⟨rfl, rfl, rfl, rfl, trivial⟩ (ih1 (n1 - 1) (by omega) x15 x14 1 _ h (by omega) (by omega) (by decide) (by decide) (by omega))
          · have c12 := i_ne (a := y1_1.toInt) (b := 0) rfl (by decide) c12
            refine ae_aload_n (q := 28) dX1_raisePhase_27 rfl rfl rfl ?_
            obtain ⟨b16, r16, l16, t16⟩ := h.r lp0 tp0 (k := 2) (T' := 12) rfl (by decide)
            refine ae_getR (q := 31) dX1_raisePhase_28 fl_X1_15 rfl (h.s lp0 tp0) (h.l lp0) r16 rfl ?_
            refine ae_iload_n (q := 32) dX1_raisePhase_31 rfl rfl rfl ?_
            refine ae_iald (q := 33) dX1_raisePhase_32 (h.s l16 t16) (h.l l16) (vin (by omega) (by omega)) rfl ?_
            obtain ⟨x17, e17⟩ : ∃ x, am_gi K1 b16 y1_3.toNatClampNeg = x := ⟨_, rfl⟩
            refine ae_eqi e17 ?_
            refine ae_iload_n (q := 34) dX1_raisePhase_33 rfl rfl rfl ?_
            refine ae_icmp_ge (t := 46) (q := 37) dX1_raisePhase_34 (by decide) rfl (fun c18 => ?_) (fun c18 => ?_)
            · have c18 := i_le (a := y1_2.toInt) (b := x17.toInt) rfl rfl c18
              obtain ⟨x19, e19⟩ : ∃ z, y1_3 + Int32.ofInt 1 = z := ⟨_, rfl⟩
              have f19 : x19.toInt = y1_3.toInt + 1 := by rw [← e19]; exact i_add rfl (by decide) (by omega) (by omega)
              refine ae_iinc (v := x19) (lv' := [(3, .int x19), (2, .int y1_2), (1, .int y1_1), (0, .ref p0)]) (q := 49) dX1_raisePhase_46 rfl e19 (by decide) rfl rfl ?_
              refine ae_goto (q := 6) dX1_raisePhase_49 (by decide) ?_
              exact ae_lv (lv' := [(3, .int x19), (2, .int y1_2), (1, .int y1_1), (0, .ref p0)]) ⟨rfl, rfl, rfl, rfl, trivial⟩ (ih1 (n1 - 1) (by omega) x19 y1_2 y1_1 _ h (by omega) (by omega) (by omega) (by omega) (by omega))
            · have c18 := i_nle (a := y1_2.toInt) (b := x17.toInt) rfl rfl c18
              refine ae_iconst (v := 1) (q := 38) dX1_raisePhase_37 (by decide) rfl ?_
              refine ae_istore_n (lv' := [(1, .int 1), (3, .int y1_3), (2, .int y1_2), (0, .ref p0)]) (q := 39) dX1_raisePhase_38 rfl (by decide) rfl rfl ?_
              refine ae_aload_n (q := 40) dX1_raisePhase_39 rfl rfl rfl ?_
              refine ae_getR (q := 43) dX1_raisePhase_40 fl_X1_15 rfl (h.s lp0 tp0) (h.l lp0) r16 rfl ?_
              refine ae_iload_n (q := 44) dX1_raisePhase_43 rfl rfl rfl ?_
              refine ae_iald (q := 45) dX1_raisePhase_44 (h.s l16 t16) (h.l l16) (vin (by omega) (by omega)) rfl ?_
              refine ae_eqi e17 ?_
              refine ae_istore_n (lv' := [(2, .int x17), (1, .int 1), (3, .int y1_3), (0, .ref p0)]) (q := 46) dX1_raisePhase_45 rfl (by decide) rfl rfl ?_
              obtain ⟨x20, e20⟩ : ∃ z, y1_3 + Int32.ofInt 1 = z := ⟨_, rfl⟩
              have f20 : x20.toInt = y1_3.toInt + 1 := by rw [← e20]; exact i_add rfl (by decide) (by omega) (by omega)
              refine ae_iinc (v := x20) (lv' := [(3, .int x20), (2, .int x17), (1, .int 1), (0, .ref p0)]) (q := 49) dX1_raisePhase_46 rfl e20 (by decide) rfl rfl ?_
              refine ae_goto (q := 6) dX1_raisePhase_49 (by decide) ?_
              exact ae_lv (lv' := [(3, .int x20), (2, .int x17), (1, .int 1), (0, .ref p0)]) ⟨rfl, rfl, rfl, rfl, trivial⟩ (ih1 (n1 - 1) (by omega) x20 x17 1 _ h (by omega) (by omega) (by decide) (by decide) (by omega))
  exact ae_lv (lv' := [(3, .int 0), (2, .int 0), (1, .int 0), (0, .ref p0)]) ⟨rfl, rfl, rfl, rfl, trivial⟩ (lab6 48 0 0 0 _ h (by decide) (by decide) (by decide) (by decide) (show 48 - (0 : Int32).toInt ≤ _ from by rw [show (0 : Int32).toInt = 0 from by decide]; omega))
set_option maxRecDepth 100000 in
set_option maxHeartbeats 4000000 in
theorem c_X1_leave {ox : List (Nat × (Nat → Int32))} {d N : Nat} {B H : am_H} {p0 : Nat} {a1 : Int32}  (h : jc N B 320 H) (lp0 : p0 < 320) (tp0 : ty p0 = 11) (u_1 : 0 ≤ a1.toInt) (v_1 : a1.toInt ≤ 47) : am_DB 0 ox (d + 1) yX1_leave mX1_leave [.ref p0, .int a1] H (fun o H1 => o = .inl none ∧ jc N B 320 H1) := by
  refine ae_enter rfl rfl rfl rfl (Nat.le_of_ble_eq_true rfl) ?_
  show am_EB 0 ox (d + 1) mX1_leave 0 [(0, .ref p0), (1, .int a1)] [] H _
  refine ae_aload_n (q := 1) dX1_leave_0 rfl rfl rfl ?_
  obtain ⟨b1, r1, l1, t1⟩ := h.r lp0 tp0 (k := 1) (T' := 12) rfl (by decide)
  refine ae_getR (q := 4) dX1_leave_1 fl_X1_9 rfl (h.s lp0 tp0) (h.l lp0) r1 rfl ?_
  refine ae_iload_n (q := 5) dX1_leave_4 rfl rfl rfl ?_
  refine ae_iconst (v := 0) (q := 6) dX1_leave_5 (by decide) rfl ?_
  refine ae_iast (q := 7) dX1_leave_6 (h.s l1 t1) (h.l l1) (vin (by omega) (by omega)) rfl ?_
  refine ae_gen (fun G2 g2 => ?_)
  have h : jc N B 320 G2 := by rw [g2]; exact h.w t1 (by decide) (fun q => absurd q.1 (by decide)) inr_any
  refine ae_aload_n (q := 8) dX1_leave_7 rfl rfl rfl ?_
  refine ae_callV (ci := 1) (as := []) (b := p0) (st := []) (q := 11) dX1_leave_8 (c_X1_raisePhase (N := N) (d := d) h lp0 tp0) myX1_raisePhase lk_X1_31 im_X1_raisePhase se_X1_raisePhase rfl (by decide) (h.s lp0 tp0) (h.l lp0) rfl rfl (Nat.le_of_ble_eq_true rfl) rfl (fun o H1 hh => ⟨_, hh.1⟩) (fun vv G3 hv => ?_)
  obtain ⟨o3, z3⟩ := hv
  cases o3
  refine ⟨Or.inl (z3.nx.trans h.nx.symm), ?_⟩
  have h : jc N B 320 G3 := z3
  clear z3
  refine ae_vret dX1_leave_11 rfl ?_
  exact ⟨rfl, h⟩
set_option maxRecDepth 100000 in
set_option maxHeartbeats 4000000 in
theorem c_X1_signal {ox : List (Nat × (Nat → Int32))} {d N : Nat} {B H : am_H} {p0 : Nat} {a1 : Int32}  (h : jc N B 320 H) (lp0 : p0 < 320) (tp0 : ty p0 = 11) (u_1 : 0 ≤ a1.toInt) (v_1 : a1.toInt ≤ 47) : am_DB 0 ox (d + 1) yX1_signal mX1_signal [.ref p0, .int a1] H (fun o H1 => o = .inl none ∧ jc N B 320 H1) := by
  refine ae_enter rfl rfl rfl rfl (Nat.le_of_ble_eq_true rfl) ?_
  show am_EB 0 ox (d + 1) mX1_signal 0 [(0, .ref p0), (1, .int a1)] [] H _
  refine ae_aload_n (q := 1) dX1_signal_0 rfl rfl rfl ?_
  obtain ⟨b1, r1, l1, t1⟩ := h.r lp0 tp0 (k := 1) (T' := 12) rfl (by decide)
  refine ae_getR (q := 4) dX1_signal_1 fl_X1_9 rfl (h.s lp0 tp0) (h.l lp0) r1 rfl ?_
  refine ae_iload_n (q := 5) dX1_signal_4 rfl rfl rfl ?_
  refine ae_iald (q := 6) dX1_signal_5 (h.s l1 t1) (h.l l1) (vin (by omega) (by omega)) rfl ?_
  obtain ⟨x2, e2⟩ : ∃ x, am_gi H b1 a1.toNatClampNeg = x := ⟨_, rfl⟩
  refine ae_eqi e2 ?_
  refine ae_iconst (v := 1) (q := 7) dX1_signal_6 (by decide) rfl ?_
  refine ae_iand (q := 8) dX1_signal_7 rfl ?_
  obtain ⟨x3, e3⟩ : ∃ z, x2 &&& 1 = z := ⟨_, rfl⟩
  refine ae_eqi e3 ?_
  refine ae_if_eq (t := 25) (q := 11) dX1_signal_8 (by decide) rfl (fun c4 => ?_) (fun c4 => ?_)
  · have c4 := i_eq (a := x3.toInt) (b := 0) rfl (by decide) c4
    refine ae_vret dX1_signal_25 rfl ?_
    exact ⟨rfl, h⟩
  · have c4 := i_ne (a := x3.toInt) (b := 0) rfl (by decide) c4
    refine ae_aload_n (q := 12) dX1_signal_11 rfl rfl rfl ?_
    obtain ⟨b5, r5, l5, t5⟩ := h.r lp0 tp0 (k := 2) (T' := 12) rfl (by decide)
    refine ae_getR (q := 15) dX1_signal_12 fl_X1_15 rfl (h.s lp0 tp0) (h.l lp0) r5 rfl ?_
    refine ae_iload_n (q := 16) dX1_signal_15 rfl rfl rfl ?_
    refine ae_dup2 (q := 17) dX1_signal_16 rfl rfl rfl ?_
    refine ae_iald (q := 18) dX1_signal_17 (h.s l5 t5) (h.l l5) (vin (by omega) (by omega)) rfl ?_
    obtain ⟨x6, e6⟩ : ∃ x, am_gi H b5 a1.toNatClampNeg = x := ⟨_, rfl⟩
    refine ae_eqi e6 ?_
    refine ae_iconst (v := 1) (q := 19) dX1_signal_18 (by decide) rfl ?_
    refine ae_iadd (q := 20) dX1_signal_19 rfl ?_
    obtain ⟨x7, e7⟩ : ∃ z, x6 + 1 = z := ⟨_, rfl⟩
    refine ae_eqi e7 ?_
    refine ae_iast (q := 21) dX1_signal_20 (h.s l5 t5) (h.l l5) (vin (by omega) (by omega)) rfl ?_
    refine ae_gen (fun G8 g8 => ?_)
    have h : jc N B 320 G8 := by rw [g8]; exact h.w t5 (by decide) (fun q => absurd q.1 (by decide)) inr_any
    refine ae_aload_n (q := 22) dX1_signal_21 rfl rfl rfl ?_
    refine ae_callV (ci := 1) (as := []) (b := p0) (st := []) (q := 25) dX1_signal_22 (c_X1_raisePhase (N := N) (d := d) h lp0 tp0) myX1_raisePhase lk_X1_31 im_X1_raisePhase se_X1_raisePhase rfl (by decide) (h.s lp0 tp0) (h.l lp0) rfl rfl (Nat.le_of_ble_eq_true rfl) rfl (fun o H1 hh => ⟨_, hh.1⟩) (fun vv G9 hv => ?_)
    obtain ⟨o9, z9⟩ := hv
    cases o9
    refine ⟨Or.inl (z9.nx.trans h.nx.symm), ?_⟩
    have h : jc N B 320 G9 := z9
    clear z9
    refine ae_vret dX1_signal_25 rfl ?_
    exact ⟨rfl, h⟩
set_option maxRecDepth 100000 in
set_option maxHeartbeats 4000000 in
theorem c_X1_holdsBack {ox : List (Nat × (Nat → Int32))} {d N : Nat} {B H : am_H} {p0 : Nat} {a1 : Int32}  (h : jc N B 320 H) (lp0 : p0 < 320) (tp0 : ty p0 = 11) (u_1 : 0 ≤ a1.toInt) (v_1 : a1.toInt ≤ 47) : am_DB 0 ox d yX1_holdsBack mX1_holdsBack [.ref p0, .int a1] H (fun o H1 => (∃ v : Int32, o = .inl (some (.int v)) ∧ 0 ≤ v.toInt ∧ v.toInt ≤ 1) ∧ H1 = H) := by
  refine ae_enter rfl rfl rfl rfl (Nat.le_of_ble_eq_true rfl) ?_
  show am_EB 0 ox d mX1_holdsBack 0 [(0, .ref p0), (1, .int a1)] [] H _
  refine ae_aload_n (q := 1) dX1_holdsBack_0 rfl rfl rfl ?_
  obtain ⟨b1, r1, l1, t1⟩ := h.r lp0 tp0 (k := 1) (T' := 12) rfl (by decide)
  refine ae_getR (q := 4) dX1_holdsBack_1 fl_X1_9 rfl (h.s lp0 tp0) (h.l lp0) r1 rfl ?_
  refine ae_iload_n (q := 5) dX1_holdsBack_4 rfl rfl rfl ?_
  refine ae_iald (q := 6) dX1_holdsBack_5 (h.s l1 t1) (h.l l1) (vin (by omega) (by omega)) rfl ?_
  obtain ⟨x2, e2⟩ : ∃ x, am_gi H b1 a1.toNatClampNeg = x := ⟨_, rfl⟩
  refine ae_eqi e2 ?_
  refine ae_iconst (v := 2) (q := 7) dX1_holdsBack_6 (by decide) rfl ?_
  refine ae_iand (q := 8) dX1_holdsBack_7 rfl ?_
  obtain ⟨x3, e3⟩ : ∃ z, x2 &&& 2 = z := ⟨_, rfl⟩
  refine ae_eqi e3 ?_
  refine ae_if_eq (t := 28) (q := 11) dX1_holdsBack_8 (by decide) rfl (fun c4 => ?_) (fun c4 => ?_)
  · have c4 := i_eq (a := x3.toInt) (b := 0) rfl (by decide) c4
    refine ae_iconst (v := 0) (q := 29) dX1_holdsBack_28 (by decide) rfl ?_
    refine ae_iret dX1_holdsBack_29 rfl rfl ?_
    exact ⟨⟨_, rfl, (by decide), (by decide)⟩, rfl⟩
  · have c4 := i_ne (a := x3.toInt) (b := 0) rfl (by decide) c4
    refine ae_aload_n (q := 12) dX1_holdsBack_11 rfl rfl rfl ?_
    refine ae_getI (q := 15) dX1_holdsBack_12 fl_X1_21 rfl (h.s lp0 tp0) (h.l lp0) rfl ?_
    obtain ⟨x5, e5⟩ : ∃ x, am_gi H p0 0 = x := ⟨_, rfl⟩
    refine ae_eqi e5 ?_
    refine ae_aload_n (q := 16) dX1_holdsBack_15 rfl rfl rfl ?_
    obtain ⟨b6, r6, l6, t6⟩ := h.r lp0 tp0 (k := 3) (T' := 12) rfl (by decide)
    refine ae_getR (q := 19) dX1_holdsBack_16 fl_X1_18 rfl (h.s lp0 tp0) (h.l lp0) r6 rfl ?_
    refine ae_iload_n (q := 20) dX1_holdsBack_19 rfl rfl rfl ?_
    refine ae_iald (q := 21) dX1_holdsBack_20 (h.s l6 t6) (h.l l6) (vin (by omega) (by omega)) rfl ?_
    obtain ⟨x7, e7⟩ : ∃ x, am_gi H b6 a1.toNatClampNeg = x := ⟨_, rfl⟩
    refine ae_eqi e7 ?_
    refine ae_icmp_gt (t := 28) (q := 24) dX1_holdsBack_21 (by decide) rfl (fun c8 => ?_) (fun c8 => ?_)
    · have c8 := i_lt (a := x7.toInt) (b := x5.toInt) rfl rfl c8
      refine ae_iconst (v := 0) (q := 29) dX1_holdsBack_28 (by decide) rfl ?_
      refine ae_iret dX1_holdsBack_29 rfl rfl ?_
      exact ⟨⟨_, rfl, (by decide), (by decide)⟩, rfl⟩
    · have c8 := i_nlt (a := x7.toInt) (b := x5.toInt) rfl rfl c8
      refine ae_iconst (v := 1) (q := 25) dX1_holdsBack_24 (by decide) rfl ?_
      refine ae_goto (q := 29) dX1_holdsBack_25 (by decide) ?_
      refine ae_iret dX1_holdsBack_29 rfl rfl ?_
      exact ⟨⟨_, rfl, (by decide), (by decide)⟩, rfl⟩
set_option maxRecDepth 100000 in
set_option maxHeartbeats 4000000 in
theorem c_X1_pass {ox : List (Nat × (Nat → Int32))} {d N : Nat} {B H : am_H} {p0 : Nat} {a1 : Int32}  (h : jc N B 320 H) (lp0 : p0 < 320) (tp0 : ty p0 = 11) (u_1 : 0 ≤ a1.toInt) (v_1 : a1.toInt ≤ 47) : am_DB 0 ox d yX1_pass mX1_pass [.ref p0, .int a1] H (fun o H1 => o = .inl none ∧ jc N B 320 H1) := by
  refine ae_enter rfl rfl rfl rfl (Nat.le_of_ble_eq_true rfl) ?_
  show am_EB 0 ox d mX1_pass 0 [(0, .ref p0), (1, .int a1)] [] H _
  refine ae_aload_n (q := 1) dX1_pass_0 rfl rfl rfl ?_
  obtain ⟨b1, r1, l1, t1⟩ := h.r lp0 tp0 (k := 1) (T' := 12) rfl (by decide)
  refine ae_getR (q := 4) dX1_pass_1 fl_X1_9 rfl (h.s lp0 tp0) (h.l lp0) r1 rfl ?_
  refine ae_iload_n (q := 5) dX1_pass_4 rfl rfl rfl ?_
  refine ae_iald (q := 6) dX1_pass_5 (h.s l1 t1) (h.l l1) (vin (by omega) (by omega)) rfl ?_
  obtain ⟨x2, e2⟩ : ∃ x, am_gi H b1 a1.toNatClampNeg = x := ⟨_, rfl⟩
  refine ae_eqi e2 ?_
  refine ae_iconst (v := 2) (q := 7) dX1_pass_6 (by decide) rfl ?_
  refine ae_iand (q := 8) dX1_pass_7 rfl ?_
  obtain ⟨x3, e3⟩ : ∃ z, x2 &&& 2 = z := ⟨_, rfl⟩
  refine ae_eqi e3 ?_
  refine ae_if_eq (t := 21) (q := 11) dX1_pass_8 (by decide) rfl (fun c4 => ?_) (fun c4 => ?_)
  · have c4 := i_eq (a := x3.toInt) (b := 0) rfl (by decide) c4
    refine ae_vret dX1_pass_21 rfl ?_
    exact ⟨rfl, h⟩
  · have c4 := i_ne (a := x3.toInt) (b := 0) rfl (by decide) c4
    refine ae_aload_n (q := 12) dX1_pass_11 rfl rfl rfl ?_
    obtain ⟨b5, r5, l5, t5⟩ := h.r lp0 tp0 (k := 3) (T' := 12) rfl (by decide)
    refine ae_getR (q := 15) dX1_pass_12 fl_X1_18 rfl (h.s lp0 tp0) (h.l lp0) r5 rfl ?_
    refine ae_iload_n (q := 16) dX1_pass_15 rfl rfl rfl ?_
    refine ae_dup2 (q := 17) dX1_pass_16 rfl rfl rfl ?_
    refine ae_iald (q := 18) dX1_pass_17 (h.s l5 t5) (h.l l5) (vin (by omega) (by omega)) rfl ?_
    obtain ⟨x6, e6⟩ : ∃ x, am_gi H b5 a1.toNatClampNeg = x := ⟨_, rfl⟩
    refine ae_eqi e6 ?_
    refine ae_iconst (v := 1) (q := 19) dX1_pass_18 (by decide) rfl ?_
    refine ae_iadd (q := 20) dX1_pass_19 rfl ?_
    obtain ⟨x7, e7⟩ : ∃ z, x6 + 1 = z := ⟨_, rfl⟩
    refine ae_eqi e7 ?_
    refine ae_iast (q := 21) dX1_pass_20 (h.s l5 t5) (h.l l5) (vin (by omega) (by omega)) rfl ?_
    refine ae_gen (fun G8 g8 => ?_)
    have h : jc N B 320 G8 := by rw [g8]; exact h.w t5 (by decide) (fun q => absurd q.1 (by decide)) inr_any
    refine ae_vret dX1_pass_21 rfl ?_
    exact ⟨rfl, h⟩
set_option maxRecDepth 100000 in
set_option maxHeartbeats 4000000 in
theorem c_X4_reset {ox : List (Nat × (Nat → Int32))} {d N : Nat} {B H : am_H} {p0 : Nat} {a1 : Int32} {a2 : Int32} {p3 : Nat}  (h : jc N B 320 H) (lp0 : p0 < 320) (tp0 : ty p0 = 8) (u_1 : 0 ≤ a1.toInt) (v_1 : a1.toInt ≤ 7) (lp3 : p3 < 320) (tp3 : ty p3 = 6) : am_DB 0 ox d yX4_reset mX4_reset [.ref p0, .int a1, .int a2, .ref p3] H (fun o H1 => o = .inl none ∧ jc N B 320 H1) := by
  refine ae_enter rfl rfl rfl rfl (Nat.le_of_ble_eq_true rfl) ?_
  show am_EB 0 ox d mX4_reset 0 [(0, .ref p0), (1, .int a1), (2, .int a2), (3, .ref p3)] [] H _
  refine ae_aload_n (q := 1) dX4_reset_0 rfl rfl rfl ?_
  refine ae_iload_n (q := 2) dX4_reset_1 rfl rfl rfl ?_
  refine ae_putI (q := 5) dX4_reset_2 fl_X4_26 rfl rfl rfl (h.s lp0 tp0) (h.l lp0) rfl ?_
  refine ae_gen (fun G1 g1 => ?_)
  have h : jc N B 320 G1 := by rw [g1]; exact h.w tp0 (by decide) (by decide) (mk_inr (lo := 0) (hi := 7) (by omega) (by omega))
  refine ae_aload_n (q := 6) dX4_reset_5 rfl rfl rfl ?_
  refine ae_iload_n (q := 7) dX4_reset_6 rfl rfl rfl ?_
  refine ae_putI (q := 10) dX4_reset_7 fl_X4_29 rfl rfl rfl (h.s lp0 tp0) (h.l lp0) rfl ?_
  refine ae_gen (fun G2 g2 => ?_)
  have h : jc N B 320 G2 := by rw [g2]; exact h.w tp0 (by decide) (by decide) inr_any
  refine ae_aload_n (q := 11) dX4_reset_10 rfl rfl rfl ?_
  refine ae_aload_n (q := 12) dX4_reset_11 rfl rfl rfl ?_
  refine ae_putR (q := 15) dX4_reset_12 fl_X4_15 rfl (fun _ => rfl) (fun _ => rfl) (h.s lp0 tp0) (h.l lp0) (h.l lp3) rfl ?_
  refine ae_gen (fun G3 g3 => ?_)
  have h : jc N B 320 G3 := by rw [g3]; exact h.wr tp0 (by decide) lp3 tp3
  refine ae_aload_n (q := 16) dX4_reset_15 rfl rfl rfl ?_
  refine ae_iconst (v := 0) (q := 17) dX4_reset_16 (by decide) rfl ?_
  refine ae_putI (q := 20) dX4_reset_17 fl_X4_32 rfl rfl rfl (h.s lp0 tp0) (h.l lp0) rfl ?_
  refine ae_gen (fun G4 g4 => ?_)
  have h : jc N B 320 G4 := by rw [g4]; exact h.w tp0 (by decide) (by decide) (mk_inr (lo := 0) (hi := 16 + ((N : Nat) : Int)) (by decide) (show (0 : Int) ≤ 16 + ((N : Nat) : Int) from by omega))
  refine ae_aload_n (q := 21) dX4_reset_20 rfl rfl rfl ?_
  refine ae_iconst (v := 0) (q := 22) dX4_reset_21 (by decide) rfl ?_
  refine ae_putI (q := 25) dX4_reset_22 fl_X4_35 rfl rfl rfl (h.s lp0 tp0) (h.l lp0) rfl ?_
  refine ae_gen (fun G5 g5 => ?_)
  have h : jc N B p0 G5 := by rw [g5]; exact h.wown0 tp0 (mk_inr (by decide) (by decide))
  refine ae_aload_n (q := 26) dX4_reset_25 rfl rfl rfl ?_
  refine ae_iconst (v := 0) (q := 27) dX4_reset_26 (by decide) rfl ?_
  refine ae_putI (q := 30) dX4_reset_27 fl_X4_38 rfl rfl rfl (h.s lp0 tp0) (h.l lp0) rfl ?_
  refine ae_gen (fun G6 g6 => ?_)
  have h : jc N B p0 G6 := by rw [g6]; exact h.w tp0 (by decide) (by decide) (mk_inr (lo := 0) (hi := 3) (by decide) (by decide))
  refine ae_aload_n (q := 31) dX4_reset_30 rfl rfl rfl ?_
  refine ae_iconst (v := 0) (q := 32) dX4_reset_31 (by decide) rfl ?_
  refine ae_putI (q := 35) dX4_reset_32 fl_X4_41 rfl rfl rfl (h.s lp0 tp0) (h.l lp0) rfl ?_
  refine ae_gen (fun G7 g7 => ?_)
  have h : jc N B 320 G7 := by rw [g7]; exact h.wdue0 tp0 (mk_inr (by decide) (by decide))
  refine ae_vret dX4_reset_35 rfl ?_
  exact ⟨rfl, h⟩
set_option maxRecDepth 100000 in
set_option maxHeartbeats 4000000 in
theorem c_X4_innerScope {ox : List (Nat × (Nat → Int32))} {d N : Nat} {B H : am_H} {p0 : Nat}  (h : jc N B 320 H) (lp0 : p0 < 320) (tp0 : ty p0 = 8) : am_DB 0 ox d yX4_innerScope mX4_innerScope [.ref p0] H (fun o H1 => (∃ b : Nat, o = .inl (some (.ref b)) ∧ b < 320 ∧ ty b = 6) ∧ H1 = H) := by
  refine ae_enter rfl rfl rfl rfl (Nat.le_of_ble_eq_true rfl) ?_
  show am_EB 0 ox d mX4_innerScope 0 [(0, .ref p0)] [] H _
  refine ae_aload_n (q := 1) dX4_innerScope_0 rfl rfl rfl ?_
  refine ae_getI (q := 4) dX4_innerScope_1 fl_X4_35 rfl (h.s lp0 tp0) (h.l lp0) rfl ?_
  obtain ⟨x1, e1, u1, v1⟩ := rdi (h.i lp0 tp0 (k := 2) (p := (0, 3)) rfl)
  refine ae_eqi e1 ?_
  refine ae_if_le (t := 21) (q := 7) dX4_innerScope_4 (by decide) rfl (fun c2 => ?_) (fun c2 => ?_)
  · have c2 := i_le (a := x1.toInt) (b := 0) rfl (by decide) c2
    refine ae_aload_n (q := 22) dX4_innerScope_21 rfl rfl rfl ?_
    obtain ⟨b3, r3, l3, t3⟩ := h.r lp0 tp0 (k := 3) (T' := 6) rfl (by decide)
    refine ae_getR (q := 25) dX4_innerScope_22 fl_X4_15 rfl (h.s lp0 tp0) (h.l lp0) r3 rfl ?_
    refine ae_aret dX4_innerScope_25 rfl (Or.inl ⟨_, rfl⟩) ?_
    exact ⟨⟨_, rfl, l3, t3⟩, rfl⟩
  · have c2 := i_nle (a := x1.toInt) (b := 0) rfl (by decide) c2
    refine ae_aload_n (q := 8) dX4_innerScope_7 rfl rfl rfl ?_
    obtain ⟨b4, r4, l4, t4⟩ := h.r lp0 tp0 (k := 1) (T' := 9) rfl (by decide)
    refine ae_getR (q := 11) dX4_innerScope_8 fl_X4_21 rfl (h.s lp0 tp0) (h.l lp0) r4 rfl ?_
    refine ae_aload_n (q := 12) dX4_innerScope_11 rfl rfl rfl ?_
    refine ae_getI (q := 15) dX4_innerScope_12 fl_X4_35 rfl (h.s lp0 tp0) (h.l lp0) rfl ?_
    refine ae_eqi e1 ?_
    refine ae_iconst (v := 1) (q := 16) dX4_innerScope_15 (by decide) rfl ?_
    refine ae_isub (q := 17) dX4_innerScope_16 rfl ?_
    obtain ⟨x5, e5⟩ : ∃ z, x1 - 1 = z := ⟨_, rfl⟩
    refine ae_eqi e5 ?_
    have f5 : x5.toInt = x1.toInt - 1 := by rw [← e5]; exact i_sub rfl (by decide) (by omega) (by omega)
    obtain ⟨b6, r6, l6, t6⟩ := h.r l4 t4 (k := x5.toNatClampNeg) (T' := 6) (if_pos (ixn (by omega) (by omega))) (by decide)
    refine ae_aald (q := 18) dX4_innerScope_17 (show am_sh H b4 = (103 + 3, 3) from h.s l4 t4) (show am_kinds[5]? = some (103 + 3, .object RX3) from rfl) (h.l l4) (vin (by omega) (by omega)) r6 rfl ?_
    refine ae_goto (q := 25) dX4_innerScope_18 (by decide) ?_
    refine ae_aret dX4_innerScope_25 rfl (Or.inl ⟨_, rfl⟩) ?_
    exact ⟨⟨_, rfl, l6, t6⟩, rfl⟩
set_option maxRecDepth 100000 in
set_option maxHeartbeats 4000000 in
theorem c_X4_waitFor {ox : List (Nat × (Nat → Int32))} {d N : Nat} {B H : am_H} {p0 : Nat} {a1 : Int32} {a2 : Int32}  (h : jc N B 320 H) (lp0 : p0 < 320) (tp0 : ty p0 = 8) (u_1 : 0 ≤ a1.toInt) (v_1 : a1.toInt ≤ 2) (u_2 : 0 ≤ a2.toInt) (v_2 : a2.toInt ≤ 3) : am_DB 0 ox d yX4_waitFor mX4_waitFor [.ref p0, .int a1, .int a2] H (fun o H1 => o = .inl none ∧ jc N B 320 H1) := by
  refine ae_enter rfl rfl rfl rfl (Nat.le_of_ble_eq_true rfl) ?_
  show am_EB 0 ox d mX4_waitFor 0 [(0, .ref p0), (1, .int a1), (2, .int a2)] [] H _
  refine ae_aload_n (q := 1) dX4_waitFor_0 rfl rfl rfl ?_
  refine ae_iconst (v := 2) (q := 2) dX4_waitFor_1 (by decide) rfl ?_
  refine ae_putI (q := 5) dX4_waitFor_2 fl_X4_38 rfl rfl rfl (h.s lp0 tp0) (h.l lp0) rfl ?_
  refine ae_gen (fun G1 g1 => ?_)
  have h : jc N B 320 G1 := by rw [g1]; exact h.w tp0 (by decide) (by decide) (mk_inr (lo := 0) (hi := 3) (by decide) (by decide))
  refine ae_aload_n (q := 6) dX4_waitFor_5 rfl rfl rfl ?_
  refine ae_iload_n (q := 7) dX4_waitFor_6 rfl rfl rfl ?_
  refine ae_putI (q := 10) dX4_waitFor_7 fl_X4_41 rfl rfl rfl (h.s lp0 tp0) (h.l lp0) rfl ?_
  refine ae_gen (fun G2 g2 => ?_)
  have h : jc N B 320 G2 := by rw [g2]; exact h.wdue tp0 (mk_inr (by omega) (by omega)) (fun q => by omega)
  refine ae_aload_n (q := 11) dX4_waitFor_10 rfl rfl rfl ?_
  refine ae_iload_n (q := 12) dX4_waitFor_11 rfl rfl rfl ?_
  refine ae_putI (q := 15) dX4_waitFor_12 fl_X4_44 rfl rfl rfl (h.s lp0 tp0) (h.l lp0) rfl ?_
  refine ae_gen (fun G3 g3 => ?_)
  have h : jc N B 320 G3 := by rw [g3]; exact h.w tp0 (by decide) (by decide) (mk_inr (lo := 0) (hi := 3) (by omega) (by omega))
  refine ae_vret dX4_waitFor_15 rfl ?_
  exact ⟨rfl, h⟩
set_option maxRecDepth 100000 in
set_option maxHeartbeats 4000000 in
theorem c_X5_reset {ox : List (Nat × (Nat → Int32))} {d N : Nat} {B H : am_H} {p0 : Nat}  (h : jc N B 320 H) (lp0 : p0 < 320) (tp0 : ty p0 = 14) : am_DB 0 ox d yX5_reset mX5_reset [.ref p0] H (fun o H1 => o = .inl none ∧ jc N B 320 H1) := by
  refine ae_enter rfl rfl rfl rfl (Nat.le_of_ble_eq_true rfl) ?_
  show am_EB 0 ox d mX5_reset 0 [(0, .ref p0)] [] H _
  refine ae_aload_n (q := 1) dX5_reset_0 rfl rfl rfl ?_
  refine ae_iconst (v := 0) (q := 2) dX5_reset_1 (by decide) rfl ?_
  refine ae_putI (q := 5) dX5_reset_2 fl_X5_19 rfl rfl rfl (h.s lp0 tp0) (h.l lp0) rfl ?_
  refine ae_gen (fun G1 g1 => ?_)
  have h : jc N B 320 G1 := by rw [g1]; exact h.w tp0 (by decide) (fun q => absurd q.1 (by decide)) (mk_inr (lo := 0) (hi := 48) (by decide) (by decide))
  refine ae_aload_n (q := 6) dX5_reset_5 rfl rfl rfl ?_
  refine ae_iconst (v := (-1)) (q := 7) dX5_reset_6 (by decide) rfl ?_
  refine ae_putI (q := 10) dX5_reset_7 fl_X5_15 rfl rfl rfl (h.s lp0 tp0) (h.l lp0) rfl ?_
  refine ae_gen (fun G2 g2 => ?_)
  have h : jc N B 320 G2 := by rw [g2]; exact h.w tp0 (by decide) (fun q => absurd q.1 (by decide)) (mk_inr (lo := (-1)) (hi := 47) (by decide) (by decide))
  refine ae_vret dX5_reset_10 rfl ?_
  exact ⟨rfl, h⟩
set_option maxRecDepth 100000 in
set_option maxHeartbeats 4000000 in
theorem c_X5_taskAt {ox : List (Nat × (Nat → Int32))} {d N : Nat} {B H : am_H} {p0 : Nat} {a1 : Int32}  (h : jc N B 320 H) (lp0 : p0 < 320) (tp0 : ty p0 = 14) : am_DB 0 ox d yX5_taskAt mX5_taskAt [.ref p0, .int a1] H (fun o H1 => (∃ v : Int32, o = .inl (some (.int v)) ∧ (-1) ≤ v.toInt ∧ v.toInt ≤ 47) ∧ H1 = H) := by
  refine ae_enter rfl rfl rfl rfl (Nat.le_of_ble_eq_true rfl) ?_
  show am_EB 0 ox d mX5_taskAt 0 [(0, .ref p0), (1, .int a1)] [] H _
  refine ae_iload_n (q := 1) dX5_taskAt_0 rfl rfl rfl ?_
  refine ae_if_lt (t := 21) (q := 4) dX5_taskAt_1 (by decide) rfl (fun c1 => ?_) (fun c1 => ?_)
  · have c1 := i_lt (a := a1.toInt) (b := 0) rfl (by decide) c1
    refine ae_iconst (v := (-1)) (q := 22) dX5_taskAt_21 (by decide) rfl ?_
    refine ae_iret dX5_taskAt_22 rfl rfl ?_
    exact ⟨⟨_, rfl, (by decide), (by decide)⟩, rfl⟩
  · have c1 := i_nlt (a := a1.toInt) (b := 0) rfl (by decide) c1
    refine ae_iload_n (q := 5) dX5_taskAt_4 rfl rfl rfl ?_
    refine ae_aload_n (q := 6) dX5_taskAt_5 rfl rfl rfl ?_
    refine ae_getI (q := 9) dX5_taskAt_6 fl_X5_19 rfl (h.s lp0 tp0) (h.l lp0) rfl ?_
    obtain ⟨x2, e2, u2, v2⟩ := rdi (h.i lp0 tp0 (k := 1) (p := (0, 48)) rfl)
    refine ae_eqi e2 ?_
    refine ae_icmp_ge (t := 21) (q := 12) dX5_taskAt_9 (by decide) rfl (fun c3 => ?_) (fun c3 => ?_)
    · have c3 := i_le (a := x2.toInt) (b := a1.toInt) rfl rfl c3
      refine ae_iconst (v := (-1)) (q := 22) dX5_taskAt_21 (by decide) rfl ?_
      refine ae_iret dX5_taskAt_22 rfl rfl ?_
      exact ⟨⟨_, rfl, (by decide), (by decide)⟩, rfl⟩
    · have c3 := i_nle (a := x2.toInt) (b := a1.toInt) rfl rfl c3
      refine ae_aload_n (q := 13) dX5_taskAt_12 rfl rfl rfl ?_
      obtain ⟨b4, r4, l4, t4⟩ := h.r lp0 tp0 (k := 0) (T' := 15) rfl (by decide)
      refine ae_getR (q := 16) dX5_taskAt_13 fl_X5_9 rfl (h.s lp0 tp0) (h.l lp0) r4 rfl ?_
      refine ae_iload_n (q := 17) dX5_taskAt_16 rfl rfl rfl ?_
      refine ae_iald (q := 18) dX5_taskAt_17 (h.s l4 t4) (h.l l4) (vin (by omega) (by omega)) rfl ?_
      obtain ⟨x5, e5, u5, v5⟩ := rdi (h.i l4 t4 (k := a1.toNatClampNeg) (p := (0, 47)) rfl)
      refine ae_eqi e5 ?_
      refine ae_goto (q := 22) dX5_taskAt_18 (by decide) ?_
      refine ae_iret dX5_taskAt_22 rfl rfl ?_
      exact ⟨⟨_, rfl, (by omega), (by omega)⟩, rfl⟩
set_option maxRecDepth 100000 in
set_option maxHeartbeats 4000000 in
theorem c_X5_append {ox : List (Nat × (Nat → Int32))} {d N : Nat} {B H : am_H} {p0 : Nat} {a1 : Int32}  (h : jc N B 320 H) (lp0 : p0 < 320) (tp0 : ty p0 = 14) (u_1 : 0 ≤ a1.toInt) (v_1 : a1.toInt ≤ 47) : am_DB 0 ox d yX5_append mX5_append [.ref p0, .int a1] H (fun o H1 => o = .inl none ∧ jc N B 320 H1) := by
  refine ae_enter rfl rfl rfl rfl (Nat.le_of_ble_eq_true rfl) ?_
  show am_EB 0 ox d mX5_append 0 [(0, .ref p0), (1, .int a1)] [] H _
  refine ae_aload_n (q := 1) dX5_append_0 rfl rfl rfl ?_
  refine ae_getI (q := 4) dX5_append_1 fl_X5_19 rfl (h.s lp0 tp0) (h.l lp0) rfl ?_
  obtain ⟨x1, e1, u1, v1⟩ := rdi (h.i lp0 tp0 (k := 1) (p := (0, 48)) rfl)
  refine ae_eqi e1 ?_
  refine ae_bipush (v := 48) (q := 6) dX5_append_4 (by decide) rfl ?_
  refine ae_icmp_ge (t := 29) (q := 9) dX5_append_6 (by decide) rfl (fun c2 => ?_) (fun c2 => ?_)
  · have c2 := i_le (a := 48) (b := x1.toInt) (by decide) rfl c2
    refine ae_vret dX5_append_29 rfl ?_
    exact ⟨rfl, h⟩
  · have c2 := i_nle (a := 48) (b := x1.toInt) (by decide) rfl c2
    refine ae_aload_n (q := 10) dX5_append_9 rfl rfl rfl ?_
    obtain ⟨b3, r3, l3, t3⟩ := h.r lp0 tp0 (k := 0) (T' := 15) rfl (by decide)
    refine ae_getR (q := 13) dX5_append_10 fl_X5_9 rfl (h.s lp0 tp0) (h.l lp0) r3 rfl ?_
    refine ae_aload_n (q := 14) dX5_append_13 rfl rfl rfl ?_
    refine ae_getI (q := 17) dX5_append_14 fl_X5_19 rfl (h.s lp0 tp0) (h.l lp0) rfl ?_
    refine ae_eqi e1 ?_
    refine ae_iload_n (q := 18) dX5_append_17 rfl rfl rfl ?_
    refine ae_iast (q := 19) dX5_append_18 (h.s l3 t3) (h.l l3) (vin (by omega) (by omega)) rfl ?_
    refine ae_gen (fun G4 g4 => ?_)
    have h : jc N B 320 G4 := by rw [g4]; exact h.w t3 (by decide) (fun q => absurd q.1 (by decide)) (mk_inr (lo := 0) (hi := 47) (by omega) (by omega))
    refine ae_aload_n (q := 20) dX5_append_19 rfl rfl rfl ?_
    refine ae_dup (q := 21) dX5_append_20 rfl rfl ?_
    refine ae_getI (q := 24) dX5_append_21 fl_X5_19 rfl (h.s lp0 tp0) (h.l lp0) rfl ?_
    have m5 : am_gi G4 p0 1 = x1 := by rw [g4]; exact gi_si e1 (fun q => absurd (tp0.symm.trans ((congrArg ty q.1).trans t3)) (by decide))
    refine ae_eqi m5 ?_
    refine ae_iconst (v := 1) (q := 25) dX5_append_24 (by decide) rfl ?_
    refine ae_iadd (q := 26) dX5_append_25 rfl ?_
    obtain ⟨x6, e6⟩ : ∃ z, x1 + 1 = z := ⟨_, rfl⟩
    refine ae_eqi e6 ?_
    have f6 : x6.toInt = x1.toInt + 1 := by rw [← e6]; exact i_add rfl (by decide) (by omega) (by omega)
    refine ae_putI (q := 29) dX5_append_26 fl_X5_19 rfl rfl rfl (h.s lp0 tp0) (h.l lp0) rfl ?_
    refine ae_gen (fun G7 g7 => ?_)
    have h : jc N B 320 G7 := by rw [g7]; exact h.w tp0 (by decide) (fun q => absurd q.1 (by decide)) (mk_inr (lo := 0) (hi := 48) (by omega) (by omega))
    refine ae_vret dX5_append_29 rfl ?_
    exact ⟨rfl, h⟩
set_option maxRecDepth 100000 in
set_option maxHeartbeats 4000000 in
theorem c_X5_takeLast {ox : List (Nat × (Nat → Int32))} {d N : Nat} {B H : am_H} {p0 : Nat}  (h : jc N B 320 H) (lp0 : p0 < 320) (tp0 : ty p0 = 14) : am_DB 0 ox (d + 1) yX5_takeLast mX5_takeLast [.ref p0] H (fun o H1 => (∃ v : Int32, o = .inl (some (.int v)) ∧ (-1) ≤ v.toInt ∧ v.toInt ≤ 47) ∧ jc N B 320 H1) := by
  refine ae_enter rfl rfl rfl rfl (Nat.le_of_ble_eq_true rfl) ?_
  show am_EB 0 ox (d + 1) mX5_takeLast 0 [(0, .ref p0)] [] H _
  refine ae_aload_n (q := 1) dX5_takeLast_0 rfl rfl rfl ?_
  refine ae_aload_n (q := 2) dX5_takeLast_1 rfl rfl rfl ?_
  refine ae_getI (q := 5) dX5_takeLast_2 fl_X5_19 rfl (h.s lp0 tp0) (h.l lp0) rfl ?_
  obtain ⟨x1, e1, u1, v1⟩ := rdi (h.i lp0 tp0 (k := 1) (p := (0, 48)) rfl)
  refine ae_eqi e1 ?_
  refine ae_iconst (v := 1) (q := 6) dX5_takeLast_5 (by decide) rfl ?_
  refine ae_isub (q := 7) dX5_takeLast_6 rfl ?_
  obtain ⟨x2, e2⟩ : ∃ z, x1 - 1 = z := ⟨_, rfl⟩
  refine ae_eqi e2 ?_
  have f2 : x2.toInt = x1.toInt - 1 := by rw [← e2]; exact i_sub rfl (by decide) (by omega) (by omega)
  refine ae_callV (ci := 5) (as := [.int x2]) (b := p0) (st := []) (q := 10) dX5_takeLast_7 (c_X5_taskAt (N := N) (d := d) h lp0 tp0) myX5_taskAt lk_X5_22 im_X5_taskAt se_X5_taskAt rfl (by decide) (h.s lp0 tp0) (h.l lp0) rfl rfl (Nat.le_of_ble_eq_true rfl) rfl (fun o H1 hh => ⟨_, hh.1.choose_spec.1⟩) (fun vv G3 hv => ?_)
  obtain ⟨⟨x3, o3, u3, v3⟩, z3⟩ := hv
  cases o3
  have z3 := z3.symm
  subst z3
  refine ⟨Or.inl rfl, ?_⟩
  refine ae_istore_n (lv' := [(1, .int x3), (0, .ref p0)]) (q := 11) dX5_takeLast_10 rfl (by decide) rfl rfl ?_
  refine ae_aload_n (q := 12) dX5_takeLast_11 rfl rfl rfl ?_
  refine ae_getI (q := 15) dX5_takeLast_12 fl_X5_19 rfl (h.s lp0 tp0) (h.l lp0) rfl ?_
  refine ae_eqi e1 ?_
  refine ae_if_le (t := 28) (q := 18) dX5_takeLast_15 (by decide) rfl (fun c4 => ?_) (fun c4 => ?_)
  · have c4 := i_le (a := x1.toInt) (b := 0) rfl (by decide) c4
    refine ae_iload_n (q := 29) dX5_takeLast_28 rfl rfl rfl ?_
    refine ae_iret dX5_takeLast_29 rfl rfl ?_
    exact ⟨⟨_, rfl, (by omega), (by omega)⟩, h⟩
  · have c4 := i_nle (a := x1.toInt) (b := 0) rfl (by decide) c4
    refine ae_aload_n (q := 19) dX5_takeLast_18 rfl rfl rfl ?_
    refine ae_dup (q := 20) dX5_takeLast_19 rfl rfl ?_
    refine ae_getI (q := 23) dX5_takeLast_20 fl_X5_19 rfl (h.s lp0 tp0) (h.l lp0) rfl ?_
    refine ae_eqi e1 ?_
    refine ae_iconst (v := 1) (q := 24) dX5_takeLast_23 (by decide) rfl ?_
    refine ae_isub (q := 25) dX5_takeLast_24 rfl ?_
    refine ae_eqi e2 ?_
    refine ae_putI (q := 28) dX5_takeLast_25 fl_X5_19 rfl rfl rfl (h.s lp0 tp0) (h.l lp0) rfl ?_
    refine ae_gen (fun G5 g5 => ?_)
    have h : jc N B 320 G5 := by rw [g5]; exact h.w tp0 (by decide) (fun q => absurd q.1 (by decide)) (mk_inr (lo := 0) (hi := 48) (by omega) (by omega))
    refine ae_iload_n (q := 29) dX5_takeLast_28 rfl rfl rfl ?_
    refine ae_iret dX5_takeLast_29 rfl rfl ?_
    exact ⟨⟨_, rfl, (by omega), (by omega)⟩, h⟩
set_option maxRecDepth 100000 in
set_option maxHeartbeats 4000000 in
theorem c_X5_takeFirst {ox : List (Nat × (Nat → Int32))} {d N : Nat} {B H : am_H} {p0 : Nat}  (h : jc N B 320 H) (lp0 : p0 < 320) (tp0 : ty p0 = 14) : am_DB 0 ox (d + 1) yX5_takeFirst mX5_takeFirst [.ref p0] H (fun o H1 => (∃ v : Int32, o = .inl (some (.int v)) ∧ (-1) ≤ v.toInt ∧ v.toInt ≤ 47) ∧ jc N B 320 H1) := by
  refine ae_enter rfl rfl rfl rfl (Nat.le_of_ble_eq_true rfl) ?_
  show am_EB 0 ox (d + 1) mX5_takeFirst 0 [(0, .ref p0)] [] H _
  refine ae_aload_n (q := 1) dX5_takeFirst_0 rfl rfl rfl ?_
  refine ae_iconst (v := 0) (q := 2) dX5_takeFirst_1 (by decide) rfl ?_
  refine ae_callV (ci := 5) (as := [.int 0]) (b := p0) (st := []) (q := 5) dX5_takeFirst_2 (c_X5_taskAt (N := N) (d := d) h lp0 tp0) myX5_taskAt lk_X5_22 im_X5_taskAt se_X5_taskAt rfl (by decide) (h.s lp0 tp0) (h.l lp0) rfl rfl (Nat.le_of_ble_eq_true rfl) rfl (fun o H1 hh => ⟨_, hh.1.choose_spec.1⟩) (fun vv G1 hv => ?_)
  obtain ⟨⟨x1, o1, u1, v1⟩, z1⟩ := hv
  cases o1
  have z1 := z1.symm
  subst z1
  refine ⟨Or.inl rfl, ?_⟩
  refine ae_istore_n (lv' := [(1, .int x1), (0, .ref p0)]) (q := 6) dX5_takeFirst_5 rfl (by decide) rfl rfl ?_
  refine ae_aload_n (q := 7) dX5_takeFirst_6 rfl rfl rfl ?_
  refine ae_getI (q := 10) dX5_takeFirst_7 fl_X5_19 rfl (h.s lp0 tp0) (h.l lp0) rfl ?_
  obtain ⟨x2, e2, u2, v2⟩ := rdi (h.i lp0 tp0 (k := 1) (p := (0, 48)) rfl)
  refine ae_eqi e2 ?_
  refine ae_if_le (t := 40) (q := 13) dX5_takeFirst_10 (by decide) rfl (fun c3 => ?_) (fun c3 => ?_)
  · have c3 := i_le (a := x2.toInt) (b := 0) rfl (by decide) c3
    refine ae_iload_n (q := 41) dX5_takeFirst_40 rfl rfl rfl ?_
    refine ae_iret dX5_takeFirst_41 rfl rfl ?_
    exact ⟨⟨_, rfl, (by omega), (by omega)⟩, h⟩
  · have c3 := i_nle (a := x2.toInt) (b := 0) rfl (by decide) c3
    refine ae_aload_n (q := 14) dX5_takeFirst_13 rfl rfl rfl ?_
    refine ae_dup (q := 15) dX5_takeFirst_14 rfl rfl ?_
    refine ae_getI (q := 18) dX5_takeFirst_15 fl_X5_19 rfl (h.s lp0 tp0) (h.l lp0) rfl ?_
    refine ae_eqi e2 ?_
    refine ae_iconst (v := 1) (q := 19) dX5_takeFirst_18 (by decide) rfl ?_
    refine ae_isub (q := 20) dX5_takeFirst_19 rfl ?_
    obtain ⟨x4, e4⟩ : ∃ z, x2 - 1 = z := ⟨_, rfl⟩
    refine ae_eqi e4 ?_
    have f4 : x4.toInt = x2.toInt - 1 := by rw [← e4]; exact i_sub rfl (by decide) (by omega) (by omega)
    refine ae_putI (q := 23) dX5_takeFirst_20 fl_X5_19 rfl rfl rfl (h.s lp0 tp0) (h.l lp0) rfl ?_
    refine ae_gen (fun G5 g5 => ?_)
    have h : jc N B 320 G5 := by rw [g5]; exact h.w tp0 (by decide) (fun q => absurd q.1 (by decide)) (mk_inr (lo := 0) (hi := 48) (by omega) (by omega))
    refine ae_aload_n (q := 24) dX5_takeFirst_23 rfl rfl rfl ?_
    obtain ⟨b6, r6, l6, t6⟩ := h.r lp0 tp0 (k := 0) (T' := 15) rfl (by decide)
    refine ae_getR (q := 27) dX5_takeFirst_24 fl_X5_9 rfl (h.s lp0 tp0) (h.l lp0) r6 rfl ?_
    refine ae_iconst (v := 1) (q := 28) dX5_takeFirst_27 (by decide) rfl ?_
    refine ae_aload_n (q := 29) dX5_takeFirst_28 rfl rfl rfl ?_
    refine ae_getR (q := 32) dX5_takeFirst_29 fl_X5_9 rfl (h.s lp0 tp0) (h.l lp0) r6 rfl ?_
    refine ae_iconst (v := 0) (q := 33) dX5_takeFirst_32 (by decide) rfl ?_
    refine ae_aload_n (q := 34) dX5_takeFirst_33 rfl rfl rfl ?_
    refine ae_getI (q := 37) dX5_takeFirst_34 fl_X5_19 rfl (h.s lp0 tp0) (h.l lp0) rfl ?_
    refine ae_eqi (show am_gi G5 p0 1 = x4 by rw [g5]; exact gi_set) ?_
    refine ae_copyi (q := 40) dX5_takeFirst_37 (Nat.succ_le_succ (Nat.zero_le _)) aw_446 aw_448 aw_447 aw_15 (h.s l6 t6) (h.s l6 t6) (h.l l6) (h.l l6) (by decide) (by decide) (fun q0 => by have q1 := i_lt (a := x4.toInt) (b := 0) rfl (by decide) q0; omega) (show (1 : Int32).toNatClampNeg + x4.toNatClampNeg ≤ 48 from by have q1 := ixn (n := 48) (show 0 ≤ x4.toInt by omega) (by omega); rw [show (1 : Int32).toNatClampNeg = 1 from by decide]; have q2 : x4.toNatClampNeg = x4.toInt.toNat := rfl; omega) (show (0 : Int32).toNatClampNeg + x4.toNatClampNeg ≤ 48 from by rw [show (0 : Int32).toNatClampNeg = 0 from by decide]; have q2 : x4.toNatClampNeg = x4.toInt.toNat := rfl; omega) (Nat.le_of_ble_eq_true rfl) rfl ?_
    refine ae_gen (fun G7 g7 => ?_)
    have h : jc N B 320 G7 := by rw [g7]; exact h.wf t6 (by decide) (by decide) (fun y => pif (h.1.i l6 t6 rfl) (h.1.i l6 t6 rfl))
    refine ae_iload_n (q := 41) dX5_takeFirst_40 rfl rfl rfl ?_
    refine ae_iret dX5_takeFirst_41 rfl rfl ?_
    exact ⟨⟨_, rfl, (by omega), (by omega)⟩, h⟩
set_option maxRecDepth 100000 in
set_option maxHeartbeats 4000000 in
theorem c_X2_isBegun {ox : List (Nat × (Nat → Int32))} {d N : Nat} {B H : am_H} {p0 : Nat}  (h : jc N B 320 H) (lp0 : p0 < 320) (tp0 : ty p0 = 5) : am_DB 0 ox d yX2_isBegun mX2_isBegun [.ref p0] H (fun o H1 => (∃ v : Int32, o = .inl (some (.int v)) ∧ 0 ≤ v.toInt ∧ v.toInt ≤ 1) ∧ H1 = H) := by
  refine ae_enter rfl rfl rfl rfl (Nat.le_of_ble_eq_true rfl) ?_
  show am_EB 0 ox d mX2_isBegun 0 [(0, .ref p0)] [] H _
  refine ae_aload_n (q := 1) dX2_isBegun_0 rfl rfl rfl ?_
  refine ae_getI (q := 4) dX2_isBegun_1 fl_X2_64 rfl (h.s lp0 tp0) (h.l lp0) rfl ?_
  obtain ⟨x1, e1, u1, v1⟩ := rdi (h.i lp0 tp0 (k := 2) (p := (0, 48)) rfl)
  refine ae_eqi e1 ?_
  refine ae_if_le (t := 11) (q := 7) dX2_isBegun_4 (by decide) rfl (fun c2 => ?_) (fun c2 => ?_)
  · have c2 := i_le (a := x1.toInt) (b := 0) rfl (by decide) c2
    refine ae_iconst (v := 0) (q := 12) dX2_isBegun_11 (by decide) rfl ?_
    refine ae_iret dX2_isBegun_12 rfl rfl ?_
    exact ⟨⟨_, rfl, (by decide), (by decide)⟩, rfl⟩
  · have c2 := i_nle (a := x1.toInt) (b := 0) rfl (by decide) c2
    refine ae_iconst (v := 1) (q := 8) dX2_isBegun_7 (by decide) rfl ?_
    refine ae_goto (q := 12) dX2_isBegun_8 (by decide) ?_
    refine ae_iret dX2_isBegun_12 rfl rfl ?_
    exact ⟨⟨_, rfl, (by decide), (by decide)⟩, rfl⟩
set_option maxRecDepth 100000 in
set_option maxHeartbeats 4000000 in
theorem c_X2_isOver {ox : List (Nat × (Nat → Int32))} {d N : Nat} {B H : am_H} {p0 : Nat}  (h : jc N B 320 H) (lp0 : p0 < 320) (tp0 : ty p0 = 5) : am_DB 0 ox (d + 1) yX2_isOver mX2_isOver [.ref p0] H (fun o H1 => (∃ v : Int32, o = .inl (some (.int v)) ∧ 0 ≤ v.toInt ∧ v.toInt ≤ 1) ∧ H1 = H) := by
  refine ae_enter rfl rfl rfl rfl (Nat.le_of_ble_eq_true rfl) ?_
  show am_EB 0 ox (d + 1) mX2_isOver 0 [(0, .ref p0)] [] H _
  refine ae_aload_n (q := 1) dX2_isOver_0 rfl rfl rfl ?_
  refine ae_callV (ci := 2) (as := []) (b := p0) (st := []) (q := 4) dX2_isOver_1 (c_X2_isBegun (N := N) (d := d) h lp0 tp0) myX2_isBegun lk_X2_97 im_X2_isBegun se_X2_isBegun rfl (by decide) (h.s lp0 tp0) (h.l lp0) rfl rfl (Nat.le_of_ble_eq_true rfl) rfl (fun o H1 hh => ⟨_, hh.1.choose_spec.1⟩) (fun vv G1 hv => ?_)
  obtain ⟨⟨x1, o1, u1, v1⟩, z1⟩ := hv
  cases o1
  have z1 := z1.symm
  subst z1
  refine ⟨Or.inl rfl, ?_⟩
  refine ae_if_eq (t := 21) (q := 7) dX2_isOver_4 (by decide) rfl (fun c2 => ?_) (fun c2 => ?_)
  · have c2 := i_eq (a := x1.toInt) (b := 0) rfl (by decide) c2
    refine ae_iconst (v := 0) (q := 22) dX2_isOver_21 (by decide) rfl ?_
    refine ae_iret dX2_isOver_22 rfl rfl ?_
    exact ⟨⟨_, rfl, (by decide), (by decide)⟩, rfl⟩
  · have c2 := i_ne (a := x1.toInt) (b := 0) rfl (by decide) c2
    refine ae_aload_n (q := 8) dX2_isOver_7 rfl rfl rfl ?_
    obtain ⟨b3, r3, l3, t3⟩ := h.r lp0 tp0 (k := 3) (T' := 6) rfl (by decide)
    refine ae_getR (q := 11) dX2_isOver_8 fl_X2_18 rfl (h.s lp0 tp0) (h.l lp0) r3 rfl ?_
    refine ae_getI (q := 14) dX2_isOver_11 fl_X2_90 rfl (h.s l3 t3) (h.l l3) rfl ?_
    obtain ⟨x4, e4⟩ : ∃ x, am_gi H b3 2 = x := ⟨_, rfl⟩
    refine ae_eqi e4 ?_
    refine ae_if_ne (t := 21) (q := 17) dX2_isOver_14 (by decide) rfl (fun c5 => ?_) (fun c5 => ?_)
    · have c5 := i_ne (a := x4.toInt) (b := 0) rfl (by decide) c5
      refine ae_iconst (v := 0) (q := 22) dX2_isOver_21 (by decide) rfl ?_
      refine ae_iret dX2_isOver_22 rfl rfl ?_
      exact ⟨⟨_, rfl, (by decide), (by decide)⟩, rfl⟩
    · have c5 := i_eq (a := x4.toInt) (b := 0) rfl (by decide) c5
      refine ae_iconst (v := 1) (q := 18) dX2_isOver_17 (by decide) rfl ?_
      refine ae_goto (q := 22) dX2_isOver_18 (by decide) ?_
      refine ae_iret dX2_isOver_22 rfl rfl ?_
      exact ⟨⟨_, rfl, (by decide), (by decide)⟩, rfl⟩
set_option maxRecDepth 100000 in
set_option maxHeartbeats 4000000 in
theorem c_X2_isStuck {ox : List (Nat × (Nat → Int32))} {d N : Nat} {B H : am_H} {p0 : Nat}  (h : jc N B 320 H) (lp0 : p0 < 320) (tp0 : ty p0 = 5) : am_DB 0 ox (d + 2) yX2_isStuck mX2_isStuck [.ref p0] H (fun o H1 => (∃ v : Int32, o = .inl (some (.int v)) ∧ 0 ≤ v.toInt ∧ v.toInt ≤ 1) ∧ H1 = H) := by
  refine ae_enter rfl rfl rfl rfl (Nat.le_of_ble_eq_true rfl) ?_
  show am_EB 0 ox (d + 2) mX2_isStuck 0 [(0, .ref p0)] [] H _
  refine ae_iconst (v := 0) (q := 1) dX2_isStuck_0 (by decide) rfl ?_
  refine ae_istore_n (lv' := [(1, .int 0), (0, .ref p0)]) (q := 2) dX2_isStuck_1 rfl (by decide) rfl rfl ?_
  have lab2 : ∀ (n1 : Nat) (y1_1 : Int32), 0 ≤ y1_1.toInt → y1_1.toInt ≤ 3 → 3 - y1_1.toInt ≤ (n1 : Int) → am_EB 0 ox (d + 2) mX2_isStuck 2 [(1, .int y1_1), (0, .ref p0)] [] H (fun o H1 => (∃ v : Int32, o = .inl (some (.int v)) ∧ 0 ≤ v.toInt ∧ v.toInt ≤ 1) ∧ H1 = H) := by
    intro n1
    induction n1 using Nat.strongRecOn with
    | ind n1 ih1 =>
      intro y1_1 p1_1 q1_1 mm1
      refine ae_iload_n (q := 3) dX2_isStuck_2 rfl rfl rfl ?_
      refine ae_aload_n (q := 4) dX2_isStuck_3 rfl rfl rfl ?_
      refine ae_getI (q := 7) dX2_isStuck_4 fl_X2_56 rfl (h.s lp0 tp0) (h.l lp0) rfl ?_
      obtain ⟨x2, e2, u2, v2⟩ := rdi (h.i lp0 tp0 (k := 6) (p := (0, 3)) rfl)
      refine ae_eqi e2 ?_
      refine ae_icmp_ge (t := 43) (q := 10) dX2_isStuck_7 (by decide) rfl (fun c3 => ?_) (fun c3 => ?_)
      · have c3 := i_le (a := x2.toInt) (b := y1_1.toInt) rfl rfl c3
        refine ae_aload_n (q := 44) dX2_isStuck_43 rfl rfl rfl ?_
        refine ae_callV (ci := 2) (as := []) (b := p0) (st := []) (q := 47) dX2_isStuck_44 (c_X2_isBegun (N := N) (d := d + 1) h lp0 tp0) myX2_isBegun lk_X2_97 im_X2_isBegun se_X2_isBegun rfl (by decide) (h.s lp0 tp0) (h.l lp0) rfl rfl (Nat.le_of_ble_eq_true rfl) rfl (fun o H1 hh => ⟨_, hh.1.choose_spec.1⟩) (fun vv G4 hv => ?_)
        obtain ⟨⟨x4, o4, u4, v4⟩, z4⟩ := hv
        cases o4
        have z4 := z4.symm
        subst z4
        refine ⟨Or.inl rfl, ?_⟩
        refine ae_if_eq (t := 61) (q := 50) dX2_isStuck_47 (by decide) rfl (fun c5 => ?_) (fun c5 => ?_)
        · have c5 := i_eq (a := x4.toInt) (b := 0) rfl (by decide) c5
          refine ae_iconst (v := 0) (q := 62) dX2_isStuck_61 (by decide) rfl ?_
          refine ae_iret dX2_isStuck_62 rfl rfl ?_
          exact ⟨⟨_, rfl, (by decide), (by decide)⟩, rfl⟩
        · have c5 := i_ne (a := x4.toInt) (b := 0) rfl (by decide) c5
          refine ae_aload_n (q := 51) dX2_isStuck_50 rfl rfl rfl ?_
          refine ae_callV (ci := 2) (as := []) (b := p0) (st := []) (q := 54) dX2_isStuck_51 (c_X2_isOver (N := N) (d := d) h lp0 tp0) myX2_isOver lk_X2_107 im_X2_isOver se_X2_isOver rfl (by decide) (h.s lp0 tp0) (h.l lp0) rfl rfl (Nat.le_of_ble_eq_true rfl) rfl (fun o H1 hh => ⟨_, hh.1.choose_spec.1⟩) (fun vv G6 hv => ?_)
          obtain ⟨⟨x6, o6, u6, v6⟩, z6⟩ := hv
          cases o6
          have z6 := z6.symm
          subst z6
          refine ⟨Or.inl rfl, ?_⟩
          refine ae_if_ne (t := 61) (q := 57) dX2_isStuck_54 (by decide) rfl (fun c7 => ?_) (fun c7 => ?_)
          · have c7 := i_ne (a := x6.toInt) (b := 0) rfl (by decide) c7
            refine ae_iconst (v := 0) (q := 62) dX2_isStuck_61 (by decide) rfl ?_
            refine ae_iret dX2_isStuck_62 rfl rfl ?_
            exact ⟨⟨_, rfl, (by decide), (by decide)⟩, rfl⟩
          · have c7 := i_eq (a := x6.toInt) (b := 0) rfl (by decide) c7
            refine ae_iconst (v := 1) (q := 58) dX2_isStuck_57 (by decide) rfl ?_
            refine ae_goto (q := 62) dX2_isStuck_58 (by decide) ?_
            refine ae_iret dX2_isStuck_62 rfl rfl ?_
            exact ⟨⟨_, rfl, (by decide), (by decide)⟩, rfl⟩
      · have c3 := i_nle (a := x2.toInt) (b := y1_1.toInt) rfl rfl c3
        refine ae_aload_n (q := 11) dX2_isStuck_10 rfl rfl rfl ?_
        obtain ⟨b8, r8, l8, t8⟩ := h.r lp0 tp0 (k := 5) (T' := 13) rfl (by decide)
        refine ae_getR (q := 14) dX2_isStuck_11 fl_X2_40 rfl (h.s lp0 tp0) (h.l lp0) r8 rfl ?_
        refine ae_iload_n (q := 15) dX2_isStuck_14 rfl rfl rfl ?_
        obtain ⟨b9, r9, l9, t9⟩ := h.r l8 t8 (k := y1_1.toNatClampNeg) (T' := 14) (if_pos (ixn (by omega) (by omega))) (by decide)
        refine ae_aald (q := 16) dX2_isStuck_15 (show am_sh H b8 = (103 + 5, 3) from h.s l8 t8) (show am_kinds[7]? = some (103 + 5, .object RX5) from rfl) (h.l l8) (vin (by omega) (by omega)) r9 rfl ?_
        refine ae_getI (q := 19) dX2_isStuck_16 fl_X2_101 rfl (h.s l9 t9) (h.l l9) rfl ?_
        obtain ⟨x10, e10, u10, v10⟩ := rdi (h.i l9 t9 (k := 2) (p := ((-1), 47)) rfl)
        refine ae_eqi e10 ?_
        refine ae_iconst (v := (-1)) (q := 20) dX2_isStuck_19 (by decide) rfl ?_
        refine ae_icmp_ne (t := 35) (q := 23) dX2_isStuck_20 (by decide) rfl (fun c11 => ?_) (fun c11 => ?_)
        · have c11 := i_ne (a := x10.toInt) (b := (-1)) rfl (by decide) c11
          refine ae_iconst (v := 0) (q := 36) dX2_isStuck_35 (by decide) rfl ?_
          refine ae_iret dX2_isStuck_36 rfl rfl ?_
          exact ⟨⟨_, rfl, (by decide), (by decide)⟩, rfl⟩
        · have c11 := i_eq (a := x10.toInt) (b := (-1)) rfl (by decide) c11
          refine ae_aload_n (q := 24) dX2_isStuck_23 rfl rfl rfl ?_
          refine ae_getR (q := 27) dX2_isStuck_24 fl_X2_40 rfl (h.s lp0 tp0) (h.l lp0) r8 rfl ?_
          refine ae_iload_n (q := 28) dX2_isStuck_27 rfl rfl rfl ?_
          refine ae_aald (q := 29) dX2_isStuck_28 (show am_sh H b8 = (103 + 5, 3) from h.s l8 t8) (show am_kinds[7]? = some (103 + 5, .object RX5) from rfl) (h.l l8) (vin (by omega) (by omega)) r9 rfl ?_
          refine ae_getI (q := 32) dX2_isStuck_29 fl_X2_104 rfl (h.s l9 t9) (h.l l9) rfl ?_
          obtain ⟨x12, e12, u12, v12⟩ := rdi (h.i l9 t9 (k := 1) (p := (0, 48)) rfl)
          refine ae_eqi e12 ?_
          refine ae_if_le (t := 37) (q := 35) dX2_isStuck_32 (by decide) rfl (fun c13 => ?_) (fun c13 => ?_)
          · have c13 := i_le (a := x12.toInt) (b := 0) rfl (by decide) c13
            obtain ⟨x14, e14⟩ : ∃ z, y1_1 + Int32.ofInt 1 = z := ⟨_, rfl⟩
            have f14 : x14.toInt = y1_1.toInt + 1 := by rw [← e14]; exact i_add rfl (by decide) (by omega) (by omega)
            refine ae_iinc (v := x14) (lv' := [(1, .int x14), (0, .ref p0)]) (q := 40) dX2_isStuck_37 rfl e14 (by decide) rfl rfl ?_
            refine ae_goto (q := 2) dX2_isStuck_40 (by decide) ?_
            exact ae_lv (lv' := [(1, .int x14), (0, .ref p0)]) ⟨rfl, rfl, trivial⟩ (ih1 (n1 - 1) (by omega) x14 (by omega) (by omega) (by omega))
          · have c13 := i_nle (a := x12.toInt) (b := 0) rfl (by decide) c13
            refine ae_iconst (v := 0) (q := 36) dX2_isStuck_35 (by decide) rfl ?_
            refine ae_iret dX2_isStuck_36 rfl rfl ?_
            exact ⟨⟨_, rfl, (by decide), (by decide)⟩, rfl⟩
  exact ae_lv (lv' := [(1, .int 0), (0, .ref p0)]) ⟨rfl, rfl, trivial⟩ (lab2 3 0 (by decide) (by decide) (show 3 - (0 : Int32).toInt ≤ _ from by rw [show (0 : Int32).toInt = 0 from by decide]; omega))
set_option maxRecDepth 100000 in
set_option maxHeartbeats 4000000 in
theorem c_X2_reset {ox : List (Nat × (Nat → Int32))} {d N : Nat} {B H : am_H} {p0 : Nat} {a1 : Int32} {a2 : Int32} (ho3 : ox[3]? = some (4, fun k => am_t3.getD k 0))  (h : jc N B 320 H) (lp0 : p0 < 320) (tp0 : ty p0 = 5) (u_1 : 1 ≤ a1.toInt) (v_1 : a1.toInt ≤ 3) (u_2 : 0 ≤ a2.toInt) (v_2 : a2.toInt ≤ 1) : am_DB 0 ox (d + 2) yX2_reset mX2_reset [.ref p0, .int a1, .int a2] H (fun o H1 => o = .inl none ∧ jc N B 320 H1) := by
  refine ae_enter rfl rfl rfl rfl (Nat.le_of_ble_eq_true rfl) ?_
  show am_EB 0 ox (d + 2) mX2_reset 0 [(0, .ref p0), (1, .int a1), (2, .int a2)] [] H _
  refine ae_aload_n (q := 1) dX2_reset_0 rfl rfl rfl ?_
  refine ae_iload_n (q := 2) dX2_reset_1 rfl rfl rfl ?_
  refine ae_putI (q := 5) dX2_reset_2 fl_X2_56 rfl rfl rfl (h.s lp0 tp0) (h.l lp0) rfl ?_
  refine ae_gen (fun G1 g1 => ?_)
  have h : jc N B 320 G1 := by rw [g1]; exact h.w tp0 (by decide) (fun q => absurd q.1 (by decide)) (mk_inr (lo := 0) (hi := 3) (by omega) (by omega))
  refine ae_aload_n (q := 6) dX2_reset_5 rfl rfl rfl ?_
  refine ae_iload_n (q := 7) dX2_reset_6 rfl rfl rfl ?_
  refine ae_putI (q := 10) dX2_reset_7 fl_X2_60 rfl (by rcases b01 (by omega : 0 ≤ a2.toInt) (by omega) with q | q <;> rw [q] <;> rfl) (by rcases b01 (by omega : 0 ≤ a2.toInt) (by omega) with q | q <;> rw [q] <;> rfl) (h.s lp0 tp0) (h.l lp0) rfl ?_
  refine ae_gen (fun G2 g2 => ?_)
  have h : jc N B 320 G2 := by rw [g2]; exact h.w tp0 (by decide) (fun q => absurd q.1 (by decide)) (mk_inr (lo := 0) (hi := 1) (by omega) (by omega))
  refine ae_aload_n (q := 11) dX2_reset_10 rfl rfl rfl ?_
  refine ae_iconst (v := 0) (q := 12) dX2_reset_11 (by decide) rfl ?_
  refine ae_putI (q := 15) dX2_reset_12 fl_X2_64 rfl rfl rfl (h.s lp0 tp0) (h.l lp0) rfl ?_
  refine ae_gen (fun G3 g3 => ?_)
  have h : jc N B 320 G3 := by rw [g3]; exact h.w tp0 (by decide) (fun q => absurd q.1 (by decide)) (mk_inr (lo := 0) (hi := 48) (by decide) (by decide))
  refine ae_aload_n (q := 16) dX2_reset_15 rfl rfl rfl ?_
  refine ae_iconst (v := 0) (q := 17) dX2_reset_16 (by decide) rfl ?_
  refine ae_putI (q := 20) dX2_reset_17 fl_X2_67 rfl rfl rfl (h.s lp0 tp0) (h.l lp0) rfl ?_
  refine ae_gen (fun G4 g4 => ?_)
  have h : jc N B 320 G4 := by rw [g4]; exact h.w tp0 (by decide) (fun q => absurd q.1 (by decide)) (mk_inr (lo := 0) (hi := ((N : Nat) : Int)) (by decide) (show (0 : Int) ≤ ((N : Nat) : Int) from by omega))
  refine ae_aload_n (q := 21) dX2_reset_20 rfl rfl rfl ?_
  refine ae_iconst (v := 0) (q := 22) dX2_reset_21 (by decide) rfl ?_
  refine ae_putI (q := 25) dX2_reset_22 fl_X2_70 rfl rfl rfl (h.s lp0 tp0) (h.l lp0) rfl ?_
  refine ae_gen (fun G5 g5 => ?_)
  have h : jc N B 320 G5 := by rw [g5]; exact h.w tp0 (by decide) (fun q => absurd q.1 (by decide)) inr_any
  refine ae_aload_n (q := 26) dX2_reset_25 rfl rfl rfl ?_
  refine ae_iconst (v := 0) (q := 27) dX2_reset_26 (by decide) rfl ?_
  refine ae_putI (q := 30) dX2_reset_27 fl_X2_73 rfl rfl rfl (h.s lp0 tp0) (h.l lp0) rfl ?_
  refine ae_gen (fun G6 g6 => ?_)
  have h : jc N B 320 G6 := by rw [g6]; exact h.w tp0 (by decide) (fun q => absurd q.1 (by decide)) inr_any
  refine ae_aload_n (q := 31) dX2_reset_30 rfl rfl rfl ?_
  refine ae_iconst (v := 0) (q := 32) dX2_reset_31 (by decide) rfl ?_
  refine ae_putI (q := 35) dX2_reset_32 fl_X2_76 rfl rfl rfl (h.s lp0 tp0) (h.l lp0) rfl ?_
  refine ae_gen (fun G7 g7 => ?_)
  have h : jc N B 320 G7 := by rw [g7]; exact h.w tp0 (by decide) (fun q => absurd q.1 (by decide)) inr_any
  refine ae_aload_n (q := 36) dX2_reset_35 rfl rfl rfl ?_
  obtain ⟨b8, r8, l8, t8⟩ := h.r lp0 tp0 (k := 3) (T' := 6) rfl (by decide)
  refine ae_getR (q := 39) dX2_reset_36 fl_X2_18 rfl (h.s lp0 tp0) (h.l lp0) r8 rfl ?_
  refine ae_iconst (v := 0) (q := 40) dX2_reset_39 (by decide) rfl ?_
  refine ae_iconst (v := 0) (q := 41) dX2_reset_40 (by decide) rfl ?_
  refine ae_callV (ci := 3) (as := [.int 0, .int 0]) (b := b8) (st := []) (q := 44) dX2_reset_41 (c_X3_open (N := N) (d := d + 1) ho3 h l8 t8 (by decide) (by decide) (by decide) (by decide)) myX3_open lk_X2_79 im_X3_open se_X3_open rfl (by decide) (h.s l8 t8) (h.l l8) rfl rfl (Nat.le_of_ble_eq_true rfl) rfl (fun o H1 hh => ⟨_, hh.1⟩) (fun vv G9 hv => ?_)
  obtain ⟨o9, z9⟩ := hv
  cases o9
  obtain ⟨z9, w9⟩ := z9
  refine ⟨Or.inl (z9.nx.trans h.nx.symm), ?_⟩
  have h : jc N B 320 G9 := z9
  clear z9
  refine ae_iconst (v := 0) (q := 45) dX2_reset_44 (by decide) rfl ?_
  refine ae_istore_n (lv' := [(3, .int 0), (0, .ref p0), (1, .int a1), (2, .int a2)]) (q := 46) dX2_reset_45 rfl (by decide) rfl rfl ?_
  refine ae_iload_n (q := 47) dX2_reset_46 rfl rfl rfl ?_
  refine ae_iconst (v := 4) (q := 48) dX2_reset_47 (by decide) rfl ?_
  refine ae_icmp_ge (t := 64) (q := 51) dX2_reset_48 (by decide) rfl (fun h => absurd h (by decide)) (fun _ => ?_)
  refine ae_aload_n (q := 52) dX2_reset_51 rfl rfl rfl ?_
  obtain ⟨b10, r10, l10, t10⟩ := h.r lp0 tp0 (k := 9) (T' := 17) rfl (by decide)
  refine ae_getR (q := 55) dX2_reset_52 fl_X2_49 rfl (h.s lp0 tp0) (h.l lp0) r10 rfl ?_
  refine ae_iload_n (q := 56) dX2_reset_55 rfl rfl rfl ?_
  refine ae_iconst (v := 0) (q := 57) dX2_reset_56 (by decide) rfl ?_
  refine ae_zast (q := 58) dX2_reset_57 (h.s l10 t10) (h.l l10) (by unfold vp_in; decide) rfl rfl ?_
  refine ae_eqH (show am_si G9 b10 (0 : Int32).toNatClampNeg 0 = am_si G9 b10 0 0 from by rw [show (0 : Int32).toNatClampNeg = 0 from by decide]) ?_
  refine ae_gen (fun G11 g11 => ?_)
  have h : jc N B 320 G11 := by rw [g11]; exact h.w t10 (by decide) (fun q => absurd q.1 (by decide)) (mk_inr (lo := 0) (hi := 1) (by decide) (by decide))
  refine ae_iinc (v := 1) (lv' := [(3, .int 1), (0, .ref p0), (1, .int a1), (2, .int a2)]) (q := 61) dX2_reset_58 rfl (by decide) (by decide) rfl rfl ?_
  refine ae_goto (q := 46) dX2_reset_61 (by decide) ?_
  refine ae_iload_n (q := 47) dX2_reset_46 rfl rfl rfl ?_
  refine ae_iconst (v := 4) (q := 48) dX2_reset_47 (by decide) rfl ?_
  refine ae_icmp_ge (t := 64) (q := 51) dX2_reset_48 (by decide) rfl (fun h => absurd h (by decide)) (fun _ => ?_)
  refine ae_aload_n (q := 52) dX2_reset_51 rfl rfl rfl ?_
  obtain ⟨b12, r12, l12, t12⟩ := h.r lp0 tp0 (k := 9) (T' := 17) rfl (by decide)
  refine ae_getR (q := 55) dX2_reset_52 fl_X2_49 rfl (h.s lp0 tp0) (h.l lp0) r12 rfl ?_
  refine ae_iload_n (q := 56) dX2_reset_55 rfl rfl rfl ?_
  refine ae_iconst (v := 0) (q := 57) dX2_reset_56 (by decide) rfl ?_
  refine ae_zast (q := 58) dX2_reset_57 (h.s l12 t12) (h.l l12) (by unfold vp_in; decide) rfl rfl ?_
  refine ae_eqH (show am_si G11 b12 (1 : Int32).toNatClampNeg 0 = am_si G11 b12 1 0 from by rw [show (1 : Int32).toNatClampNeg = 1 from by decide]) ?_
  refine ae_gen (fun G13 g13 => ?_)
  have h : jc N B 320 G13 := by rw [g13]; exact h.w t12 (by decide) (fun q => absurd q.1 (by decide)) (mk_inr (lo := 0) (hi := 1) (by decide) (by decide))
  refine ae_iinc (v := 2) (lv' := [(3, .int 2), (0, .ref p0), (1, .int a1), (2, .int a2)]) (q := 61) dX2_reset_58 rfl (by decide) (by decide) rfl rfl ?_
  refine ae_goto (q := 46) dX2_reset_61 (by decide) ?_
  refine ae_iload_n (q := 47) dX2_reset_46 rfl rfl rfl ?_
  refine ae_iconst (v := 4) (q := 48) dX2_reset_47 (by decide) rfl ?_
  refine ae_icmp_ge (t := 64) (q := 51) dX2_reset_48 (by decide) rfl (fun h => absurd h (by decide)) (fun _ => ?_)
  refine ae_aload_n (q := 52) dX2_reset_51 rfl rfl rfl ?_
  obtain ⟨b14, r14, l14, t14⟩ := h.r lp0 tp0 (k := 9) (T' := 17) rfl (by decide)
  refine ae_getR (q := 55) dX2_reset_52 fl_X2_49 rfl (h.s lp0 tp0) (h.l lp0) r14 rfl ?_
  refine ae_iload_n (q := 56) dX2_reset_55 rfl rfl rfl ?_
  refine ae_iconst (v := 0) (q := 57) dX2_reset_56 (by decide) rfl ?_
  refine ae_zast (q := 58) dX2_reset_57 (h.s l14 t14) (h.l l14) (by unfold vp_in; decide) rfl rfl ?_
  refine ae_eqH (show am_si G13 b14 (2 : Int32).toNatClampNeg 0 = am_si G13 b14 2 0 from by rw [show (2 : Int32).toNatClampNeg = 2 from by decide]) ?_
  refine ae_gen (fun G15 g15 => ?_)
  have h : jc N B 320 G15 := by rw [g15]; exact h.w t14 (by decide) (fun q => absurd q.1 (by decide)) (mk_inr (lo := 0) (hi := 1) (by decide) (by decide))
  refine ae_iinc (v := 3) (lv' := [(3, .int 3), (0, .ref p0), (1, .int a1), (2, .int a2)]) (q := 61) dX2_reset_58 rfl (by decide) (by decide) rfl rfl ?_
  refine ae_goto (q := 46) dX2_reset_61 (by decide) ?_
  refine ae_iload_n (q := 47) dX2_reset_46 rfl rfl rfl ?_
  refine ae_iconst (v := 4) (q := 48) dX2_reset_47 (by decide) rfl ?_
  refine ae_icmp_ge (t := 64) (q := 51) dX2_reset_48 (by decide) rfl (fun h => absurd h (by decide)) (fun _ => ?_)
  refine ae_aload_n (q := 52) dX2_reset_51 rfl rfl rfl ?_
  obtain ⟨b16, r16, l16, t16⟩ := h.r lp0 tp0 (k := 9) (T' := 17) rfl (by decide)
  refine ae_getR (q := 55) dX2_reset_52 fl_X2_49 rfl (h.s lp0 tp0) (h.l lp0) r16 rfl ?_
  refine ae_iload_n (q := 56) dX2_reset_55 rfl rfl rfl ?_
  refine ae_iconst (v := 0) (q := 57) dX2_reset_56 (by decide) rfl ?_
  refine ae_zast (q := 58) dX2_reset_57 (h.s l16 t16) (h.l l16) (by unfold vp_in; decide) rfl rfl ?_
  refine ae_eqH (show am_si G15 b16 (3 : Int32).toNatClampNeg 0 = am_si G15 b16 3 0 from by rw [show (3 : Int32).toNatClampNeg = 3 from by decide]) ?_
  refine ae_gen (fun G17 g17 => ?_)
  have h : jc N B 320 G17 := by rw [g17]; exact h.w t16 (by decide) (fun q => absurd q.1 (by decide)) (mk_inr (lo := 0) (hi := 1) (by decide) (by decide))
  refine ae_iinc (v := 4) (lv' := [(3, .int 4), (0, .ref p0), (1, .int a1), (2, .int a2)]) (q := 61) dX2_reset_58 rfl (by decide) (by decide) rfl rfl ?_
  refine ae_goto (q := 46) dX2_reset_61 (by decide) ?_
  refine ae_iload_n (q := 47) dX2_reset_46 rfl rfl rfl ?_
  refine ae_iconst (v := 4) (q := 48) dX2_reset_47 (by decide) rfl ?_
  refine ae_icmp_ge (t := 64) (q := 51) dX2_reset_48 (by decide) rfl (fun _ => ?_) (fun h => absurd h (by decide))
  refine ae_iconst (v := 0) (q := 65) dX2_reset_64 (by decide) rfl ?_
  refine ae_istore_n (lv' := [(3, .int 0), (0, .ref p0), (1, .int a1), (2, .int a2)]) (q := 66) dX2_reset_65 rfl (by decide) rfl rfl ?_
  refine ae_iload_n (q := 67) dX2_reset_66 rfl rfl rfl ?_
  refine ae_iconst (v := 2) (q := 68) dX2_reset_67 (by decide) rfl ?_
  refine ae_icmp_ge (t := 86) (q := 71) dX2_reset_68 (by decide) rfl (fun h => absurd h (by decide)) (fun _ => ?_)
  refine ae_aload_n (q := 72) dX2_reset_71 rfl rfl rfl ?_
  obtain ⟨b18, r18, l18, t18⟩ := h.r lp0 tp0 (k := 4) (T' := 10) rfl (by decide)
  refine ae_getR (q := 75) dX2_reset_72 fl_X2_33 rfl (h.s lp0 tp0) (h.l lp0) r18 rfl ?_
  refine ae_iload_n (q := 76) dX2_reset_75 rfl rfl rfl ?_
  obtain ⟨b19, r19, l19, t19⟩ := h.r l18 t18 (k := (0 : Int32).toNatClampNeg) (T' := 11) rfl (by decide)
  refine ae_aald (q := 77) dX2_reset_76 (show am_sh G17 b18 = (103 + 1, 2) from h.s l18 t18) (show am_kinds[4]? = some (103 + 1, .object RX1) from rfl) (h.l l18) (by unfold vp_in; decide) r19 rfl ?_
  refine ae_callV (ci := 1) (as := []) (b := b19) (st := []) (q := 80) dX2_reset_77 (c_X1_reset (N := N) (d := d) h l19 t19) myX1_reset lk_X2_83 im_X1_reset se_X1_reset rfl (by decide) (h.s l19 t19) (h.l l19) rfl rfl (Nat.le_of_ble_eq_true rfl) rfl (fun o H1 hh => ⟨_, hh.1⟩) (fun vv G20 hv => ?_)
  obtain ⟨o20, z20⟩ := hv
  cases o20
  refine ⟨Or.inl (z20.nx.trans h.nx.symm), ?_⟩
  have h : jc N B 320 G20 := z20
  clear z20
  refine ae_iinc (v := 1) (lv' := [(3, .int 1), (0, .ref p0), (1, .int a1), (2, .int a2)]) (q := 83) dX2_reset_80 rfl (by decide) (by decide) rfl rfl ?_
  refine ae_goto (q := 66) dX2_reset_83 (by decide) ?_
  refine ae_iload_n (q := 67) dX2_reset_66 rfl rfl rfl ?_
  refine ae_iconst (v := 2) (q := 68) dX2_reset_67 (by decide) rfl ?_
  refine ae_icmp_ge (t := 86) (q := 71) dX2_reset_68 (by decide) rfl (fun h => absurd h (by decide)) (fun _ => ?_)
  refine ae_aload_n (q := 72) dX2_reset_71 rfl rfl rfl ?_
  obtain ⟨b21, r21, l21, t21⟩ := h.r lp0 tp0 (k := 4) (T' := 10) rfl (by decide)
  refine ae_getR (q := 75) dX2_reset_72 fl_X2_33 rfl (h.s lp0 tp0) (h.l lp0) r21 rfl ?_
  refine ae_iload_n (q := 76) dX2_reset_75 rfl rfl rfl ?_
  obtain ⟨b22, r22, l22, t22⟩ := h.r l21 t21 (k := (1 : Int32).toNatClampNeg) (T' := 11) rfl (by decide)
  refine ae_aald (q := 77) dX2_reset_76 (show am_sh G20 b21 = (103 + 1, 2) from h.s l21 t21) (show am_kinds[4]? = some (103 + 1, .object RX1) from rfl) (h.l l21) (by unfold vp_in; decide) r22 rfl ?_
  refine ae_callV (ci := 1) (as := []) (b := b22) (st := []) (q := 80) dX2_reset_77 (c_X1_reset (N := N) (d := d) h l22 t22) myX1_reset lk_X2_83 im_X1_reset se_X1_reset rfl (by decide) (h.s l22 t22) (h.l l22) rfl rfl (Nat.le_of_ble_eq_true rfl) rfl (fun o H1 hh => ⟨_, hh.1⟩) (fun vv G23 hv => ?_)
  obtain ⟨o23, z23⟩ := hv
  cases o23
  refine ⟨Or.inl (z23.nx.trans h.nx.symm), ?_⟩
  have h : jc N B 320 G23 := z23
  clear z23
  refine ae_iinc (v := 2) (lv' := [(3, .int 2), (0, .ref p0), (1, .int a1), (2, .int a2)]) (q := 83) dX2_reset_80 rfl (by decide) (by decide) rfl rfl ?_
  refine ae_goto (q := 66) dX2_reset_83 (by decide) ?_
  refine ae_iload_n (q := 67) dX2_reset_66 rfl rfl rfl ?_
  refine ae_iconst (v := 2) (q := 68) dX2_reset_67 (by decide) rfl ?_
  refine ae_icmp_ge (t := 86) (q := 71) dX2_reset_68 (by decide) rfl (fun _ => ?_) (fun h => absurd h (by decide))
  refine ae_iconst (v := 0) (q := 87) dX2_reset_86 (by decide) rfl ?_
  refine ae_istore_n (lv' := [(3, .int 0), (0, .ref p0), (1, .int a1), (2, .int a2)]) (q := 88) dX2_reset_87 rfl (by decide) rfl rfl ?_
  refine ae_iload_n (q := 89) dX2_reset_88 rfl rfl rfl ?_
  refine ae_iconst (v := 3) (q := 90) dX2_reset_89 (by decide) rfl ?_
  refine ae_icmp_ge (t := 108) (q := 93) dX2_reset_90 (by decide) rfl (fun h => absurd h (by decide)) (fun _ => ?_)
  refine ae_aload_n (q := 94) dX2_reset_93 rfl rfl rfl ?_
  obtain ⟨b24, r24, l24, t24⟩ := h.r lp0 tp0 (k := 5) (T' := 13) rfl (by decide)
  refine ae_getR (q := 97) dX2_reset_94 fl_X2_40 rfl (h.s lp0 tp0) (h.l lp0) r24 rfl ?_
  refine ae_iload_n (q := 98) dX2_reset_97 rfl rfl rfl ?_
  obtain ⟨b25, r25, l25, t25⟩ := h.r l24 t24 (k := (0 : Int32).toNatClampNeg) (T' := 14) rfl (by decide)
  refine ae_aald (q := 99) dX2_reset_98 (show am_sh G23 b24 = (103 + 5, 3) from h.s l24 t24) (show am_kinds[7]? = some (103 + 5, .object RX5) from rfl) (h.l l24) (by unfold vp_in; decide) r25 rfl ?_
  refine ae_callV (ci := 5) (as := []) (b := b25) (st := []) (q := 102) dX2_reset_99 (c_X5_reset (N := N) (d := d + 1) h l25 t25) myX5_reset lk_X2_86 im_X5_reset se_X5_reset rfl (by decide) (h.s l25 t25) (h.l l25) rfl rfl (Nat.le_of_ble_eq_true rfl) rfl (fun o H1 hh => ⟨_, hh.1⟩) (fun vv G26 hv => ?_)
  obtain ⟨o26, z26⟩ := hv
  cases o26
  refine ⟨Or.inl (z26.nx.trans h.nx.symm), ?_⟩
  have h : jc N B 320 G26 := z26
  clear z26
  refine ae_iinc (v := 1) (lv' := [(3, .int 1), (0, .ref p0), (1, .int a1), (2, .int a2)]) (q := 105) dX2_reset_102 rfl (by decide) (by decide) rfl rfl ?_
  refine ae_goto (q := 88) dX2_reset_105 (by decide) ?_
  refine ae_iload_n (q := 89) dX2_reset_88 rfl rfl rfl ?_
  refine ae_iconst (v := 3) (q := 90) dX2_reset_89 (by decide) rfl ?_
  refine ae_icmp_ge (t := 108) (q := 93) dX2_reset_90 (by decide) rfl (fun h => absurd h (by decide)) (fun _ => ?_)
  refine ae_aload_n (q := 94) dX2_reset_93 rfl rfl rfl ?_
  obtain ⟨b27, r27, l27, t27⟩ := h.r lp0 tp0 (k := 5) (T' := 13) rfl (by decide)
  refine ae_getR (q := 97) dX2_reset_94 fl_X2_40 rfl (h.s lp0 tp0) (h.l lp0) r27 rfl ?_
  refine ae_iload_n (q := 98) dX2_reset_97 rfl rfl rfl ?_
  obtain ⟨b28, r28, l28, t28⟩ := h.r l27 t27 (k := (1 : Int32).toNatClampNeg) (T' := 14) rfl (by decide)
  refine ae_aald (q := 99) dX2_reset_98 (show am_sh G26 b27 = (103 + 5, 3) from h.s l27 t27) (show am_kinds[7]? = some (103 + 5, .object RX5) from rfl) (h.l l27) (by unfold vp_in; decide) r28 rfl ?_
  refine ae_callV (ci := 5) (as := []) (b := b28) (st := []) (q := 102) dX2_reset_99 (c_X5_reset (N := N) (d := d + 1) h l28 t28) myX5_reset lk_X2_86 im_X5_reset se_X5_reset rfl (by decide) (h.s l28 t28) (h.l l28) rfl rfl (Nat.le_of_ble_eq_true rfl) rfl (fun o H1 hh => ⟨_, hh.1⟩) (fun vv G29 hv => ?_)
  obtain ⟨o29, z29⟩ := hv
  cases o29
  refine ⟨Or.inl (z29.nx.trans h.nx.symm), ?_⟩
  have h : jc N B 320 G29 := z29
  clear z29
  refine ae_iinc (v := 2) (lv' := [(3, .int 2), (0, .ref p0), (1, .int a1), (2, .int a2)]) (q := 105) dX2_reset_102 rfl (by decide) (by decide) rfl rfl ?_
  refine ae_goto (q := 88) dX2_reset_105 (by decide) ?_
  refine ae_iload_n (q := 89) dX2_reset_88 rfl rfl rfl ?_
  refine ae_iconst (v := 3) (q := 90) dX2_reset_89 (by decide) rfl ?_
  refine ae_icmp_ge (t := 108) (q := 93) dX2_reset_90 (by decide) rfl (fun h => absurd h (by decide)) (fun _ => ?_)
  refine ae_aload_n (q := 94) dX2_reset_93 rfl rfl rfl ?_
  obtain ⟨b30, r30, l30, t30⟩ := h.r lp0 tp0 (k := 5) (T' := 13) rfl (by decide)
  refine ae_getR (q := 97) dX2_reset_94 fl_X2_40 rfl (h.s lp0 tp0) (h.l lp0) r30 rfl ?_
  refine ae_iload_n (q := 98) dX2_reset_97 rfl rfl rfl ?_
  obtain ⟨b31, r31, l31, t31⟩ := h.r l30 t30 (k := (2 : Int32).toNatClampNeg) (T' := 14) rfl (by decide)
  refine ae_aald (q := 99) dX2_reset_98 (show am_sh G29 b30 = (103 + 5, 3) from h.s l30 t30) (show am_kinds[7]? = some (103 + 5, .object RX5) from rfl) (h.l l30) (by unfold vp_in; decide) r31 rfl ?_
  refine ae_callV (ci := 5) (as := []) (b := b31) (st := []) (q := 102) dX2_reset_99 (c_X5_reset (N := N) (d := d + 1) h l31 t31) myX5_reset lk_X2_86 im_X5_reset se_X5_reset rfl (by decide) (h.s l31 t31) (h.l l31) rfl rfl (Nat.le_of_ble_eq_true rfl) rfl (fun o H1 hh => ⟨_, hh.1⟩) (fun vv G32 hv => ?_)
  obtain ⟨o32, z32⟩ := hv
  cases o32
  refine ⟨Or.inl (z32.nx.trans h.nx.symm), ?_⟩
  have h : jc N B 320 G32 := z32
  clear z32
  refine ae_iinc (v := 3) (lv' := [(3, .int 3), (0, .ref p0), (1, .int a1), (2, .int a2)]) (q := 105) dX2_reset_102 rfl (by decide) (by decide) rfl rfl ?_
  refine ae_goto (q := 88) dX2_reset_105 (by decide) ?_
  refine ae_iload_n (q := 89) dX2_reset_88 rfl rfl rfl ?_
  refine ae_iconst (v := 3) (q := 90) dX2_reset_89 (by decide) rfl ?_
  refine ae_icmp_ge (t := 108) (q := 93) dX2_reset_90 (by decide) rfl (fun _ => ?_) (fun h => absurd h (by decide))
  refine ae_vret dX2_reset_108 rfl ?_
  exact ⟨rfl, h⟩
set_option maxRecDepth 100000 in
set_option maxHeartbeats 4000000 in
theorem c_X2_beginFirst {ox : List (Nat × (Nat → Int32))} {d N : Nat} {B H : am_H} {p0 : Nat} {a1 : Int32} {a2 : Int32}  (h : jc N B 320 H) (lp0 : p0 < 320) (tp0 : ty p0 = 5) (u_1 : 0 ≤ a1.toInt) (v_1 : a1.toInt ≤ 7) : am_DB 0 ox (d + 1) yX2_beginFirst mX2_beginFirst [.ref p0, .int a1, .int a2] H (fun o H1 => o = .inl none ∧ jc N B 320 H1) := by
  refine ae_enter rfl rfl rfl rfl (Nat.le_of_ble_eq_true rfl) ?_
  show am_EB 0 ox (d + 1) mX2_beginFirst 0 [(0, .ref p0), (1, .int a1), (2, .int a2)] [] H _
  refine ae_aload_n (q := 1) dX2_beginFirst_0 rfl rfl rfl ?_
  obtain ⟨b1, r1, l1, t1⟩ := h.r lp0 tp0 (k := 1) (T' := 7) rfl (by decide)
  refine ae_getR (q := 4) dX2_beginFirst_1 fl_X2_24 rfl (h.s lp0 tp0) (h.l lp0) r1 rfl ?_
  refine ae_iconst (v := 0) (q := 5) dX2_beginFirst_4 (by decide) rfl ?_
  obtain ⟨b2, r2, l2, t2⟩ := h.r l1 t1 (k := (0 : Int32).toNatClampNeg) (T' := 8) rfl (by decide)
  refine ae_aald (q := 6) dX2_beginFirst_5 (show am_sh H b1 = (103 + 4, 48) from h.s l1 t1) (show am_kinds[6]? = some (103 + 4, .object RX4) from rfl) (h.l l1) (by unfold vp_in; decide) r2 rfl ?_
  refine ae_iload_n (q := 7) dX2_beginFirst_6 rfl rfl rfl ?_
  refine ae_iload_n (q := 8) dX2_beginFirst_7 rfl rfl rfl ?_
  refine ae_aload_n (q := 9) dX2_beginFirst_8 rfl rfl rfl ?_
  obtain ⟨b3, r3, l3, t3⟩ := h.r lp0 tp0 (k := 3) (T' := 6) rfl (by decide)
  refine ae_getR (q := 12) dX2_beginFirst_9 fl_X2_18 rfl (h.s lp0 tp0) (h.l lp0) r3 rfl ?_
  refine ae_callV (ci := 4) (as := [.int a1, .int a2, .ref b3]) (b := b2) (st := []) (q := 15) dX2_beginFirst_12 (c_X4_reset (N := N) (d := d) h l2 t2 (by omega) (by omega) l3 t3) myX4_reset lk_X2_87 im_X4_reset se_X4_reset rfl (by decide) (h.s l2 t2) (h.l l2) rfl rfl (Nat.le_of_ble_eq_true rfl) rfl (fun o H1 hh => ⟨_, hh.1⟩) (fun vv G4 hv => ?_)
  obtain ⟨o4, z4⟩ := hv
  cases o4
  refine ⟨Or.inl (z4.nx.trans h.nx.symm), ?_⟩
  have h : jc N B 320 G4 := z4
  clear z4
  refine ae_aload_n (q := 16) dX2_beginFirst_15 rfl rfl rfl ?_
  refine ae_iconst (v := 1) (q := 17) dX2_beginFirst_16 (by decide) rfl ?_
  refine ae_putI (q := 20) dX2_beginFirst_17 fl_X2_64 rfl rfl rfl (h.s lp0 tp0) (h.l lp0) rfl ?_
  refine ae_gen (fun G5 g5 => ?_)
  have h : jc N B 320 G5 := by rw [g5]; exact h.w tp0 (by decide) (fun q => absurd q.1 (by decide)) (mk_inr (lo := 0) (hi := 48) (by decide) (by decide))
  refine ae_aload_n (q := 21) dX2_beginFirst_20 rfl rfl rfl ?_
  obtain ⟨b6, r6, l6, t6⟩ := h.r lp0 tp0 (k := 3) (T' := 6) rfl (by decide)
  refine ae_getR (q := 24) dX2_beginFirst_21 fl_X2_18 rfl (h.s lp0 tp0) (h.l lp0) r6 rfl ?_
  refine ae_iconst (v := 1) (q := 25) dX2_beginFirst_24 (by decide) rfl ?_
  refine ae_putI (q := 28) dX2_beginFirst_25 fl_X2_90 rfl rfl rfl (h.s l6 t6) (h.l l6) rfl ?_
  refine ae_gen (fun G7 g7 => ?_)
  have h : jc N B 320 G7 := by rw [g7]; exact h.w t6 (by decide) (fun q => absurd q.1 (by decide)) inr_any
  refine ae_aload_n (q := 29) dX2_beginFirst_28 rfl rfl rfl ?_
  obtain ⟨b8, r8, l8, t8⟩ := h.r lp0 tp0 (k := 5) (T' := 13) rfl (by decide)
  refine ae_getR (q := 32) dX2_beginFirst_29 fl_X2_40 rfl (h.s lp0 tp0) (h.l lp0) r8 rfl ?_
  refine ae_iconst (v := 0) (q := 33) dX2_beginFirst_32 (by decide) rfl ?_
  obtain ⟨b9, r9, l9, t9⟩ := h.r l8 t8 (k := (0 : Int32).toNatClampNeg) (T' := 14) rfl (by decide)
  refine ae_aald (q := 34) dX2_beginFirst_33 (show am_sh G7 b8 = (103 + 5, 3) from h.s l8 t8) (show am_kinds[7]? = some (103 + 5, .object RX5) from rfl) (h.l l8) (by unfold vp_in; decide) r9 rfl ?_
  refine ae_iconst (v := 0) (q := 35) dX2_beginFirst_34 (by decide) rfl ?_
  refine ae_callV (ci := 5) (as := [.int 0]) (b := b9) (st := []) (q := 38) dX2_beginFirst_35 (c_X5_append (N := N) (d := d) h l9 t9 (by decide) (by decide)) myX5_append lk_X2_93 im_X5_append se_X5_append rfl (by decide) (h.s l9 t9) (h.l l9) rfl rfl (Nat.le_of_ble_eq_true rfl) rfl (fun o H1 hh => ⟨_, hh.1⟩) (fun vv G10 hv => ?_)
  obtain ⟨o10, z10⟩ := hv
  cases o10
  refine ⟨Or.inl (z10.nx.trans h.nx.symm), ?_⟩
  have h : jc N B 320 G10 := z10
  clear z10
  refine ae_vret dX2_beginFirst_38 rfl ?_
  exact ⟨rfl, h⟩
set_option maxRecDepth 100000 in
set_option maxHeartbeats 4000000 in
theorem c_X2_takeOne {ox : List (Nat × (Nat → Int32))} {d N : Nat} {B H : am_H} {p0 : Nat} {a1 : Int32}  (h : jc N B 320 H) (lp0 : p0 < 320) (tp0 : ty p0 = 5) (u_1 : 0 ≤ a1.toInt) (v_1 : a1.toInt ≤ 2) : am_DB 0 ox (d + 2) yX2_takeOne mX2_takeOne [.ref p0, .int a1] H (fun o H1 => o = .inl none ∧ jc N B 320 H1) := by
  refine ae_enter rfl rfl rfl rfl (Nat.le_of_ble_eq_true rfl) ?_
  show am_EB 0 ox (d + 2) mX2_takeOne 0 [(0, .ref p0), (1, .int a1)] [] H _
  refine ae_aload_n (q := 1) dX2_takeOne_0 rfl rfl rfl ?_
  obtain ⟨b1, r1, l1, t1⟩ := h.r lp0 tp0 (k := 5) (T' := 13) rfl (by decide)
  refine ae_getR (q := 4) dX2_takeOne_1 fl_X2_40 rfl (h.s lp0 tp0) (h.l lp0) r1 rfl ?_
  refine ae_iload_n (q := 5) dX2_takeOne_4 rfl rfl rfl ?_
  obtain ⟨b2, r2, l2, t2⟩ := h.r l1 t1 (k := a1.toNatClampNeg) (T' := 14) (if_pos (ixn (by omega) (by omega))) (by decide)
  refine ae_aald (q := 6) dX2_takeOne_5 (show am_sh H b1 = (103 + 5, 3) from h.s l1 t1) (show am_kinds[7]? = some (103 + 5, .object RX5) from rfl) (h.l l1) (vin (by omega) (by omega)) r2 rfl ?_
  refine ae_astore_n (lv' := [(2, .ref b2), (0, .ref p0), (1, .int a1)]) (q := 7) dX2_takeOne_6 rfl (by decide) rfl rfl ?_
  refine ae_aload_n (q := 8) dX2_takeOne_7 rfl rfl rfl ?_
  refine ae_aload_n (q := 9) dX2_takeOne_8 rfl rfl rfl ?_
  refine ae_callV (ci := 5) (as := []) (b := b2) (st := [.ref b2]) (q := 12) dX2_takeOne_9 (c_X5_takeLast (N := N) (d := d) h l2 t2) myX5_takeLast lk_X2_117 im_X5_takeLast se_X5_takeLast rfl (by decide) (h.s l2 t2) (h.l l2) rfl rfl (Nat.le_of_ble_eq_true rfl) rfl (fun o H1 hh => ⟨_, hh.1.choose_spec.1⟩) (fun vv G3 hv => ?_)
  obtain ⟨⟨x3, o3, u3, v3⟩, z3⟩ := hv
  cases o3
  refine ⟨Or.inl (z3.nx.trans h.nx.symm), ?_⟩
  have h : jc N B 320 G3 := z3
  clear z3
  refine ae_putI (q := 15) dX2_takeOne_12 fl_X2_101 rfl rfl rfl (h.s l2 t2) (h.l l2) rfl ?_
  refine ae_gen (fun G4 g4 => ?_)
  have h : jc N B 320 G4 := by rw [g4]; exact h.w t2 (by decide) (fun q => absurd q.1 (by decide)) (mk_inr (lo := (-1)) (hi := 47) (by omega) (by omega))
  refine ae_iconst (v := 1) (q := 16) dX2_takeOne_15 (by decide) rfl ?_
  refine ae_istore_n (lv' := [(3, .int 1), (2, .ref b2), (0, .ref p0), (1, .int a1)]) (q := 17) dX2_takeOne_16 rfl (by decide) rfl rfl ?_
  have lab17 : ∀ (n5 : Nat) (y5_3 : Int32) (K5 : am_H), jc N B 320 K5 → 1 ≤ y5_3.toInt → y5_3.toInt ≤ 3 → 3 - y5_3.toInt ≤ (n5 : Int) → am_EB 0 ox (d + 2) mX2_takeOne 17 [(3, .int y5_3), (2, .ref b2), (0, .ref p0), (1, .int a1)] [] K5 (fun o H1 => o = .inl none ∧ jc N B 320 H1) := by
    intro n5
    induction n5 using Nat.strongRecOn with
    | ind n5 ih5 =>
      intro y5_3 K5 h p5_3 q5_3 mm5
      refine ae_iload_n (q := 18) dX2_takeOne_17 rfl rfl rfl ?_
      refine ae_aload_n (q := 19) dX2_takeOne_18 rfl rfl rfl ?_
      refine ae_getI (q := 22) dX2_takeOne_19 fl_X2_56 rfl (h.s lp0 tp0) (h.l lp0) rfl ?_
      obtain ⟨x6, e6, u6, v6⟩ := rdi (h.i lp0 tp0 (k := 6) (p := (0, 3)) rfl)
      refine ae_eqi e6 ?_
      refine ae_icmp_ge (t := 77) (q := 25) dX2_takeOne_22 (by decide) rfl (fun c7 => ?_) (fun c7 => ?_)
      · have c7 := i_le (a := x6.toInt) (b := y5_3.toInt) rfl rfl c7
        refine ae_aload_n (q := 78) dX2_takeOne_77 rfl rfl rfl ?_
        refine ae_getI (q := 81) dX2_takeOne_78 fl_X2_101 rfl (h.s l2 t2) (h.l l2) rfl ?_
        obtain ⟨x8, e8, u8, v8⟩ := rdi (h.i l2 t2 (k := 2) (p := ((-1), 47)) rfl)
        refine ae_eqi e8 ?_
        refine ae_iconst (v := (-1)) (q := 82) dX2_takeOne_81 (by decide) rfl ?_
        refine ae_icmp_eq (t := 98) (q := 85) dX2_takeOne_82 (by decide) rfl (fun c9 => ?_) (fun c9 => ?_)
        · have c9 := i_eq (a := x8.toInt) (b := (-1)) rfl (by decide) c9
          refine ae_vret dX2_takeOne_98 rfl ?_
          exact ⟨rfl, h⟩
        · have c9 := i_ne (a := x8.toInt) (b := (-1)) rfl (by decide) c9
          refine ae_aload_n (q := 86) dX2_takeOne_85 rfl rfl rfl ?_
          obtain ⟨b10, r10, l10, t10⟩ := h.r lp0 tp0 (k := 1) (T' := 7) rfl (by decide)
          refine ae_getR (q := 89) dX2_takeOne_86 fl_X2_24 rfl (h.s lp0 tp0) (h.l lp0) r10 rfl ?_
          refine ae_aload_n (q := 90) dX2_takeOne_89 rfl rfl rfl ?_
          refine ae_getI (q := 93) dX2_takeOne_90 fl_X2_101 rfl (h.s l2 t2) (h.l l2) rfl ?_
          refine ae_eqi e8 ?_
          obtain ⟨b11, r11, l11, t11⟩ := h.r l10 t10 (k := x8.toNatClampNeg) (T' := 8) (if_pos (ixn (by omega) (by omega))) (by decide)
          refine ae_aald (q := 94) dX2_takeOne_93 (show am_sh K5 b10 = (103 + 4, 48) from h.s l10 t10) (show am_kinds[6]? = some (103 + 4, .object RX4) from rfl) (h.l l10) (vin (by omega) (by omega)) r11 rfl ?_
          refine ae_iconst (v := 1) (q := 95) dX2_takeOne_94 (by decide) rfl ?_
          refine ae_putI (q := 98) dX2_takeOne_95 fl_X2_124 rfl rfl rfl (h.s l11 t11) (h.l l11) rfl ?_
          refine ae_gen (fun G12 g12 => ?_)
          have h : jc N B 320 G12 := by rw [g12]; exact h.w t11 (by decide) (by decide) (mk_inr (lo := 0) (hi := 3) (by decide) (by decide))
          refine ae_vret dX2_takeOne_98 rfl ?_
          exact ⟨rfl, h⟩
      · have c7 := i_nle (a := x6.toInt) (b := y5_3.toInt) rfl rfl c7
        refine ae_aload_n (q := 26) dX2_takeOne_25 rfl rfl rfl ?_
        refine ae_getI (q := 29) dX2_takeOne_26 fl_X2_101 rfl (h.s l2 t2) (h.l l2) rfl ?_
        obtain ⟨x13, e13, u13, v13⟩ := rdi (h.i l2 t2 (k := 2) (p := ((-1), 47)) rfl)
        refine ae_eqi e13 ?_
        refine ae_iconst (v := (-1)) (q := 30) dX2_takeOne_29 (by decide) rfl ?_
        refine ae_icmp_ne (t := 77) (q := 33) dX2_takeOne_30 (by decide) rfl (fun c14 => ?_) (fun c14 => ?_)
        · have c14 := i_ne (a := x13.toInt) (b := (-1)) rfl (by decide) c14
          refine ae_aload_n (q := 78) dX2_takeOne_77 rfl rfl rfl ?_
          refine ae_getI (q := 81) dX2_takeOne_78 fl_X2_101 rfl (h.s l2 t2) (h.l l2) rfl ?_
          refine ae_eqi e13 ?_
          refine ae_iconst (v := (-1)) (q := 82) dX2_takeOne_81 (by decide) rfl ?_
          refine ae_icmp_eq (t := 98) (q := 85) dX2_takeOne_82 (by decide) rfl (fun c15 => ?_) (fun c15 => ?_)
          · have c15 := i_eq (a := x13.toInt) (b := (-1)) rfl (by decide) c15
            exfalso; omega
          · have c15 := i_ne (a := x13.toInt) (b := (-1)) rfl (by decide) c15
            refine ae_aload_n (q := 86) dX2_takeOne_85 rfl rfl rfl ?_
            obtain ⟨b16, r16, l16, t16⟩ := h.r lp0 tp0 (k := 1) (T' := 7) rfl (by decide)
            refine ae_getR (q := 89) dX2_takeOne_86 fl_X2_24 rfl (h.s lp0 tp0) (h.l lp0) r16 rfl ?_
            refine ae_aload_n (q := 90) dX2_takeOne_89 rfl rfl rfl ?_
            refine ae_getI (q := 93) dX2_takeOne_90 fl_X2_101 rfl (h.s l2 t2) (h.l l2) rfl ?_
            refine ae_eqi e13 ?_
            obtain ⟨b17, r17, l17, t17⟩ := h.r l16 t16 (k := x13.toNatClampNeg) (T' := 8) (if_pos (ixn (by omega) (by omega))) (by decide)
            refine ae_aald (q := 94) dX2_takeOne_93 (show am_sh K5 b16 = (103 + 4, 48) from h.s l16 t16) (show am_kinds[6]? = some (103 + 4, .object RX4) from rfl) (h.l l16) (vin (by omega) (by omega)) r17 rfl ?_
            refine ae_iconst (v := 1) (q := 95) dX2_takeOne_94 (by decide) rfl ?_
            refine ae_putI (q := 98) dX2_takeOne_95 fl_X2_124 rfl rfl rfl (h.s l17 t17) (h.l l17) rfl ?_
            refine ae_gen (fun G18 g18 => ?_)
            have h : jc N B 320 G18 := by rw [g18]; exact h.w t17 (by decide) (by decide) (mk_inr (lo := 0) (hi := 3) (by decide) (by decide))
            refine ae_vret dX2_takeOne_98 rfl ?_
            exact ⟨rfl, h⟩
        · have c14 := i_eq (a := x13.toInt) (b := (-1)) rfl (by decide) c14
          refine ae_aload_n (q := 34) dX2_takeOne_33 rfl rfl rfl ?_
          refine ae_aload_n (q := 35) dX2_takeOne_34 rfl rfl rfl ?_
          obtain ⟨b19, r19, l19, t19⟩ := h.r lp0 tp0 (k := 5) (T' := 13) rfl (by decide)
          refine ae_getR (q := 38) dX2_takeOne_35 fl_X2_40 rfl (h.s lp0 tp0) (h.l lp0) r19 rfl ?_
          refine ae_iload_n (q := 39) dX2_takeOne_38 rfl rfl rfl ?_
          refine ae_iload_n (q := 40) dX2_takeOne_39 rfl rfl rfl ?_
          refine ae_iadd (q := 41) dX2_takeOne_40 rfl ?_
          obtain ⟨x20, e20⟩ : ∃ z, a1 + y5_3 = z := ⟨_, rfl⟩
          refine ae_eqi e20 ?_
          have f20 : x20.toInt = a1.toInt + y5_3.toInt := by rw [← e20]; exact i_add rfl rfl (by omega) (by omega)
          refine ae_aload_n (q := 42) dX2_takeOne_41 rfl rfl rfl ?_
          refine ae_getI (q := 45) dX2_takeOne_42 fl_X2_56 rfl (h.s lp0 tp0) (h.l lp0) rfl ?_
          refine ae_eqi e6 ?_
          refine ae_irem (q := 46) dX2_takeOne_45 (fun q0 => by have q1 := i_eq (a := x6.toInt) (b := 0) rfl (by decide) q0; omega) rfl ?_
          obtain ⟨x21, e21⟩ : ∃ z, x20 - x20 / x6 * x6 = z := ⟨_, rfl⟩
          refine ae_eqi e21 ?_
          have f21 : x21.toInt = x20.toInt % x6.toInt ∧ 0 ≤ x20.toInt % x6.toInt ∧ x20.toInt % x6.toInt < x6.toInt := by rw [← e21]; exact i_rem rfl rfl (by omega) (by omega)
          obtain ⟨f21, g21, k21⟩ := f21
          have a21 : 0 ≤ x21.toInt := by rw [f21]; exact g21
          have b21 : x21.toInt < x6.toInt := by rw [f21]; exact k21
          clear g21 k21 f21
          obtain ⟨b22, r22, l22, t22⟩ := h.r l19 t19 (k := x21.toNatClampNeg) (T' := 14) (if_pos (ixn (by omega) (by omega))) (by decide)
          refine ae_aald (q := 47) dX2_takeOne_46 (show am_sh K5 b19 = (103 + 5, 3) from h.s l19 t19) (show am_kinds[7]? = some (103 + 5, .object RX5) from rfl) (h.l l19) (vin (by omega) (by omega)) r22 rfl ?_
          refine ae_callV (ci := 5) (as := []) (b := b22) (st := [.ref b2]) (q := 50) dX2_takeOne_47 (c_X5_takeFirst (N := N) (d := d) h l22 t22) myX5_takeFirst lk_X2_121 im_X5_takeFirst se_X5_takeFirst rfl (by decide) (h.s l22 t22) (h.l l22) rfl rfl (Nat.le_of_ble_eq_true rfl) rfl (fun o H1 hh => ⟨_, hh.1.choose_spec.1⟩) (fun vv G23 hv => ?_)
          obtain ⟨⟨x23, o23, u23, v23⟩, z23⟩ := hv
          cases o23
          refine ⟨Or.inl (z23.nx.trans h.nx.symm), ?_⟩
          have h : jc N B 320 G23 := z23
          clear z23
          refine ae_putI (q := 53) dX2_takeOne_50 fl_X2_101 rfl rfl rfl (h.s l2 t2) (h.l l2) rfl ?_
          refine ae_gen (fun G24 g24 => ?_)
          have h : jc N B 320 G24 := by rw [g24]; exact h.w t2 (by decide) (fun q => absurd q.1 (by decide)) (mk_inr (lo := (-1)) (hi := 47) (by omega) (by omega))
          refine ae_aload_n (q := 54) dX2_takeOne_53 rfl rfl rfl ?_
          refine ae_getI (q := 57) dX2_takeOne_54 fl_X2_101 rfl (h.s l2 t2) (h.l l2) rfl ?_
          refine ae_eqi (show am_gi G24 b2 2 = x23 by rw [g24]; exact gi_set) ?_
          refine ae_iconst (v := (-1)) (q := 58) dX2_takeOne_57 (by decide) rfl ?_
          refine ae_icmp_eq (t := 71) (q := 61) dX2_takeOne_58 (by decide) rfl (fun c25 => ?_) (fun c25 => ?_)
          · have c25 := i_eq (a := x23.toInt) (b := (-1)) rfl (by decide) c25
            obtain ⟨x26, e26⟩ : ∃ z, y5_3 + Int32.ofInt 1 = z := ⟨_, rfl⟩
            have f26 : x26.toInt = y5_3.toInt + 1 := by rw [← e26]; exact i_add rfl (by decide) (by omega) (by omega)
            refine ae_iinc (v := x26) (lv' := [(3, .int x26), (2, .ref b2), (0, .ref p0), (1, .int a1)]) (q := 74) dX2_takeOne_71 rfl e26 (by decide) rfl rfl ?_
            refine ae_goto (q := 17) dX2_takeOne_74 (by decide) ?_
            exact ae_lv (lv' := [(3, .int x26), (2, .ref b2), (0, .ref p0), (1, .int a1)]) ⟨rfl, rfl, rfl, rfl, trivial⟩ (ih5 (n5 - 1) (by omega) x26 _ h (by omega) (by omega) (by omega))
          · have c25 := i_ne (a := x23.toInt) (b := (-1)) rfl (by decide) c25
            refine ae_aload_n (q := 62) dX2_takeOne_61 rfl rfl rfl ?_
            refine ae_dup (q := 63) dX2_takeOne_62 rfl rfl ?_
            refine ae_getI (q := 66) dX2_takeOne_63 fl_X2_76 rfl (h.s lp0 tp0) (h.l lp0) rfl ?_
            obtain ⟨x27, e27⟩ : ∃ x, am_gi G24 p0 14 = x := ⟨_, rfl⟩
            refine ae_eqi e27 ?_
            refine ae_iconst (v := 1) (q := 67) dX2_takeOne_66 (by decide) rfl ?_
            refine ae_iadd (q := 68) dX2_takeOne_67 rfl ?_
            obtain ⟨x28, e28⟩ : ∃ z, x27 + 1 = z := ⟨_, rfl⟩
            refine ae_eqi e28 ?_
            refine ae_putI (q := 71) dX2_takeOne_68 fl_X2_76 rfl rfl rfl (h.s lp0 tp0) (h.l lp0) rfl ?_
            refine ae_gen (fun G29 g29 => ?_)
            have h : jc N B 320 G29 := by rw [g29]; exact h.w tp0 (by decide) (fun q => absurd q.1 (by decide)) inr_any
            obtain ⟨x30, e30⟩ : ∃ z, y5_3 + Int32.ofInt 1 = z := ⟨_, rfl⟩
            have f30 : x30.toInt = y5_3.toInt + 1 := by rw [← e30]; exact i_add rfl (by decide) (by omega) (by omega)
            refine ae_iinc (v := x30) (lv' := [(3, .int x30), (2, .ref b2), (0, .ref p0), (1, .int a1)]) (q := 74) dX2_takeOne_71 rfl e30 (by decide) rfl rfl ?_
            refine ae_goto (q := 17) dX2_takeOne_74 (by decide) ?_
            exact ae_lv (lv' := [(3, .int x30), (2, .ref b2), (0, .ref p0), (1, .int a1)]) ⟨rfl, rfl, rfl, rfl, trivial⟩ (ih5 (n5 - 1) (by omega) x30 _ h (by omega) (by omega) (by omega))
  exact ae_lv (lv' := [(3, .int 1), (2, .ref b2), (0, .ref p0), (1, .int a1)]) ⟨rfl, rfl, rfl, rfl, trivial⟩ (lab17 3 1 _ h (by decide) (by decide) (show 3 - (1 : Int32).toInt ≤ _ from by rw [show (1 : Int32).toInt = 1 from by decide]; omega))
set_option maxRecDepth 100000 in
set_option maxHeartbeats 4000000 in
theorem c_X2_isHeldBack {ox : List (Nat × (Nat → Int32))} {d N : Nat} {B H : am_H} {p0 : Nat} {p1 : Nat}  (h : jc N B 320 H) (lp0 : p0 < 320) (tp0 : ty p0 = 5) (lp1 : p1 < 320) (tp1 : ty p1 = 8) : am_DB 0 ox (d + 1) yX2_isHeldBack mX2_isHeldBack [.ref p0, .ref p1] H (fun o H1 => (∃ v : Int32, o = .inl (some (.int v)) ∧ 0 ≤ v.toInt ∧ v.toInt ≤ 1) ∧ H1 = H) := by
  refine ae_enter rfl rfl rfl rfl (Nat.le_of_ble_eq_true rfl) ?_
  show am_EB 0 ox (d + 1) mX2_isHeldBack 0 [(0, .ref p0), (1, .ref p1)] [] H _
  refine ae_iconst (v := 0) (q := 1) dX2_isHeldBack_0 (by decide) rfl ?_
  refine ae_istore_n (lv' := [(2, .int 0), (0, .ref p0), (1, .ref p1)]) (q := 2) dX2_isHeldBack_1 rfl (by decide) rfl rfl ?_
  refine ae_iload_n (q := 3) dX2_isHeldBack_2 rfl rfl rfl ?_
  refine ae_iconst (v := 2) (q := 4) dX2_isHeldBack_3 (by decide) rfl ?_
  refine ae_icmp_ge (t := 31) (q := 7) dX2_isHeldBack_4 (by decide) rfl (fun h => absurd h (by decide)) (fun _ => ?_)
  refine ae_aload_n (q := 8) dX2_isHeldBack_7 rfl rfl rfl ?_
  obtain ⟨b1, r1, l1, t1⟩ := h.r lp0 tp0 (k := 4) (T' := 10) rfl (by decide)
  refine ae_getR (q := 11) dX2_isHeldBack_8 fl_X2_33 rfl (h.s lp0 tp0) (h.l lp0) r1 rfl ?_
  refine ae_iload_n (q := 12) dX2_isHeldBack_11 rfl rfl rfl ?_
  obtain ⟨b2, r2, l2, t2⟩ := h.r l1 t1 (k := (0 : Int32).toNatClampNeg) (T' := 11) rfl (by decide)
  refine ae_aald (q := 13) dX2_isHeldBack_12 (show am_sh H b1 = (103 + 1, 2) from h.s l1 t1) (show am_kinds[4]? = some (103 + 1, .object RX1) from rfl) (h.l l1) (by unfold vp_in; decide) r2 rfl ?_
  refine ae_aload_n (q := 14) dX2_isHeldBack_13 rfl rfl rfl ?_
  refine ae_getI (q := 17) dX2_isHeldBack_14 fl_X2_222 rfl (h.s lp1 tp1) (h.l lp1) rfl ?_
  obtain ⟨x3, e3, u3, v3⟩ := rdi (h.i lp1 tp1 (k := 0) (p := (0, 47)) rfl)
  refine ae_eqi e3 ?_
  refine ae_callV (ci := 1) (as := [.int x3]) (b := b2) (st := []) (q := 20) dX2_isHeldBack_17 (c_X1_holdsBack (N := N) (d := d) h l2 t2 (by omega) (by omega)) myX1_holdsBack lk_X2_255 im_X1_holdsBack se_X1_holdsBack rfl (by decide) (h.s l2 t2) (h.l l2) rfl rfl (Nat.le_of_ble_eq_true rfl) rfl (fun o H1 hh => ⟨_, hh.1.choose_spec.1⟩) (fun vv G4 hv => ?_)
  obtain ⟨⟨x4, o4, u4, v4⟩, z4⟩ := hv
  cases o4
  have z4 := z4.symm
  subst z4
  refine ⟨Or.inl rfl, ?_⟩
  refine ae_if_eq (t := 25) (q := 23) dX2_isHeldBack_20 (by decide) rfl (fun c5 => ?_) (fun c5 => ?_)
  · have c5 := i_eq (a := x4.toInt) (b := 0) rfl (by decide) c5
    refine ae_iinc (v := 1) (lv' := [(2, .int 1), (0, .ref p0), (1, .ref p1)]) (q := 28) dX2_isHeldBack_25 rfl (by decide) (by decide) rfl rfl ?_
    refine ae_goto (q := 2) dX2_isHeldBack_28 (by decide) ?_
    refine ae_iload_n (q := 3) dX2_isHeldBack_2 rfl rfl rfl ?_
    refine ae_iconst (v := 2) (q := 4) dX2_isHeldBack_3 (by decide) rfl ?_
    refine ae_icmp_ge (t := 31) (q := 7) dX2_isHeldBack_4 (by decide) rfl (fun h => absurd h (by decide)) (fun _ => ?_)
    refine ae_aload_n (q := 8) dX2_isHeldBack_7 rfl rfl rfl ?_
    refine ae_getR (q := 11) dX2_isHeldBack_8 fl_X2_33 rfl (h.s lp0 tp0) (h.l lp0) r1 rfl ?_
    refine ae_iload_n (q := 12) dX2_isHeldBack_11 rfl rfl rfl ?_
    obtain ⟨b6, r6, l6, t6⟩ := h.r l1 t1 (k := (1 : Int32).toNatClampNeg) (T' := 11) rfl (by decide)
    refine ae_aald (q := 13) dX2_isHeldBack_12 (show am_sh H b1 = (103 + 1, 2) from h.s l1 t1) (show am_kinds[4]? = some (103 + 1, .object RX1) from rfl) (h.l l1) (by unfold vp_in; decide) r6 rfl ?_
    refine ae_aload_n (q := 14) dX2_isHeldBack_13 rfl rfl rfl ?_
    refine ae_getI (q := 17) dX2_isHeldBack_14 fl_X2_222 rfl (h.s lp1 tp1) (h.l lp1) rfl ?_
    refine ae_eqi e3 ?_
    refine ae_callV (ci := 1) (as := [.int x3]) (b := b6) (st := []) (q := 20) dX2_isHeldBack_17 (c_X1_holdsBack (N := N) (d := d) h l6 t6 (by omega) (by omega)) myX1_holdsBack lk_X2_255 im_X1_holdsBack se_X1_holdsBack rfl (by decide) (h.s l6 t6) (h.l l6) rfl rfl (Nat.le_of_ble_eq_true rfl) rfl (fun o H1 hh => ⟨_, hh.1.choose_spec.1⟩) (fun vv G7 hv => ?_)
    obtain ⟨⟨x7, o7, u7, v7⟩, z7⟩ := hv
    cases o7
    have z7 := z7.symm
    subst z7
    refine ⟨Or.inl rfl, ?_⟩
    refine ae_if_eq (t := 25) (q := 23) dX2_isHeldBack_20 (by decide) rfl (fun c8 => ?_) (fun c8 => ?_)
    · have c8 := i_eq (a := x7.toInt) (b := 0) rfl (by decide) c8
      refine ae_iinc (v := 2) (lv' := [(2, .int 2), (0, .ref p0), (1, .ref p1)]) (q := 28) dX2_isHeldBack_25 rfl (by decide) (by decide) rfl rfl ?_
      refine ae_goto (q := 2) dX2_isHeldBack_28 (by decide) ?_
      refine ae_iload_n (q := 3) dX2_isHeldBack_2 rfl rfl rfl ?_
      refine ae_iconst (v := 2) (q := 4) dX2_isHeldBack_3 (by decide) rfl ?_
      refine ae_icmp_ge (t := 31) (q := 7) dX2_isHeldBack_4 (by decide) rfl (fun _ => ?_) (fun h => absurd h (by decide))
      refine ae_iconst (v := 0) (q := 32) dX2_isHeldBack_31 (by decide) rfl ?_
      refine ae_iret dX2_isHeldBack_32 rfl rfl ?_
      exact ⟨⟨_, rfl, (by decide), (by decide)⟩, rfl⟩
    · have c8 := i_ne (a := x7.toInt) (b := 0) rfl (by decide) c8
      refine ae_iconst (v := 1) (q := 24) dX2_isHeldBack_23 (by decide) rfl ?_
      refine ae_iret dX2_isHeldBack_24 rfl rfl ?_
      exact ⟨⟨_, rfl, (by decide), (by decide)⟩, rfl⟩
  · have c5 := i_ne (a := x4.toInt) (b := 0) rfl (by decide) c5
    refine ae_iconst (v := 1) (q := 24) dX2_isHeldBack_23 (by decide) rfl ?_
    refine ae_iret dX2_isHeldBack_24 rfl rfl ?_
    exact ⟨⟨_, rfl, (by decide), (by decide)⟩, rfl⟩
set_option maxRecDepth 100000 in
set_option maxHeartbeats 4000000 in
theorem c_X2_isWaitOver {ox : List (Nat × (Nat → Int32))} {d N : Nat} {B H : am_H} {p0 : Nat} {p1 : Nat}  (h : jc N B 320 H) (lp0 : p0 < 320) (tp0 : ty p0 = 5) (lp1 : p1 < 320) (tp1 : ty p1 = 8) : am_DB 0 ox (d + 2) yX2_isWaitOver mX2_isWaitOver [.ref p0, .ref p1] H (fun o H1 => (∃ v : Int32, o = .inl (some (.int v)) ∧ 0 ≤ v.toInt ∧ v.toInt ≤ 1) ∧ H1 = H) := by
  refine ae_enter rfl rfl rfl rfl (Nat.le_of_ble_eq_true rfl) ?_
  show am_EB 0 ox (d + 2) mX2_isWaitOver 0 [(0, .ref p0), (1, .ref p1)] [] H _
  refine ae_aload_n (q := 1) dX2_isWaitOver_0 rfl rfl rfl ?_
  refine ae_getI (q := 4) dX2_isWaitOver_1 fl_X2_127 rfl (h.s lp1 tp1) (h.l lp1) rfl ?_
  obtain ⟨x1, e1, u1, v1⟩ := rdi (h.i lp1 tp1 (k := 8) (p := (0, 4)) rfl)
  refine ae_eqi e1 ?_
  have c2 : x1.toInt = 0 ∨ x1.toInt = 1 ∨ x1.toInt = 2 ∨ x1.toInt = 3 ∨ x1.toInt = 4 := by omega
  rcases c2 with c2 | c2 | c2 | c2 | c2
  · have j2 : x1 = 0 := Int32.toInt_inj.mp (by rw [c2]; decide)
    refine ae_tableIn (off := 28) (q := 32) dX2_isWaitOver_4 (by rw [j2]; decide) (by rw [j2]; decide) (by rw [j2]; decide) (by decide) ?_
    refine ae_aload_n (q := 33) dX2_isWaitOver_32 rfl rfl rfl ?_
    obtain ⟨b3, r3, l3, t3⟩ := h.r lp0 tp0 (k := 9) (T' := 17) rfl (by decide)
    refine ae_getR (q := 36) dX2_isWaitOver_33 fl_X2_49 rfl (h.s lp0 tp0) (h.l lp0) r3 rfl ?_
    refine ae_aload_n (q := 37) dX2_isWaitOver_36 rfl rfl rfl ?_
    refine ae_getI (q := 40) dX2_isWaitOver_37 fl_X2_161 rfl (h.s lp1 tp1) (h.l lp1) rfl ?_
    obtain ⟨x4, e4, u4, v4⟩ := rdi (h.i lp1 tp1 (k := 9) (p := (0, 3)) rfl)
    refine ae_eqi e4 ?_
    refine ae_zald (q := 41) dX2_isWaitOver_40 (h.s l3 t3) (h.l l3) (vin (by omega) (by omega)) rfl ?_
    obtain ⟨x5, e5, u5, v5⟩ := rdi (h.i l3 t3 (k := x4.toNatClampNeg) (p := (0, 1)) rfl)
    refine ae_eqi e5 ?_
    refine ae_iret dX2_isWaitOver_41 rfl (by rcases b01 (by omega : 0 ≤ x5.toInt) (by omega) with q | q <;> rw [q] <;> rfl) ?_
    exact ⟨⟨_, rfl, (by omega), (by omega)⟩, rfl⟩
  · have j2 : x1 = 1 := Int32.toInt_inj.mp (by rw [c2]; decide)
    refine ae_tableIn (off := 28) (q := 32) dX2_isWaitOver_4 (by rw [j2]; decide) (by rw [j2]; decide) (by rw [j2]; decide) (by decide) ?_
    refine ae_aload_n (q := 33) dX2_isWaitOver_32 rfl rfl rfl ?_
    obtain ⟨b6, r6, l6, t6⟩ := h.r lp0 tp0 (k := 9) (T' := 17) rfl (by decide)
    refine ae_getR (q := 36) dX2_isWaitOver_33 fl_X2_49 rfl (h.s lp0 tp0) (h.l lp0) r6 rfl ?_
    refine ae_aload_n (q := 37) dX2_isWaitOver_36 rfl rfl rfl ?_
    refine ae_getI (q := 40) dX2_isWaitOver_37 fl_X2_161 rfl (h.s lp1 tp1) (h.l lp1) rfl ?_
    obtain ⟨x7, e7, u7, v7⟩ := rdi (h.i lp1 tp1 (k := 9) (p := (0, 3)) rfl)
    refine ae_eqi e7 ?_
    refine ae_zald (q := 41) dX2_isWaitOver_40 (h.s l6 t6) (h.l l6) (vin (by omega) (by omega)) rfl ?_
    obtain ⟨x8, e8, u8, v8⟩ := rdi (h.i l6 t6 (k := x7.toNatClampNeg) (p := (0, 1)) rfl)
    refine ae_eqi e8 ?_
    refine ae_iret dX2_isWaitOver_41 rfl (by rcases b01 (by omega : 0 ≤ x8.toInt) (by omega) with q | q <;> rw [q] <;> rfl) ?_
    exact ⟨⟨_, rfl, (by omega), (by omega)⟩, rfl⟩
  · have j2 : x1 = 2 := Int32.toInt_inj.mp (by rw [c2]; decide)
    refine ae_tableIn (off := 38) (q := 42) dX2_isWaitOver_4 (by rw [j2]; decide) (by rw [j2]; decide) (by rw [j2]; decide) (by decide) ?_
    refine ae_aload_n (q := 43) dX2_isWaitOver_42 rfl rfl rfl ?_
    refine ae_aload_n (q := 44) dX2_isWaitOver_43 rfl rfl rfl ?_
    refine ae_callV (ci := 2) (as := [.ref p1]) (b := p0) (st := []) (q := 47) dX2_isWaitOver_44 (c_X2_isHeldBack (N := N) (d := d) h lp0 tp0 lp1 tp1) myX2_isHeldBack lk_X2_248 im_X2_isHeldBack se_X2_isHeldBack rfl (by decide) (h.s lp0 tp0) (h.l lp0) rfl rfl (Nat.le_of_ble_eq_true rfl) rfl (fun o H1 hh => ⟨_, hh.1.choose_spec.1⟩) (fun vv G9 hv => ?_)
    obtain ⟨⟨x9, o9, u9, v9⟩, z9⟩ := hv
    cases o9
    have z9 := z9.symm
    subst z9
    refine ⟨Or.inl rfl, ?_⟩
    refine ae_if_ne (t := 54) (q := 50) dX2_isWaitOver_47 (by decide) rfl (fun c10 => ?_) (fun c10 => ?_)
    · have c10 := i_ne (a := x9.toInt) (b := 0) rfl (by decide) c10
      refine ae_iconst (v := 0) (q := 55) dX2_isWaitOver_54 (by decide) rfl ?_
      refine ae_iret dX2_isWaitOver_55 rfl rfl ?_
      exact ⟨⟨_, rfl, (by decide), (by decide)⟩, rfl⟩
    · have c10 := i_eq (a := x9.toInt) (b := 0) rfl (by decide) c10
      refine ae_iconst (v := 1) (q := 51) dX2_isWaitOver_50 (by decide) rfl ?_
      refine ae_goto (q := 55) dX2_isWaitOver_51 (by decide) ?_
      refine ae_iret dX2_isWaitOver_55 rfl rfl ?_
      exact ⟨⟨_, rfl, (by decide), (by decide)⟩, rfl⟩
  · have j2 : x1 = 3 := Int32.toInt_inj.mp (by rw [c2]; decide)
    refine ae_tableOut (q := 56) dX2_isWaitOver_4 (by rw [j2]; decide) (by decide) ?_
    refine ae_aload_n (q := 57) dX2_isWaitOver_56 rfl rfl rfl ?_
    refine ae_callV (ci := 4) (as := []) (b := p1) (st := []) (q := 60) dX2_isWaitOver_57 (c_X4_innerScope (N := N) (d := d + 1) h lp1 tp1) myX4_innerScope lk_X2_151 im_X4_innerScope se_X4_innerScope rfl (by decide) (h.s lp1 tp1) (h.l lp1) rfl rfl (Nat.le_of_ble_eq_true rfl) rfl (fun o H1 hh => ⟨_, hh.1.choose_spec.1⟩) (fun vv G11 hv => ?_)
    obtain ⟨⟨b11, o11, l11, t11⟩, z11⟩ := hv
    cases o11
    have z11 := z11.symm
    subst z11
    refine ⟨Or.inl rfl, ?_⟩
    refine ae_getI (q := 63) dX2_isWaitOver_60 fl_X2_90 rfl (h.s l11 t11) (h.l l11) rfl ?_
    obtain ⟨x12, e12⟩ : ∃ x, am_gi H b11 2 = x := ⟨_, rfl⟩
    refine ae_eqi e12 ?_
    refine ae_if_ne (t := 70) (q := 66) dX2_isWaitOver_63 (by decide) rfl (fun c13 => ?_) (fun c13 => ?_)
    · have c13 := i_ne (a := x12.toInt) (b := 0) rfl (by decide) c13
      refine ae_iconst (v := 0) (q := 71) dX2_isWaitOver_70 (by decide) rfl ?_
      refine ae_iret dX2_isWaitOver_71 rfl rfl ?_
      exact ⟨⟨_, rfl, (by decide), (by decide)⟩, rfl⟩
    · have c13 := i_eq (a := x12.toInt) (b := 0) rfl (by decide) c13
      refine ae_iconst (v := 1) (q := 67) dX2_isWaitOver_66 (by decide) rfl ?_
      refine ae_goto (q := 71) dX2_isWaitOver_67 (by decide) ?_
      refine ae_iret dX2_isWaitOver_71 rfl rfl ?_
      exact ⟨⟨_, rfl, (by decide), (by decide)⟩, rfl⟩
  · have j2 : x1 = 4 := Int32.toInt_inj.mp (by rw [c2]; decide)
    refine ae_tableOut (q := 56) dX2_isWaitOver_4 (by rw [j2]; decide) (by decide) ?_
    refine ae_aload_n (q := 57) dX2_isWaitOver_56 rfl rfl rfl ?_
    refine ae_callV (ci := 4) (as := []) (b := p1) (st := []) (q := 60) dX2_isWaitOver_57 (c_X4_innerScope (N := N) (d := d + 1) h lp1 tp1) myX4_innerScope lk_X2_151 im_X4_innerScope se_X4_innerScope rfl (by decide) (h.s lp1 tp1) (h.l lp1) rfl rfl (Nat.le_of_ble_eq_true rfl) rfl (fun o H1 hh => ⟨_, hh.1.choose_spec.1⟩) (fun vv G14 hv => ?_)
    obtain ⟨⟨b14, o14, l14, t14⟩, z14⟩ := hv
    cases o14
    have z14 := z14.symm
    subst z14
    refine ⟨Or.inl rfl, ?_⟩
    refine ae_getI (q := 63) dX2_isWaitOver_60 fl_X2_90 rfl (h.s l14 t14) (h.l l14) rfl ?_
    obtain ⟨x15, e15⟩ : ∃ x, am_gi H b14 2 = x := ⟨_, rfl⟩
    refine ae_eqi e15 ?_
    refine ae_if_ne (t := 70) (q := 66) dX2_isWaitOver_63 (by decide) rfl (fun c16 => ?_) (fun c16 => ?_)
    · have c16 := i_ne (a := x15.toInt) (b := 0) rfl (by decide) c16
      refine ae_iconst (v := 0) (q := 71) dX2_isWaitOver_70 (by decide) rfl ?_
      refine ae_iret dX2_isWaitOver_71 rfl rfl ?_
      exact ⟨⟨_, rfl, (by decide), (by decide)⟩, rfl⟩
    · have c16 := i_eq (a := x15.toInt) (b := 0) rfl (by decide) c16
      refine ae_iconst (v := 1) (q := 67) dX2_isWaitOver_66 (by decide) rfl ?_
      refine ae_goto (q := 71) dX2_isWaitOver_67 (by decide) ?_
      refine ae_iret dX2_isWaitOver_71 rfl rfl ?_
      exact ⟨⟨_, rfl, (by decide), (by decide)⟩, rfl⟩
set_option maxRecDepth 100000 in
set_option maxHeartbeats 4000000 in
theorem c_X2_wakeAll {ox : List (Nat × (Nat → Int32))} {d N : Nat} {B H : am_H} {p0 : Nat} {p1 : Nat}  (h : jc N B 320 H) (lp0 : p0 < 320) (tp0 : ty p0 = 5) (lp1 : p1 < 320) (tp1 : ty p1 = 14) : am_DB 0 ox (d + 3) yX2_wakeAll mX2_wakeAll [.ref p0, .ref p1] H (fun o H1 => o = .inl none ∧ jc N B 320 H1) := by
  refine ae_enter rfl rfl rfl rfl (Nat.le_of_ble_eq_true rfl) ?_
  show am_EB 0 ox (d + 3) mX2_wakeAll 0 [(0, .ref p0), (1, .ref p1)] [] H _
  refine ae_iconst (v := 0) (q := 1) dX2_wakeAll_0 (by decide) rfl ?_
  refine ae_istore_n (lv' := [(2, .int 0), (0, .ref p0), (1, .ref p1)]) (q := 2) dX2_wakeAll_1 rfl (by decide) rfl rfl ?_
  have lab2 : ∀ (n1 : Nat) (y1_2 : Int32) (K1 : am_H), jc N B 320 K1 → 0 ≤ y1_2.toInt → y1_2.toInt ≤ 48 → 48 - y1_2.toInt ≤ (n1 : Int) → am_EB 0 ox (d + 3) mX2_wakeAll 2 [(2, .int y1_2), (0, .ref p0), (1, .ref p1)] [] K1 (fun o H1 => o = .inl none ∧ jc N B 320 H1) := by
    intro n1
    induction n1 using Nat.strongRecOn with
    | ind n1 ih1 =>
      intro y1_2 K1 h p1_2 q1_2 mm1
      refine ae_iload_n (q := 3) dX2_wakeAll_2 rfl rfl rfl ?_
      refine ae_aload_n (q := 4) dX2_wakeAll_3 rfl rfl rfl ?_
      refine ae_getI (q := 7) dX2_wakeAll_4 fl_X2_64 rfl (h.s lp0 tp0) (h.l lp0) rfl ?_
      obtain ⟨x2, e2, u2, v2⟩ := rdi (h.i lp0 tp0 (k := 2) (p := (0, 48)) rfl)
      refine ae_eqi e2 ?_
      refine ae_icmp_ge (t := 57) (q := 10) dX2_wakeAll_7 (by decide) rfl (fun c3 => ?_) (fun c3 => ?_)
      · have c3 := i_le (a := x2.toInt) (b := y1_2.toInt) rfl rfl c3
        refine ae_vret dX2_wakeAll_57 rfl ?_
        exact ⟨rfl, h⟩
      · have c3 := i_nle (a := x2.toInt) (b := y1_2.toInt) rfl rfl c3
        refine ae_aload_n (q := 11) dX2_wakeAll_10 rfl rfl rfl ?_
        obtain ⟨b4, r4, l4, t4⟩ := h.r lp0 tp0 (k := 1) (T' := 7) rfl (by decide)
        refine ae_getR (q := 14) dX2_wakeAll_11 fl_X2_24 rfl (h.s lp0 tp0) (h.l lp0) r4 rfl ?_
        refine ae_iload_n (q := 15) dX2_wakeAll_14 rfl rfl rfl ?_
        obtain ⟨b5, r5, l5, t5⟩ := h.r l4 t4 (k := y1_2.toNatClampNeg) (T' := 8) (if_pos (ixn (by omega) (by omega))) (by decide)
        refine ae_aald (q := 16) dX2_wakeAll_15 (show am_sh K1 b4 = (103 + 4, 48) from h.s l4 t4) (show am_kinds[6]? = some (103 + 4, .object RX4) from rfl) (h.l l4) (vin (by omega) (by omega)) r5 rfl ?_
        refine ae_getI (q := 19) dX2_wakeAll_16 fl_X2_124 rfl (h.s l5 t5) (h.l l5) rfl ?_
        obtain ⟨x6, e6, u6, v6⟩ := rdi (h.i l5 t5 (k := 7) (p := (0, 3)) rfl)
        refine ae_eqi e6 ?_
        refine ae_iconst (v := 2) (q := 20) dX2_wakeAll_19 (by decide) rfl ?_
        refine ae_icmp_ne (t := 51) (q := 23) dX2_wakeAll_20 (by decide) rfl (fun c7 => ?_) (fun c7 => ?_)
        · have c7 := i_ne (a := x6.toInt) (b := 2) rfl (by decide) c7
          obtain ⟨x8, e8⟩ : ∃ z, y1_2 + Int32.ofInt 1 = z := ⟨_, rfl⟩
          have f8 : x8.toInt = y1_2.toInt + 1 := by rw [← e8]; exact i_add rfl (by decide) (by omega) (by omega)
          refine ae_iinc (v := x8) (lv' := [(2, .int x8), (0, .ref p0), (1, .ref p1)]) (q := 54) dX2_wakeAll_51 rfl e8 (by decide) rfl rfl ?_
          refine ae_goto (q := 2) dX2_wakeAll_54 (by decide) ?_
          exact ae_lv (lv' := [(2, .int x8), (0, .ref p0), (1, .ref p1)]) ⟨rfl, rfl, rfl, trivial⟩ (ih1 (n1 - 1) (by omega) x8 _ h (by omega) (by omega) (by omega))
        · have c7 := i_eq (a := x6.toInt) (b := 2) rfl (by decide) c7
          refine ae_aload_n (q := 24) dX2_wakeAll_23 rfl rfl rfl ?_
          refine ae_aload_n (q := 25) dX2_wakeAll_24 rfl rfl rfl ?_
          refine ae_getR (q := 28) dX2_wakeAll_25 fl_X2_24 rfl (h.s lp0 tp0) (h.l lp0) r4 rfl ?_
          refine ae_iload_n (q := 29) dX2_wakeAll_28 rfl rfl rfl ?_
          refine ae_aald (q := 30) dX2_wakeAll_29 (show am_sh K1 b4 = (103 + 4, 48) from h.s l4 t4) (show am_kinds[6]? = some (103 + 4, .object RX4) from rfl) (h.l l4) (vin (by omega) (by omega)) r5 rfl ?_
          refine ae_callV (ci := 2) (as := [.ref b5]) (b := p0) (st := []) (q := 33) dX2_wakeAll_30 (c_X2_isWaitOver (N := N) (d := d) h lp0 tp0 l5 t5) myX2_isWaitOver lk_X2_278 im_X2_isWaitOver se_X2_isWaitOver rfl (by decide) (h.s lp0 tp0) (h.l lp0) rfl rfl (Nat.le_of_ble_eq_true rfl) rfl (fun o H1 hh => ⟨_, hh.1.choose_spec.1⟩) (fun vv G9 hv => ?_)
          obtain ⟨⟨x9, o9, u9, v9⟩, z9⟩ := hv
          cases o9
          have z9 := z9.symm
          subst z9
          refine ⟨Or.inl rfl, ?_⟩
          refine ae_if_eq (t := 51) (q := 36) dX2_wakeAll_33 (by decide) rfl (fun c10 => ?_) (fun c10 => ?_)
          · have c10 := i_eq (a := x9.toInt) (b := 0) rfl (by decide) c10
            obtain ⟨x11, e11⟩ : ∃ z, y1_2 + Int32.ofInt 1 = z := ⟨_, rfl⟩
            have f11 : x11.toInt = y1_2.toInt + 1 := by rw [← e11]; exact i_add rfl (by decide) (by omega) (by omega)
            refine ae_iinc (v := x11) (lv' := [(2, .int x11), (0, .ref p0), (1, .ref p1)]) (q := 54) dX2_wakeAll_51 rfl e11 (by decide) rfl rfl ?_
            refine ae_goto (q := 2) dX2_wakeAll_54 (by decide) ?_
            exact ae_lv (lv' := [(2, .int x11), (0, .ref p0), (1, .ref p1)]) ⟨rfl, rfl, rfl, trivial⟩ (ih1 (n1 - 1) (by omega) x11 _ h (by omega) (by omega) (by omega))
          · have c10 := i_ne (a := x9.toInt) (b := 0) rfl (by decide) c10
            refine ae_aload_n (q := 37) dX2_wakeAll_36 rfl rfl rfl ?_
            refine ae_getR (q := 40) dX2_wakeAll_37 fl_X2_24 rfl (h.s lp0 tp0) (h.l lp0) r4 rfl ?_
            refine ae_iload_n (q := 41) dX2_wakeAll_40 rfl rfl rfl ?_
            refine ae_aald (q := 42) dX2_wakeAll_41 (show am_sh K1 b4 = (103 + 4, 48) from h.s l4 t4) (show am_kinds[6]? = some (103 + 4, .object RX4) from rfl) (h.l l4) (vin (by omega) (by omega)) r5 rfl ?_
            refine ae_iconst (v := 0) (q := 43) dX2_wakeAll_42 (by decide) rfl ?_
            refine ae_putI (q := 46) dX2_wakeAll_43 fl_X2_124 rfl rfl rfl (h.s l5 t5) (h.l l5) rfl ?_
            refine ae_gen (fun G12 g12 => ?_)
            have h : jc N B 320 G12 := by rw [g12]; exact h.w t5 (by decide) (by decide) (mk_inr (lo := 0) (hi := 3) (by decide) (by decide))
            refine ae_aload_n (q := 47) dX2_wakeAll_46 rfl rfl rfl ?_
            refine ae_iload_n (q := 48) dX2_wakeAll_47 rfl rfl rfl ?_
            refine ae_callV (ci := 5) (as := [.int y1_2]) (b := p1) (st := []) (q := 51) dX2_wakeAll_48 (c_X5_append (N := N) (d := d + 2) h lp1 tp1 (by omega) (by omega)) myX5_append lk_X2_93 im_X5_append se_X5_append rfl (by decide) (h.s lp1 tp1) (h.l lp1) rfl rfl (Nat.le_of_ble_eq_true rfl) rfl (fun o H1 hh => ⟨_, hh.1⟩) (fun vv G13 hv => ?_)
            obtain ⟨o13, z13⟩ := hv
            cases o13
            refine ⟨Or.inl (z13.nx.trans h.nx.symm), ?_⟩
            have h : jc N B 320 G13 := z13
            clear z13
            obtain ⟨x14, e14⟩ : ∃ z, y1_2 + Int32.ofInt 1 = z := ⟨_, rfl⟩
            have f14 : x14.toInt = y1_2.toInt + 1 := by rw [← e14]; exact i_add rfl (by decide) (by omega) (by omega)
            refine ae_iinc (v := x14) (lv' := [(2, .int x14), (0, .ref p0), (1, .ref p1)]) (q := 54) dX2_wakeAll_51 rfl e14 (by decide) rfl rfl ?_
            refine ae_goto (q := 2) dX2_wakeAll_54 (by decide) ?_
            exact ae_lv (lv' := [(2, .int x14), (0, .ref p0), (1, .ref p1)]) ⟨rfl, rfl, rfl, trivial⟩ (ih1 (n1 - 1) (by omega) x14 _ h (by omega) (by omega) (by omega))
  exact ae_lv (lv' := [(2, .int 0), (0, .ref p0), (1, .ref p1)]) ⟨rfl, rfl, rfl, trivial⟩ (lab2 48 0 _ h (by decide) (by decide) (show 48 - (0 : Int32).toInt ≤ _ from by rw [show (0 : Int32).toInt = 0 from by decide]; omega))
set_option maxRecDepth 100000 in
set_option maxHeartbeats 4000000 in
theorem c_X2_finish {ox : List (Nat × (Nat → Int32))} {d N : Nat} {B H : am_H} {p0 : Nat} {p1 : Nat}  (h : jc N B 320 H) (lp0 : p0 < 320) (tp0 : ty p0 = 5) (lp1 : p1 < 320) (tp1 : ty p1 = 8) : am_DB 0 ox (d + 2) yX2_finish mX2_finish [.ref p0, .ref p1] H (fun o H1 => o = .inl none ∧ jc N B 320 H1) := by
  refine ae_enter rfl rfl rfl rfl (Nat.le_of_ble_eq_true rfl) ?_
  show am_EB 0 ox (d + 2) mX2_finish 0 [(0, .ref p0), (1, .ref p1)] [] H _
  refine ae_aload_n (q := 1) dX2_finish_0 rfl rfl rfl ?_
  refine ae_iconst (v := 3) (q := 2) dX2_finish_1 (by decide) rfl ?_
  refine ae_putI (q := 5) dX2_finish_2 fl_X2_124 rfl rfl rfl (h.s lp1 tp1) (h.l lp1) rfl ?_
  refine ae_gen (fun G1 g1 => ?_)
  have h : jc N B 320 G1 := by rw [g1]; exact h.w tp1 (by decide) (by decide) (mk_inr (lo := 0) (hi := 3) (by decide) (by decide))
  refine ae_iconst (v := 0) (q := 6) dX2_finish_5 (by decide) rfl ?_
  refine ae_istore_n (lv' := [(2, .int 0), (0, .ref p0), (1, .ref p1)]) (q := 7) dX2_finish_6 rfl (by decide) rfl rfl ?_
  refine ae_iload_n (q := 8) dX2_finish_7 rfl rfl rfl ?_
  refine ae_iconst (v := 2) (q := 9) dX2_finish_8 (by decide) rfl ?_
  refine ae_icmp_ge (t := 31) (q := 12) dX2_finish_9 (by decide) rfl (fun h => absurd h (by decide)) (fun _ => ?_)
  refine ae_aload_n (q := 13) dX2_finish_12 rfl rfl rfl ?_
  obtain ⟨b2, r2, l2, t2⟩ := h.r lp0 tp0 (k := 4) (T' := 10) rfl (by decide)
  refine ae_getR (q := 16) dX2_finish_13 fl_X2_33 rfl (h.s lp0 tp0) (h.l lp0) r2 rfl ?_
  refine ae_iload_n (q := 17) dX2_finish_16 rfl rfl rfl ?_
  obtain ⟨b3, r3, l3, t3⟩ := h.r l2 t2 (k := (0 : Int32).toNatClampNeg) (T' := 11) rfl (by decide)
  refine ae_aald (q := 18) dX2_finish_17 (show am_sh G1 b2 = (103 + 1, 2) from h.s l2 t2) (show am_kinds[4]? = some (103 + 1, .object RX1) from rfl) (h.l l2) (by unfold vp_in; decide) r3 rfl ?_
  refine ae_aload_n (q := 19) dX2_finish_18 rfl rfl rfl ?_
  refine ae_getI (q := 22) dX2_finish_19 fl_X2_222 rfl (h.s lp1 tp1) (h.l lp1) rfl ?_
  obtain ⟨x4, e4, u4, v4⟩ := rdi (h.i lp1 tp1 (k := 0) (p := (0, 47)) rfl)
  refine ae_eqi e4 ?_
  refine ae_callV (ci := 1) (as := [.int x4]) (b := b3) (st := []) (q := 25) dX2_finish_22 (c_X1_leave (N := N) (d := d) h l3 t3 (by omega) (by omega)) myX1_leave lk_X2_243 im_X1_leave se_X1_leave rfl (by decide) (h.s l3 t3) (h.l l3) rfl rfl (Nat.le_of_ble_eq_true rfl) rfl (fun o H1 hh => ⟨_, hh.1⟩) (fun vv G5 hv => ?_)
  obtain ⟨o5, z5⟩ := hv
  cases o5
  refine ⟨Or.inl (z5.nx.trans h.nx.symm), ?_⟩
  have h : jc N B 320 G5 := z5
  clear z5
  refine ae_iinc (v := 1) (lv' := [(2, .int 1), (0, .ref p0), (1, .ref p1)]) (q := 28) dX2_finish_25 rfl (by decide) (by decide) rfl rfl ?_
  refine ae_goto (q := 7) dX2_finish_28 (by decide) ?_
  refine ae_iload_n (q := 8) dX2_finish_7 rfl rfl rfl ?_
  refine ae_iconst (v := 2) (q := 9) dX2_finish_8 (by decide) rfl ?_
  refine ae_icmp_ge (t := 31) (q := 12) dX2_finish_9 (by decide) rfl (fun h => absurd h (by decide)) (fun _ => ?_)
  refine ae_aload_n (q := 13) dX2_finish_12 rfl rfl rfl ?_
  obtain ⟨b6, r6, l6, t6⟩ := h.r lp0 tp0 (k := 4) (T' := 10) rfl (by decide)
  refine ae_getR (q := 16) dX2_finish_13 fl_X2_33 rfl (h.s lp0 tp0) (h.l lp0) r6 rfl ?_
  refine ae_iload_n (q := 17) dX2_finish_16 rfl rfl rfl ?_
  obtain ⟨b7, r7, l7, t7⟩ := h.r l6 t6 (k := (1 : Int32).toNatClampNeg) (T' := 11) rfl (by decide)
  refine ae_aald (q := 18) dX2_finish_17 (show am_sh G5 b6 = (103 + 1, 2) from h.s l6 t6) (show am_kinds[4]? = some (103 + 1, .object RX1) from rfl) (h.l l6) (by unfold vp_in; decide) r7 rfl ?_
  refine ae_aload_n (q := 19) dX2_finish_18 rfl rfl rfl ?_
  refine ae_getI (q := 22) dX2_finish_19 fl_X2_222 rfl (h.s lp1 tp1) (h.l lp1) rfl ?_
  obtain ⟨x8, e8, u8, v8⟩ := rdi (h.i lp1 tp1 (k := 0) (p := (0, 47)) rfl)
  refine ae_eqi e8 ?_
  refine ae_callV (ci := 1) (as := [.int x8]) (b := b7) (st := []) (q := 25) dX2_finish_22 (c_X1_leave (N := N) (d := d) h l7 t7 (by omega) (by omega)) myX1_leave lk_X2_243 im_X1_leave se_X1_leave rfl (by decide) (h.s l7 t7) (h.l l7) rfl rfl (Nat.le_of_ble_eq_true rfl) rfl (fun o H1 hh => ⟨_, hh.1⟩) (fun vv G9 hv => ?_)
  obtain ⟨o9, z9⟩ := hv
  cases o9
  refine ⟨Or.inl (z9.nx.trans h.nx.symm), ?_⟩
  have h : jc N B 320 G9 := z9
  clear z9
  refine ae_iinc (v := 2) (lv' := [(2, .int 2), (0, .ref p0), (1, .ref p1)]) (q := 28) dX2_finish_25 rfl (by decide) (by decide) rfl rfl ?_
  refine ae_goto (q := 7) dX2_finish_28 (by decide) ?_
  refine ae_iload_n (q := 8) dX2_finish_7 rfl rfl rfl ?_
  refine ae_iconst (v := 2) (q := 9) dX2_finish_8 (by decide) rfl ?_
  refine ae_icmp_ge (t := 31) (q := 12) dX2_finish_9 (by decide) rfl (fun _ => ?_) (fun h => absurd h (by decide))
  refine ae_aload_n (q := 32) dX2_finish_31 rfl rfl rfl ?_
  obtain ⟨b10, r10, l10, t10⟩ := h.r lp1 tp1 (k := 3) (T' := 6) rfl (by decide)
  refine ae_getR (q := 35) dX2_finish_32 fl_X2_275 rfl (h.s lp1 tp1) (h.l lp1) r10 rfl ?_
  refine ae_dup (q := 36) dX2_finish_35 rfl rfl ?_
  refine ae_getI (q := 39) dX2_finish_36 fl_X2_90 rfl (h.s l10 t10) (h.l l10) rfl ?_
  obtain ⟨x11, e11⟩ : ∃ x, am_gi G9 b10 2 = x := ⟨_, rfl⟩
  refine ae_eqi e11 ?_
  refine ae_iconst (v := 1) (q := 40) dX2_finish_39 (by decide) rfl ?_
  refine ae_isub (q := 41) dX2_finish_40 rfl ?_
  obtain ⟨x12, e12⟩ : ∃ z, x11 - 1 = z := ⟨_, rfl⟩
  refine ae_eqi e12 ?_
  refine ae_putI (q := 44) dX2_finish_41 fl_X2_90 rfl rfl rfl (h.s l10 t10) (h.l l10) rfl ?_
  refine ae_gen (fun G13 g13 => ?_)
  have h : jc N B 320 G13 := by rw [g13]; exact h.w t10 (by decide) (fun q => absurd q.1 (by decide)) inr_any
  refine ae_vret dX2_finish_44 rfl ?_
  exact ⟨rfl, h⟩
set_option maxRecDepth 100000 in
set_option maxHeartbeats 4000000 in
theorem c_X2_endInnermost {ox : List (Nat × (Nat → Int32))} {d N : Nat} {B H : am_H} {p0 : Nat} {p1 : Nat}  (h : jc N B 320 H) (lp0 : p0 < 320) (tp0 : ty p0 = 5) (lp1 : p1 < 320) (tp1 : ty p1 = 8) : am_DB 0 ox (d + 3) yX2_endInnermost mX2_endInnermost [.ref p0, .ref p1] H (fun o H1 => o = .inl none ∧ jc N B 320 H1) := by
  refine ae_enter rfl rfl rfl rfl (Nat.le_of_ble_eq_true rfl) ?_
  show am_EB 0 ox (d + 3) mX2_endInnermost 0 [(0, .ref p0), (1, .ref p1)] [] H _
  refine ae_aload_n (q := 1) dX2_endInnermost_0 rfl rfl rfl ?_
  refine ae_getI (q := 4) dX2_endInnermost_1 fl_X2_231 rfl (h.s lp1 tp1) (h.l lp1) rfl ?_
  obtain ⟨x1, e1, u1, v1⟩ := rdi (h.i lp1 tp1 (k := 2) (p := (0, 3)) rfl)
  refine ae_eqi e1 ?_
  refine ae_if_le (t := 15) (q := 7) dX2_endInnermost_4 (by decide) rfl (fun c2 => ?_) (fun c2 => ?_)
  · have c2 := i_le (a := x1.toInt) (b := 0) rfl (by decide) c2
    refine ae_aload_n (q := 16) dX2_endInnermost_15 rfl rfl rfl ?_
    refine ae_aload_n (q := 17) dX2_endInnermost_16 rfl rfl rfl ?_
    refine ae_callV (ci := 2) (as := [.ref p1]) (b := p0) (st := []) (q := 20) dX2_endInnermost_17 (c_X2_finish (N := N) (d := d) h lp0 tp0 lp1 tp1) myX2_finish lk_X2_272 im_X2_finish se_X2_finish rfl (by decide) (h.s lp0 tp0) (h.l lp0) rfl rfl (Nat.le_of_ble_eq_true rfl) rfl (fun o H1 hh => ⟨_, hh.1⟩) (fun vv G3 hv => ?_)
    obtain ⟨o3, z3⟩ := hv
    cases o3
    refine ⟨Or.inl (z3.nx.trans h.nx.symm), ?_⟩
    have h : jc N B 320 G3 := z3
    clear z3
    refine ae_vret dX2_endInnermost_20 rfl ?_
    exact ⟨rfl, h⟩
  · have c2 := i_nle (a := x1.toInt) (b := 0) rfl (by decide) c2
    refine ae_aload_n (q := 8) dX2_endInnermost_7 rfl rfl rfl ?_
    refine ae_iconst (v := 4) (q := 9) dX2_endInnermost_8 (by decide) rfl ?_
    refine ae_putI (q := 12) dX2_endInnermost_9 fl_X2_127 rfl rfl rfl (h.s lp1 tp1) (h.l lp1) rfl ?_
    refine ae_gen (fun G4 g4 => ?_)
    have h : jc N B 320 G4 := by rw [g4]; exact h.wdue tp1 (mk_inr (by decide) (by decide)) (fun _ => by rw [e1]; omega)
    refine ae_goto (q := 20) dX2_endInnermost_12 (by decide) ?_
    refine ae_vret dX2_endInnermost_20 rfl ?_
    exact ⟨rfl, h⟩
set_option maxRecDepth 100000 in
set_option maxHeartbeats 4000000 in
theorem c_X2_endScope {ox : List (Nat × (Nat → Int32))} {d N : Nat} {B H : am_H} {p0 : Nat} {p1 : Nat} (hN : N + 0 ≤ 1000000) (h : jc N B 320 H) (lp0 : p0 < 320) (tp0 : ty p0 = 5) (lp1 : p1 < 320) (tp1 : ty p1 = 8) {xd : Int32} (e_xd : am_gi H p1 8 = xd) (u_xd : 3 ≤ xd.toInt) (v_xd : xd.toInt ≤ 4) : am_DB 0 ox (d + 1) yX2_endScope mX2_endScope [.ref p0, .ref p1] H (fun o H1 => (∃ v : Int32, o = .inl (some (.int v))) ∧ jc (N + 1) B 320 H1) := by
  refine ae_enter rfl rfl rfl rfl (Nat.le_of_ble_eq_true rfl) ?_
  show am_EB 0 ox (d + 1) mX2_endScope 0 [(0, .ref p0), (1, .ref p1)] [] H _
  refine ae_aload_n (q := 1) dX2_endScope_0 rfl rfl rfl ?_
  refine ae_callV (ci := 4) (as := []) (b := p1) (st := []) (q := 4) dX2_endScope_1 (c_X4_innerScope (N := N) (d := d) h lp1 tp1) myX4_innerScope lk_X2_151 im_X4_innerScope se_X4_innerScope rfl (by decide) (h.s lp1 tp1) (h.l lp1) rfl rfl (Nat.le_of_ble_eq_true rfl) rfl (fun o H1 hh => ⟨_, hh.1.choose_spec.1⟩) (fun vv G1 hv => ?_)
  obtain ⟨⟨b1, o1, l1, t1⟩, z1⟩ := hv
  cases o1
  have z1 := z1.symm
  subst z1
  refine ⟨Or.inl rfl, ?_⟩
  refine ae_astore_n (lv' := [(2, .ref b1), (0, .ref p0), (1, .ref p1)]) (q := 5) dX2_endScope_4 rfl (by decide) rfl rfl ?_
  refine ae_aload_n (q := 6) dX2_endScope_5 rfl rfl rfl ?_
  refine ae_getI (q := 9) dX2_endScope_6 fl_X2_90 rfl (h.s l1 t1) (h.l l1) rfl ?_
  obtain ⟨x2, e2⟩ : ∃ x, am_gi H b1 2 = x := ⟨_, rfl⟩
  refine ae_eqi e2 ?_
  refine ae_if_le (t := 19) (q := 12) dX2_endScope_9 (by decide) rfl (fun c3 => ?_) (fun c3 => ?_)
  · have c3 := i_le (a := x2.toInt) (b := 0) rfl (by decide) c3
    refine ae_aload_n (q := 20) dX2_endScope_19 rfl rfl rfl ?_
    refine ae_getI (q := 23) dX2_endScope_20 fl_X2_127 rfl (h.s lp1 tp1) (h.l lp1) rfl ?_
    refine ae_eqi e_xd ?_
    refine ae_iconst (v := 3) (q := 24) dX2_endScope_23 (by decide) rfl ?_
    refine ae_icmp_ne (t := 31) (q := 27) dX2_endScope_24 (by decide) rfl (fun c4 => ?_) (fun c4 => ?_)
    · have c4 := i_ne (a := xd.toInt) (b := 3) rfl (by decide) c4
      refine ae_iconst (v := 0) (q := 32) dX2_endScope_31 (by decide) rfl ?_
      refine ae_istore_n (lv' := [(3, .int 0), (2, .ref b1), (0, .ref p0), (1, .ref p1)]) (q := 33) dX2_endScope_32 rfl (by decide) rfl rfl ?_
      obtain ⟨x5, e5, u5, v5⟩ := rdi (h.i lp1 tp1 (k := 2) (p := (0, 3)) rfl)
      have w6 : 1 ≤ x5.toInt := by rw [← e5]; exact h.own1 lp1 tp1 (by rw [e_xd]; omega)
      refine ae_aload_n (q := 34) dX2_endScope_33 rfl rfl rfl ?_
      refine ae_dup (q := 35) dX2_endScope_34 rfl rfl ?_
      refine ae_getI (q := 38) dX2_endScope_35 fl_X2_231 rfl (h.s lp1 tp1) (h.l lp1) rfl ?_
      refine ae_eqi e5 ?_
      refine ae_iconst (v := 1) (q := 39) dX2_endScope_38 (by decide) rfl ?_
      refine ae_isub (q := 40) dX2_endScope_39 rfl ?_
      obtain ⟨x7, e7⟩ : ∃ z, x5 - 1 = z := ⟨_, rfl⟩
      refine ae_eqi e7 ?_
      have f7 : x7.toInt = x5.toInt - 1 := by rw [← e7]; exact i_sub rfl (by decide) (by omega) (by omega)
      refine ae_putI (q := 43) dX2_endScope_40 fl_X2_231 rfl rfl rfl (h.s lp1 tp1) (h.l lp1) rfl ?_
      refine ae_gen (fun G8 g8 => ?_)
      have h : jc N B p1 G8 := by rw [g8]; exact h.wown0 tp1 (mk_inr (by omega) (by omega))
      refine ae_aload_n (q := 44) dX2_endScope_43 rfl rfl rfl ?_
      refine ae_iconst (v := 0) (q := 45) dX2_endScope_44 (by decide) rfl ?_
      refine ae_putI (q := 48) dX2_endScope_45 fl_X2_127 rfl rfl rfl (h.s lp1 tp1) (h.l lp1) rfl ?_
      refine ae_gen (fun G9 g9 => ?_)
      have h : jc N B 320 G9 := by rw [g9]; exact h.wdue0 tp1 (mk_inr (by decide) (by decide))
      refine ae_aload_n (q := 49) dX2_endScope_48 rfl rfl rfl ?_
      refine ae_getI (q := 52) dX2_endScope_49 fl_X2_259 rfl (h.s l1 t1) (h.l l1) rfl ?_
      obtain ⟨x10, e10⟩ : ∃ x, am_gi G9 b1 4 = x := ⟨_, rfl⟩
      refine ae_eqi e10 ?_
      refine ae_if_ne (t := 87) (q := 55) dX2_endScope_52 (by decide) rfl (fun c11 => ?_) (fun c11 => ?_)
      · have c11 := i_ne (a := x10.toInt) (b := 0) rfl (by decide) c11
        refine ae_aload_n (q := 88) dX2_endScope_87 rfl rfl rfl ?_
        refine ae_getI (q := 91) dX2_endScope_88 fl_X2_266 rfl (h.s l1 t1) (h.l l1) rfl ?_
        obtain ⟨x12, e12, u12, v12⟩ := rdi (h.i l1 t1 (k := 1) (p := (0, 15)) rfl)
        refine ae_eqi e12 ?_
        refine ae_if_ne (t := 99) (q := 94) dX2_endScope_91 (by decide) rfl (fun c13 => ?_) (fun c13 => ?_)
        · have c13 := i_ne (a := x12.toInt) (b := 0) rfl (by decide) c13
          refine ae_aload_n (q := 100) dX2_endScope_99 rfl rfl rfl ?_
          refine ae_aload_n (q := 101) dX2_endScope_100 rfl rfl rfl ?_
          refine ae_getI (q := 104) dX2_endScope_101 fl_X2_269 rfl (h.s l1 t1) (h.l l1) rfl ?_
          obtain ⟨x14, e14⟩ : ∃ x, am_gi G9 b1 5 = x := ⟨_, rfl⟩
          refine ae_eqi e14 ?_
          refine ae_putI (q := 107) dX2_endScope_104 fl_X2_180 rfl rfl rfl (h.s lp1 tp1) (h.l lp1) rfl ?_
          refine ae_gen (fun G15 g15 => ?_)
          have h : jc N B 320 G15 := by rw [g15]; exact h.w tp1 (by decide) (by decide) inr_any
          refine ae_aload_n (q := 108) dX2_endScope_107 rfl rfl rfl ?_
          refine ae_aload_n (q := 109) dX2_endScope_108 rfl rfl rfl ?_
          refine ae_getI (q := 112) dX2_endScope_109 fl_X2_266 rfl (h.s l1 t1) (h.l l1) rfl ?_
          have m16 : am_gi G15 b1 1 = x12 := by rw [g15]; exact gi_si e12 (fun q => absurd (t1.symm.trans ((congrArg ty q.1).trans tp1)) (by decide))
          refine ae_eqi m16 ?_
          refine ae_putI (q := 115) dX2_endScope_112 fl_X2_134 rfl rfl rfl (h.s lp1 tp1) (h.l lp1) rfl ?_
          refine ae_gen (fun G17 g17 => ?_)
          have h : jc N B 320 G17 := by rw [g17]; exact h.w tp1 (by decide) (by decide) (mk_inr (lo := 0) (hi := 16 + ((N : Nat) : Int)) (by omega) (by omega))
          refine ae_iconst (v := 0) (q := 116) dX2_endScope_115 (by decide) rfl ?_
          refine ae_iret dX2_endScope_116 rfl rfl ?_
          exact ⟨⟨_, rfl⟩, (h.up (by omega))⟩
        · have c13 := i_eq (a := x12.toInt) (b := 0) rfl (by decide) c13
          refine ae_aload_n (q := 95) dX2_endScope_94 rfl rfl rfl ?_
          refine ae_getI (q := 98) dX2_endScope_95 fl_X2_269 rfl (h.s l1 t1) (h.l l1) rfl ?_
          obtain ⟨x18, e18⟩ : ∃ x, am_gi G9 b1 5 = x := ⟨_, rfl⟩
          refine ae_eqi e18 ?_
          refine ae_iret dX2_endScope_98 rfl rfl ?_
          exact ⟨⟨_, rfl⟩, (h.up (by omega))⟩
      · have c11 := i_eq (a := x10.toInt) (b := 0) rfl (by decide) c11
        refine ae_aload_n (q := 56) dX2_endScope_55 rfl rfl rfl ?_
        refine ae_aload_n (q := 57) dX2_endScope_56 rfl rfl rfl ?_
        refine ae_aload_n (q := 58) dX2_endScope_57 rfl rfl rfl ?_
        refine ae_getI (q := 61) dX2_endScope_58 fl_X2_180 rfl (h.s lp1 tp1) (h.l lp1) rfl ?_
        obtain ⟨x19, e19⟩ : ∃ x, am_gi G9 p1 5 = x := ⟨_, rfl⟩
        refine ae_eqi e19 ?_
        refine ae_callV (ci := 3) (as := [.int x19]) (b := b1) (st := [.ref p1]) (q := 64) dX2_endScope_61 (c_X3_sumAfter (N := N) (d := d) h l1 t1) myX3_sumAfter lk_X2_262 im_X3_sumAfter se_X3_sumAfter rfl (by decide) (h.s l1 t1) (h.l l1) rfl rfl (Nat.le_of_ble_eq_true rfl) rfl (fun o H1 hh => ⟨_, hh.1.choose_spec⟩) (fun vv G20 hv => ?_)
        obtain ⟨⟨x20, o20⟩, z20⟩ := hv
        cases o20
        have z20 := z20.symm
        subst z20
        refine ⟨Or.inl rfl, ?_⟩
        refine ae_putI (q := 67) dX2_endScope_64 fl_X2_180 rfl rfl rfl (h.s lp1 tp1) (h.l lp1) rfl ?_
        refine ae_gen (fun G21 g21 => ?_)
        have h : jc N B 320 G21 := by rw [g21]; exact h.w tp1 (by decide) (by decide) inr_any
        refine ae_aload_n (q := 68) dX2_endScope_67 rfl rfl rfl ?_
        refine ae_dup (q := 69) dX2_endScope_68 rfl rfl ?_
        refine ae_getI (q := 72) dX2_endScope_69 fl_X2_134 rfl (h.s lp1 tp1) (h.l lp1) rfl ?_
        obtain ⟨x22, e22, u22, v22⟩ := rdi (h.i lp1 tp1 (k := 6) (p := (0, 16 + ((N : Nat) : Int))) rfl)
        refine ae_eqi e22 ?_
        refine ae_iload_n (q := 73) dX2_endScope_72 rfl rfl rfl ?_
        refine ae_if_eq (t := 80) (q := 76) dX2_endScope_73 (by decide) rfl (fun _ => ?_) (fun h => absurd h (by decide))
        refine ae_iconst (v := 0) (q := 81) dX2_endScope_80 (by decide) rfl ?_
        refine ae_iadd (q := 82) dX2_endScope_81 rfl ?_
        obtain ⟨x23, e23⟩ : ∃ z, x22 + 0 = z := ⟨_, rfl⟩
        refine ae_eqi e23 ?_
        have f23 : x23.toInt = x22.toInt + 0 := by rw [← e23]; exact i_add rfl (by decide) (by omega) (by omega)
        have h : jc (N + 1) B 320 G21 := h.up (by omega)
        refine ae_putI (q := 85) dX2_endScope_82 fl_X2_134 rfl rfl rfl (h.s lp1 tp1) (h.l lp1) rfl ?_
        refine ae_gen (fun G24 g24 => ?_)
        have h : jc (N + 1) B 320 G24 := by rw [g24]; exact h.w tp1 (by decide) (by decide) (mk_inr (lo := 0) (hi := 16 + (((N + 1) : Nat) : Int)) (by omega) (by omega))
        refine ae_iconst (v := 0) (q := 86) dX2_endScope_85 (by decide) rfl ?_
        refine ae_iret dX2_endScope_86 rfl rfl ?_
        exact ⟨⟨_, rfl⟩, h⟩
    · have c4 := i_eq (a := xd.toInt) (b := 3) rfl (by decide) c4
      refine ae_iconst (v := 1) (q := 28) dX2_endScope_27 (by decide) rfl ?_
      refine ae_goto (q := 32) dX2_endScope_28 (by decide) ?_
      refine ae_istore_n (lv' := [(3, .int 1), (2, .ref b1), (0, .ref p0), (1, .ref p1)]) (q := 33) dX2_endScope_32 rfl (by decide) rfl rfl ?_
      obtain ⟨x25, e25, u25, v25⟩ := rdi (h.i lp1 tp1 (k := 2) (p := (0, 3)) rfl)
      have w26 : 1 ≤ x25.toInt := by rw [← e25]; exact h.own1 lp1 tp1 (by rw [e_xd]; omega)
      refine ae_aload_n (q := 34) dX2_endScope_33 rfl rfl rfl ?_
      refine ae_dup (q := 35) dX2_endScope_34 rfl rfl ?_
      refine ae_getI (q := 38) dX2_endScope_35 fl_X2_231 rfl (h.s lp1 tp1) (h.l lp1) rfl ?_
      refine ae_eqi e25 ?_
      refine ae_iconst (v := 1) (q := 39) dX2_endScope_38 (by decide) rfl ?_
      refine ae_isub (q := 40) dX2_endScope_39 rfl ?_
      obtain ⟨x27, e27⟩ : ∃ z, x25 - 1 = z := ⟨_, rfl⟩
      refine ae_eqi e27 ?_
      have f27 : x27.toInt = x25.toInt - 1 := by rw [← e27]; exact i_sub rfl (by decide) (by omega) (by omega)
      refine ae_putI (q := 43) dX2_endScope_40 fl_X2_231 rfl rfl rfl (h.s lp1 tp1) (h.l lp1) rfl ?_
      refine ae_gen (fun G28 g28 => ?_)
      have h : jc N B p1 G28 := by rw [g28]; exact h.wown0 tp1 (mk_inr (by omega) (by omega))
      refine ae_aload_n (q := 44) dX2_endScope_43 rfl rfl rfl ?_
      refine ae_iconst (v := 0) (q := 45) dX2_endScope_44 (by decide) rfl ?_
      refine ae_putI (q := 48) dX2_endScope_45 fl_X2_127 rfl rfl rfl (h.s lp1 tp1) (h.l lp1) rfl ?_
      refine ae_gen (fun G29 g29 => ?_)
      have h : jc N B 320 G29 := by rw [g29]; exact h.wdue0 tp1 (mk_inr (by decide) (by decide))
      refine ae_aload_n (q := 49) dX2_endScope_48 rfl rfl rfl ?_
      refine ae_getI (q := 52) dX2_endScope_49 fl_X2_259 rfl (h.s l1 t1) (h.l l1) rfl ?_
      obtain ⟨x30, e30⟩ : ∃ x, am_gi G29 b1 4 = x := ⟨_, rfl⟩
      refine ae_eqi e30 ?_
      refine ae_if_ne (t := 87) (q := 55) dX2_endScope_52 (by decide) rfl (fun c31 => ?_) (fun c31 => ?_)
      · have c31 := i_ne (a := x30.toInt) (b := 0) rfl (by decide) c31
        refine ae_aload_n (q := 88) dX2_endScope_87 rfl rfl rfl ?_
        refine ae_getI (q := 91) dX2_endScope_88 fl_X2_266 rfl (h.s l1 t1) (h.l l1) rfl ?_
        obtain ⟨x32, e32, u32, v32⟩ := rdi (h.i l1 t1 (k := 1) (p := (0, 15)) rfl)
        refine ae_eqi e32 ?_
        refine ae_if_ne (t := 99) (q := 94) dX2_endScope_91 (by decide) rfl (fun c33 => ?_) (fun c33 => ?_)
        · have c33 := i_ne (a := x32.toInt) (b := 0) rfl (by decide) c33
          refine ae_aload_n (q := 100) dX2_endScope_99 rfl rfl rfl ?_
          refine ae_aload_n (q := 101) dX2_endScope_100 rfl rfl rfl ?_
          refine ae_getI (q := 104) dX2_endScope_101 fl_X2_269 rfl (h.s l1 t1) (h.l l1) rfl ?_
          obtain ⟨x34, e34⟩ : ∃ x, am_gi G29 b1 5 = x := ⟨_, rfl⟩
          refine ae_eqi e34 ?_
          refine ae_putI (q := 107) dX2_endScope_104 fl_X2_180 rfl rfl rfl (h.s lp1 tp1) (h.l lp1) rfl ?_
          refine ae_gen (fun G35 g35 => ?_)
          have h : jc N B 320 G35 := by rw [g35]; exact h.w tp1 (by decide) (by decide) inr_any
          refine ae_aload_n (q := 108) dX2_endScope_107 rfl rfl rfl ?_
          refine ae_aload_n (q := 109) dX2_endScope_108 rfl rfl rfl ?_
          refine ae_getI (q := 112) dX2_endScope_109 fl_X2_266 rfl (h.s l1 t1) (h.l l1) rfl ?_
          have m36 : am_gi G35 b1 1 = x32 := by rw [g35]; exact gi_si e32 (fun q => absurd (t1.symm.trans ((congrArg ty q.1).trans tp1)) (by decide))
          refine ae_eqi m36 ?_
          refine ae_putI (q := 115) dX2_endScope_112 fl_X2_134 rfl rfl rfl (h.s lp1 tp1) (h.l lp1) rfl ?_
          refine ae_gen (fun G37 g37 => ?_)
          have h : jc N B 320 G37 := by rw [g37]; exact h.w tp1 (by decide) (by decide) (mk_inr (lo := 0) (hi := 16 + ((N : Nat) : Int)) (by omega) (by omega))
          refine ae_iconst (v := 0) (q := 116) dX2_endScope_115 (by decide) rfl ?_
          refine ae_iret dX2_endScope_116 rfl rfl ?_
          exact ⟨⟨_, rfl⟩, (h.up (by omega))⟩
        · have c33 := i_eq (a := x32.toInt) (b := 0) rfl (by decide) c33
          refine ae_aload_n (q := 95) dX2_endScope_94 rfl rfl rfl ?_
          refine ae_getI (q := 98) dX2_endScope_95 fl_X2_269 rfl (h.s l1 t1) (h.l l1) rfl ?_
          obtain ⟨x38, e38⟩ : ∃ x, am_gi G29 b1 5 = x := ⟨_, rfl⟩
          refine ae_eqi e38 ?_
          refine ae_iret dX2_endScope_98 rfl rfl ?_
          exact ⟨⟨_, rfl⟩, (h.up (by omega))⟩
      · have c31 := i_eq (a := x30.toInt) (b := 0) rfl (by decide) c31
        refine ae_aload_n (q := 56) dX2_endScope_55 rfl rfl rfl ?_
        refine ae_aload_n (q := 57) dX2_endScope_56 rfl rfl rfl ?_
        refine ae_aload_n (q := 58) dX2_endScope_57 rfl rfl rfl ?_
        refine ae_getI (q := 61) dX2_endScope_58 fl_X2_180 rfl (h.s lp1 tp1) (h.l lp1) rfl ?_
        obtain ⟨x39, e39⟩ : ∃ x, am_gi G29 p1 5 = x := ⟨_, rfl⟩
        refine ae_eqi e39 ?_
        refine ae_callV (ci := 3) (as := [.int x39]) (b := b1) (st := [.ref p1]) (q := 64) dX2_endScope_61 (c_X3_sumAfter (N := N) (d := d) h l1 t1) myX3_sumAfter lk_X2_262 im_X3_sumAfter se_X3_sumAfter rfl (by decide) (h.s l1 t1) (h.l l1) rfl rfl (Nat.le_of_ble_eq_true rfl) rfl (fun o H1 hh => ⟨_, hh.1.choose_spec⟩) (fun vv G40 hv => ?_)
        obtain ⟨⟨x40, o40⟩, z40⟩ := hv
        cases o40
        have z40 := z40.symm
        subst z40
        refine ⟨Or.inl rfl, ?_⟩
        refine ae_putI (q := 67) dX2_endScope_64 fl_X2_180 rfl rfl rfl (h.s lp1 tp1) (h.l lp1) rfl ?_
        refine ae_gen (fun G41 g41 => ?_)
        have h : jc N B 320 G41 := by rw [g41]; exact h.w tp1 (by decide) (by decide) inr_any
        refine ae_aload_n (q := 68) dX2_endScope_67 rfl rfl rfl ?_
        refine ae_dup (q := 69) dX2_endScope_68 rfl rfl ?_
        refine ae_getI (q := 72) dX2_endScope_69 fl_X2_134 rfl (h.s lp1 tp1) (h.l lp1) rfl ?_
        obtain ⟨x42, e42, u42, v42⟩ := rdi (h.i lp1 tp1 (k := 6) (p := (0, 16 + ((N : Nat) : Int))) rfl)
        refine ae_eqi e42 ?_
        refine ae_iload_n (q := 73) dX2_endScope_72 rfl rfl rfl ?_
        refine ae_if_eq (t := 80) (q := 76) dX2_endScope_73 (by decide) rfl (fun h => absurd h (by decide)) (fun _ => ?_)
        refine ae_iconst (v := 1) (q := 77) dX2_endScope_76 (by decide) rfl ?_
        refine ae_goto (q := 81) dX2_endScope_77 (by decide) ?_
        refine ae_iadd (q := 82) dX2_endScope_81 rfl ?_
        obtain ⟨x43, e43⟩ : ∃ z, x42 + 1 = z := ⟨_, rfl⟩
        refine ae_eqi e43 ?_
        have f43 : x43.toInt = x42.toInt + 1 := by rw [← e43]; exact i_add rfl (by decide) (by omega) (by omega)
        have h : jc (N + 1) B 320 G41 := h.up (by omega)
        refine ae_putI (q := 85) dX2_endScope_82 fl_X2_134 rfl rfl rfl (h.s lp1 tp1) (h.l lp1) rfl ?_
        refine ae_gen (fun G44 g44 => ?_)
        have h : jc (N + 1) B 320 G44 := by rw [g44]; exact h.w tp1 (by decide) (by decide) (mk_inr (lo := 0) (hi := 16 + (((N + 1) : Nat) : Int)) (by omega) (by omega))
        refine ae_iconst (v := 0) (q := 86) dX2_endScope_85 (by decide) rfl ?_
        refine ae_iret dX2_endScope_86 rfl rfl ?_
        exact ⟨⟨_, rfl⟩, h⟩
  · have c3 := i_nle (a := x2.toInt) (b := 0) rfl (by decide) c3
    refine ae_aload_n (q := 13) dX2_endScope_12 rfl rfl rfl ?_
    refine ae_iconst (v := 2) (q := 14) dX2_endScope_13 (by decide) rfl ?_
    refine ae_putI (q := 17) dX2_endScope_14 fl_X2_124 rfl rfl rfl (h.s lp1 tp1) (h.l lp1) rfl ?_
    refine ae_gen (fun G45 g45 => ?_)
    have h : jc N B 320 G45 := by rw [g45]; exact h.w tp1 (by decide) (by decide) (mk_inr (lo := 0) (hi := 3) (by decide) (by decide))
    refine ae_iconst (v := 0) (q := 18) dX2_endScope_17 (by decide) rfl ?_
    refine ae_iret dX2_endScope_18 rfl rfl ?_
    exact ⟨⟨_, rfl⟩, (h.up (by omega))⟩
set_option maxRecDepth 100000 in
set_option maxHeartbeats 4000000 in
theorem c_X2_say {ox : List (Nat × (Nat → Int32))} {d N : Nat} {B H : am_H} {p0 : Nat} {a1 : Int32} (hN : N + 0 ≤ 1000000) (h : jc N B 320 H) (lp0 : p0 < 320) (tp0 : ty p0 = 5) : am_DB 0 ox d yX2_say mX2_say [.ref p0, .int a1] H (fun o H1 => o = .inl none ∧ jc (N + 1) B 320 H1) := by
  refine ae_enter rfl rfl rfl rfl (Nat.le_of_ble_eq_true rfl) ?_
  show am_EB 0 ox d mX2_say 0 [(0, .ref p0), (1, .int a1)] [] H _
  refine ae_aload_n (q := 1) dX2_say_0 rfl rfl rfl ?_
  refine ae_getI (q := 4) dX2_say_1 fl_X2_67 rfl (h.s lp0 tp0) (h.l lp0) rfl ?_
  obtain ⟨x1, e1, u1, v1⟩ := rdi (h.i lp0 tp0 (k := 11) (p := (0, ((N : Nat) : Int))) rfl)
  refine ae_eqi e1 ?_
  refine ae_bipush (v := 40) (q := 6) dX2_say_4 (by decide) rfl ?_
  refine ae_icmp_ge (t := 19) (q := 9) dX2_say_6 (by decide) rfl (fun c2 => ?_) (fun c2 => ?_)
  · have c2 := i_le (a := 40) (b := x1.toInt) (by decide) rfl c2
    refine ae_aload_n (q := 20) dX2_say_19 rfl rfl rfl ?_
    refine ae_dup (q := 21) dX2_say_20 rfl rfl ?_
    refine ae_getI (q := 24) dX2_say_21 fl_X2_67 rfl (h.s lp0 tp0) (h.l lp0) rfl ?_
    refine ae_eqi e1 ?_
    refine ae_iconst (v := 1) (q := 25) dX2_say_24 (by decide) rfl ?_
    refine ae_iadd (q := 26) dX2_say_25 rfl ?_
    obtain ⟨x3, e3⟩ : ∃ z, x1 + 1 = z := ⟨_, rfl⟩
    refine ae_eqi e3 ?_
    have f3 : x3.toInt = x1.toInt + 1 := by rw [← e3]; exact i_add rfl (by decide) (by omega) (by omega)
    have h : jc (N + 1) B 320 H := h.up (by omega)
    refine ae_putI (q := 29) dX2_say_26 fl_X2_67 rfl rfl rfl (h.s lp0 tp0) (h.l lp0) rfl ?_
    refine ae_gen (fun G4 g4 => ?_)
    have h : jc (N + 1) B 320 G4 := by rw [g4]; exact h.w tp0 (by decide) (fun q => absurd q.1 (by decide)) (mk_inr (lo := 0) (hi := (((N + 1) : Nat) : Int)) (by omega) (by omega))
    refine ae_vret dX2_say_29 rfl ?_
    exact ⟨rfl, h⟩
  · have c2 := i_nle (a := 40) (b := x1.toInt) (by decide) rfl c2
    refine ae_aload_n (q := 10) dX2_say_9 rfl rfl rfl ?_
    obtain ⟨b5, r5, l5, t5⟩ := h.r lp0 tp0 (k := 10) (T' := 18) rfl (by decide)
    refine ae_getR (q := 13) dX2_say_10 fl_X2_53 rfl (h.s lp0 tp0) (h.l lp0) r5 rfl ?_
    refine ae_aload_n (q := 14) dX2_say_13 rfl rfl rfl ?_
    refine ae_getI (q := 17) dX2_say_14 fl_X2_67 rfl (h.s lp0 tp0) (h.l lp0) rfl ?_
    refine ae_eqi e1 ?_
    refine ae_iload_n (q := 18) dX2_say_17 rfl rfl rfl ?_
    refine ae_iast (q := 19) dX2_say_18 (h.s l5 t5) (h.l l5) (vin (by omega) (by omega)) rfl ?_
    refine ae_gen (fun G6 g6 => ?_)
    have h : jc N B 320 G6 := by rw [g6]; exact h.w t5 (by decide) (fun q => absurd q.1 (by decide)) inr_any
    refine ae_aload_n (q := 20) dX2_say_19 rfl rfl rfl ?_
    refine ae_dup (q := 21) dX2_say_20 rfl rfl ?_
    refine ae_getI (q := 24) dX2_say_21 fl_X2_67 rfl (h.s lp0 tp0) (h.l lp0) rfl ?_
    have m7 : am_gi G6 p0 11 = x1 := by rw [g6]; exact gi_si e1 (fun q => absurd (tp0.symm.trans ((congrArg ty q.1).trans t5)) (by decide))
    refine ae_eqi m7 ?_
    refine ae_iconst (v := 1) (q := 25) dX2_say_24 (by decide) rfl ?_
    refine ae_iadd (q := 26) dX2_say_25 rfl ?_
    obtain ⟨x8, e8⟩ : ∃ z, x1 + 1 = z := ⟨_, rfl⟩
    refine ae_eqi e8 ?_
    have f8 : x8.toInt = x1.toInt + 1 := by rw [← e8]; exact i_add rfl (by decide) (by omega) (by omega)
    have h : jc (N + 1) B 320 G6 := h.up (by omega)
    refine ae_putI (q := 29) dX2_say_26 fl_X2_67 rfl rfl rfl (h.s lp0 tp0) (h.l lp0) rfl ?_
    refine ae_gen (fun G9 g9 => ?_)
    have h : jc (N + 1) B 320 G9 := by rw [g9]; exact h.w tp0 (by decide) (fun q => absurd q.1 (by decide)) (mk_inr (lo := 0) (hi := (((N + 1) : Nat) : Int)) (by omega) (by omega))
    refine ae_vret dX2_say_29 rfl ?_
    exact ⟨rfl, h⟩
set_option maxRecDepth 100000 in
set_option maxHeartbeats 4000000 in
theorem c_X2_passPhases {ox : List (Nat × (Nat → Int32))} {d N : Nat} {B H : am_H} {p0 : Nat} {p1 : Nat} (hN : N + 0 ≤ 1000000) (h : jc N B 320 H) (lp0 : p0 < 320) (tp0 : ty p0 = 5) (lp1 : p1 < 320) (tp1 : ty p1 = 8) : am_DB 0 ox (d + 2) yX2_passPhases mX2_passPhases [.ref p0, .ref p1] H (fun o H1 => (∃ v : Int32, o = .inl (some (.int v))) ∧ jc (N + 1) B 320 H1) := by
  refine ae_enter rfl rfl rfl rfl (Nat.le_of_ble_eq_true rfl) ?_
  show am_EB 0 ox (d + 2) mX2_passPhases 0 [(0, .ref p0), (1, .ref p1)] [] H _
  refine ae_aload_n (q := 1) dX2_passPhases_0 rfl rfl rfl ?_
  refine ae_aload_n (q := 2) dX2_passPhases_1 rfl rfl rfl ?_
  refine ae_callV (ci := 2) (as := [.ref p1]) (b := p0) (st := []) (q := 5) dX2_passPhases_2 (c_X2_isHeldBack (N := N) (d := d) h lp0 tp0 lp1 tp1) myX2_isHeldBack lk_X2_248 im_X2_isHeldBack se_X2_isHeldBack rfl (by decide) (h.s lp0 tp0) (h.l lp0) rfl rfl (Nat.le_of_ble_eq_true rfl) rfl (fun o H1 hh => ⟨_, hh.1.choose_spec.1⟩) (fun vv G1 hv => ?_)
  obtain ⟨⟨x1, o1, u1, v1⟩, z1⟩ := hv
  cases o1
  have z1 := z1.symm
  subst z1
  refine ⟨Or.inl rfl, ?_⟩
  refine ae_if_eq (t := 16) (q := 8) dX2_passPhases_5 (by decide) rfl (fun c2 => ?_) (fun c2 => ?_)
  · have c2 := i_eq (a := x1.toInt) (b := 0) rfl (by decide) c2
    refine ae_iconst (v := 0) (q := 17) dX2_passPhases_16 (by decide) rfl ?_
    refine ae_istore_n (lv' := [(2, .int 0), (0, .ref p0), (1, .ref p1)]) (q := 18) dX2_passPhases_17 rfl (by decide) rfl rfl ?_
    refine ae_iload_n (q := 19) dX2_passPhases_18 rfl rfl rfl ?_
    refine ae_iconst (v := 2) (q := 20) dX2_passPhases_19 (by decide) rfl ?_
    refine ae_icmp_ge (t := 42) (q := 23) dX2_passPhases_20 (by decide) rfl (fun h => absurd h (by decide)) (fun _ => ?_)
    refine ae_aload_n (q := 24) dX2_passPhases_23 rfl rfl rfl ?_
    obtain ⟨b3, r3, l3, t3⟩ := h.r lp0 tp0 (k := 4) (T' := 10) rfl (by decide)
    refine ae_getR (q := 27) dX2_passPhases_24 fl_X2_33 rfl (h.s lp0 tp0) (h.l lp0) r3 rfl ?_
    refine ae_iload_n (q := 28) dX2_passPhases_27 rfl rfl rfl ?_
    obtain ⟨b4, r4, l4, t4⟩ := h.r l3 t3 (k := (0 : Int32).toNatClampNeg) (T' := 11) rfl (by decide)
    refine ae_aald (q := 29) dX2_passPhases_28 (show am_sh H b3 = (103 + 1, 2) from h.s l3 t3) (show am_kinds[4]? = some (103 + 1, .object RX1) from rfl) (h.l l3) (by unfold vp_in; decide) r4 rfl ?_
    refine ae_aload_n (q := 30) dX2_passPhases_29 rfl rfl rfl ?_
    refine ae_getI (q := 33) dX2_passPhases_30 fl_X2_222 rfl (h.s lp1 tp1) (h.l lp1) rfl ?_
    obtain ⟨x5, e5, u5, v5⟩ := rdi (h.i lp1 tp1 (k := 0) (p := (0, 47)) rfl)
    refine ae_eqi e5 ?_
    refine ae_callV (ci := 1) (as := [.int x5]) (b := b4) (st := []) (q := 36) dX2_passPhases_33 (c_X1_pass (N := N) (d := d + 1) h l4 t4 (by omega) (by omega)) myX1_pass lk_X2_252 im_X1_pass se_X1_pass rfl (by decide) (h.s l4 t4) (h.l l4) rfl rfl (Nat.le_of_ble_eq_true rfl) rfl (fun o H1 hh => ⟨_, hh.1⟩) (fun vv G6 hv => ?_)
    obtain ⟨o6, z6⟩ := hv
    cases o6
    refine ⟨Or.inl (z6.nx.trans h.nx.symm), ?_⟩
    have h : jc N B 320 G6 := z6
    clear z6
    refine ae_iinc (v := 1) (lv' := [(2, .int 1), (0, .ref p0), (1, .ref p1)]) (q := 39) dX2_passPhases_36 rfl (by decide) (by decide) rfl rfl ?_
    refine ae_goto (q := 18) dX2_passPhases_39 (by decide) ?_
    refine ae_iload_n (q := 19) dX2_passPhases_18 rfl rfl rfl ?_
    refine ae_iconst (v := 2) (q := 20) dX2_passPhases_19 (by decide) rfl ?_
    refine ae_icmp_ge (t := 42) (q := 23) dX2_passPhases_20 (by decide) rfl (fun h => absurd h (by decide)) (fun _ => ?_)
    refine ae_aload_n (q := 24) dX2_passPhases_23 rfl rfl rfl ?_
    obtain ⟨b7, r7, l7, t7⟩ := h.r lp0 tp0 (k := 4) (T' := 10) rfl (by decide)
    refine ae_getR (q := 27) dX2_passPhases_24 fl_X2_33 rfl (h.s lp0 tp0) (h.l lp0) r7 rfl ?_
    refine ae_iload_n (q := 28) dX2_passPhases_27 rfl rfl rfl ?_
    obtain ⟨b8, r8, l8, t8⟩ := h.r l7 t7 (k := (1 : Int32).toNatClampNeg) (T' := 11) rfl (by decide)
    refine ae_aald (q := 29) dX2_passPhases_28 (show am_sh G6 b7 = (103 + 1, 2) from h.s l7 t7) (show am_kinds[4]? = some (103 + 1, .object RX1) from rfl) (h.l l7) (by unfold vp_in; decide) r8 rfl ?_
    refine ae_aload_n (q := 30) dX2_passPhases_29 rfl rfl rfl ?_
    refine ae_getI (q := 33) dX2_passPhases_30 fl_X2_222 rfl (h.s lp1 tp1) (h.l lp1) rfl ?_
    obtain ⟨x9, e9, u9, v9⟩ := rdi (h.i lp1 tp1 (k := 0) (p := (0, 47)) rfl)
    refine ae_eqi e9 ?_
    refine ae_callV (ci := 1) (as := [.int x9]) (b := b8) (st := []) (q := 36) dX2_passPhases_33 (c_X1_pass (N := N) (d := d + 1) h l8 t8 (by omega) (by omega)) myX1_pass lk_X2_252 im_X1_pass se_X1_pass rfl (by decide) (h.s l8 t8) (h.l l8) rfl rfl (Nat.le_of_ble_eq_true rfl) rfl (fun o H1 hh => ⟨_, hh.1⟩) (fun vv G10 hv => ?_)
    obtain ⟨o10, z10⟩ := hv
    cases o10
    refine ⟨Or.inl (z10.nx.trans h.nx.symm), ?_⟩
    have h : jc N B 320 G10 := z10
    clear z10
    refine ae_iinc (v := 2) (lv' := [(2, .int 2), (0, .ref p0), (1, .ref p1)]) (q := 39) dX2_passPhases_36 rfl (by decide) (by decide) rfl rfl ?_
    refine ae_goto (q := 18) dX2_passPhases_39 (by decide) ?_
    refine ae_iload_n (q := 19) dX2_passPhases_18 rfl rfl rfl ?_
    refine ae_iconst (v := 2) (q := 20) dX2_passPhases_19 (by decide) rfl ?_
    refine ae_icmp_ge (t := 42) (q := 23) dX2_passPhases_20 (by decide) rfl (fun _ => ?_) (fun h => absurd h (by decide))
    refine ae_aload_n (q := 43) dX2_passPhases_42 rfl rfl rfl ?_
    refine ae_iconst (v := 0) (q := 44) dX2_passPhases_43 (by decide) rfl ?_
    refine ae_putI (q := 47) dX2_passPhases_44 fl_X2_127 rfl rfl rfl (h.s lp1 tp1) (h.l lp1) rfl ?_
    refine ae_gen (fun G11 g11 => ?_)
    have h : jc N B 320 G11 := by rw [g11]; exact h.wdue tp1 (mk_inr (by decide) (by decide)) (fun q => absurd q (by decide))
    refine ae_aload_n (q := 48) dX2_passPhases_47 rfl rfl rfl ?_
    refine ae_dup (q := 49) dX2_passPhases_48 rfl rfl ?_
    refine ae_getI (q := 52) dX2_passPhases_49 fl_X2_134 rfl (h.s lp1 tp1) (h.l lp1) rfl ?_
    obtain ⟨x12, e12, u12, v12⟩ := rdi (h.i lp1 tp1 (k := 6) (p := (0, 16 + ((N : Nat) : Int))) rfl)
    refine ae_eqi e12 ?_
    refine ae_iconst (v := 1) (q := 53) dX2_passPhases_52 (by decide) rfl ?_
    refine ae_iadd (q := 54) dX2_passPhases_53 rfl ?_
    obtain ⟨x13, e13⟩ : ∃ z, x12 + 1 = z := ⟨_, rfl⟩
    refine ae_eqi e13 ?_
    have f13 : x13.toInt = x12.toInt + 1 := by rw [← e13]; exact i_add rfl (by decide) (by omega) (by omega)
    have h : jc (N + 1) B 320 G11 := h.up (by omega)
    refine ae_putI (q := 57) dX2_passPhases_54 fl_X2_134 rfl rfl rfl (h.s lp1 tp1) (h.l lp1) rfl ?_
    refine ae_gen (fun G14 g14 => ?_)
    have h : jc (N + 1) B 320 G14 := by rw [g14]; exact h.w tp1 (by decide) (by decide) (mk_inr (lo := 0) (hi := 16 + (((N + 1) : Nat) : Int)) (by omega) (by omega))
    refine ae_iconst (v := 0) (q := 58) dX2_passPhases_57 (by decide) rfl ?_
    refine ae_iret dX2_passPhases_58 rfl rfl ?_
    exact ⟨⟨_, rfl⟩, h⟩
  · have c2 := i_ne (a := x1.toInt) (b := 0) rfl (by decide) c2
    refine ae_aload_n (q := 9) dX2_passPhases_8 rfl rfl rfl ?_
    refine ae_iconst (v := 2) (q := 10) dX2_passPhases_9 (by decide) rfl ?_
    refine ae_iconst (v := 0) (q := 11) dX2_passPhases_10 (by decide) rfl ?_
    refine ae_callV (ci := 4) (as := [.int 2, .int 0]) (b := p1) (st := []) (q := 14) dX2_passPhases_11 (c_X4_waitFor (N := N) (d := d + 1) h lp1 tp1 (by decide) (by decide) (by decide) (by decide)) myX4_waitFor lk_X2_228 im_X4_waitFor se_X4_waitFor rfl (by decide) (h.s lp1 tp1) (h.l lp1) rfl rfl (Nat.le_of_ble_eq_true rfl) rfl (fun o H1 hh => ⟨_, hh.1⟩) (fun vv G15 hv => ?_)
    obtain ⟨o15, z15⟩ := hv
    cases o15
    refine ⟨Or.inl (z15.nx.trans h.nx.symm), ?_⟩
    have h : jc N B 320 G15 := z15
    clear z15
    refine ae_iconst (v := 0) (q := 15) dX2_passPhases_14 (by decide) rfl ?_
    refine ae_iret dX2_passPhases_15 rfl rfl ?_
    exact ⟨⟨_, rfl⟩, (h.up (by omega))⟩
set_option maxRecDepth 100000 in
set_option maxHeartbeats 4000000 in
theorem c_X2_signalAll {ox : List (Nat × (Nat → Int32))} {d N : Nat} {B H : am_H} {p0 : Nat} {p1 : Nat}  (h : jc N B 320 H) (lp0 : p0 < 320) (tp0 : ty p0 = 5) (lp1 : p1 < 320) (tp1 : ty p1 = 8) : am_DB 0 ox (d + 2) yX2_signalAll mX2_signalAll [.ref p0, .ref p1] H (fun o H1 => o = .inl none ∧ jc N B 320 H1) := by
  refine ae_enter rfl rfl rfl rfl (Nat.le_of_ble_eq_true rfl) ?_
  show am_EB 0 ox (d + 2) mX2_signalAll 0 [(0, .ref p0), (1, .ref p1)] [] H _
  refine ae_iconst (v := 0) (q := 1) dX2_signalAll_0 (by decide) rfl ?_
  refine ae_istore_n (lv' := [(2, .int 0), (0, .ref p0), (1, .ref p1)]) (q := 2) dX2_signalAll_1 rfl (by decide) rfl rfl ?_
  refine ae_iload_n (q := 3) dX2_signalAll_2 rfl rfl rfl ?_
  refine ae_iconst (v := 2) (q := 4) dX2_signalAll_3 (by decide) rfl ?_
  refine ae_icmp_ge (t := 26) (q := 7) dX2_signalAll_4 (by decide) rfl (fun h => absurd h (by decide)) (fun _ => ?_)
  refine ae_aload_n (q := 8) dX2_signalAll_7 rfl rfl rfl ?_
  obtain ⟨b1, r1, l1, t1⟩ := h.r lp0 tp0 (k := 4) (T' := 10) rfl (by decide)
  refine ae_getR (q := 11) dX2_signalAll_8 fl_X2_33 rfl (h.s lp0 tp0) (h.l lp0) r1 rfl ?_
  refine ae_iload_n (q := 12) dX2_signalAll_11 rfl rfl rfl ?_
  obtain ⟨b2, r2, l2, t2⟩ := h.r l1 t1 (k := (0 : Int32).toNatClampNeg) (T' := 11) rfl (by decide)
  refine ae_aald (q := 13) dX2_signalAll_12 (show am_sh H b1 = (103 + 1, 2) from h.s l1 t1) (show am_kinds[4]? = some (103 + 1, .object RX1) from rfl) (h.l l1) (by unfold vp_in; decide) r2 rfl ?_
  refine ae_aload_n (q := 14) dX2_signalAll_13 rfl rfl rfl ?_
  refine ae_getI (q := 17) dX2_signalAll_14 fl_X2_222 rfl (h.s lp1 tp1) (h.l lp1) rfl ?_
  obtain ⟨x3, e3, u3, v3⟩ := rdi (h.i lp1 tp1 (k := 0) (p := (0, 47)) rfl)
  refine ae_eqi e3 ?_
  refine ae_callV (ci := 1) (as := [.int x3]) (b := b2) (st := []) (q := 20) dX2_signalAll_17 (c_X1_signal (N := N) (d := d) h l2 t2 (by omega) (by omega)) myX1_signal lk_X2_245 im_X1_signal se_X1_signal rfl (by decide) (h.s l2 t2) (h.l l2) rfl rfl (Nat.le_of_ble_eq_true rfl) rfl (fun o H1 hh => ⟨_, hh.1⟩) (fun vv G4 hv => ?_)
  obtain ⟨o4, z4⟩ := hv
  cases o4
  refine ⟨Or.inl (z4.nx.trans h.nx.symm), ?_⟩
  have h : jc N B 320 G4 := z4
  clear z4
  refine ae_iinc (v := 1) (lv' := [(2, .int 1), (0, .ref p0), (1, .ref p1)]) (q := 23) dX2_signalAll_20 rfl (by decide) (by decide) rfl rfl ?_
  refine ae_goto (q := 2) dX2_signalAll_23 (by decide) ?_
  refine ae_iload_n (q := 3) dX2_signalAll_2 rfl rfl rfl ?_
  refine ae_iconst (v := 2) (q := 4) dX2_signalAll_3 (by decide) rfl ?_
  refine ae_icmp_ge (t := 26) (q := 7) dX2_signalAll_4 (by decide) rfl (fun h => absurd h (by decide)) (fun _ => ?_)
  refine ae_aload_n (q := 8) dX2_signalAll_7 rfl rfl rfl ?_
  obtain ⟨b5, r5, l5, t5⟩ := h.r lp0 tp0 (k := 4) (T' := 10) rfl (by decide)
  refine ae_getR (q := 11) dX2_signalAll_8 fl_X2_33 rfl (h.s lp0 tp0) (h.l lp0) r5 rfl ?_
  refine ae_iload_n (q := 12) dX2_signalAll_11 rfl rfl rfl ?_
  obtain ⟨b6, r6, l6, t6⟩ := h.r l5 t5 (k := (1 : Int32).toNatClampNeg) (T' := 11) rfl (by decide)
  refine ae_aald (q := 13) dX2_signalAll_12 (show am_sh G4 b5 = (103 + 1, 2) from h.s l5 t5) (show am_kinds[4]? = some (103 + 1, .object RX1) from rfl) (h.l l5) (by unfold vp_in; decide) r6 rfl ?_
  refine ae_aload_n (q := 14) dX2_signalAll_13 rfl rfl rfl ?_
  refine ae_getI (q := 17) dX2_signalAll_14 fl_X2_222 rfl (h.s lp1 tp1) (h.l lp1) rfl ?_
  obtain ⟨x7, e7, u7, v7⟩ := rdi (h.i lp1 tp1 (k := 0) (p := (0, 47)) rfl)
  refine ae_eqi e7 ?_
  refine ae_callV (ci := 1) (as := [.int x7]) (b := b6) (st := []) (q := 20) dX2_signalAll_17 (c_X1_signal (N := N) (d := d) h l6 t6 (by omega) (by omega)) myX1_signal lk_X2_245 im_X1_signal se_X1_signal rfl (by decide) (h.s l6 t6) (h.l l6) rfl rfl (Nat.le_of_ble_eq_true rfl) rfl (fun o H1 hh => ⟨_, hh.1⟩) (fun vv G8 hv => ?_)
  obtain ⟨o8, z8⟩ := hv
  cases o8
  refine ⟨Or.inl (z8.nx.trans h.nx.symm), ?_⟩
  have h : jc N B 320 G8 := z8
  clear z8
  refine ae_iinc (v := 2) (lv' := [(2, .int 2), (0, .ref p0), (1, .ref p1)]) (q := 23) dX2_signalAll_20 rfl (by decide) (by decide) rfl rfl ?_
  refine ae_goto (q := 2) dX2_signalAll_23 (by decide) ?_
  refine ae_iload_n (q := 3) dX2_signalAll_2 rfl rfl rfl ?_
  refine ae_iconst (v := 2) (q := 4) dX2_signalAll_3 (by decide) rfl ?_
  refine ae_icmp_ge (t := 26) (q := 7) dX2_signalAll_4 (by decide) rfl (fun _ => ?_) (fun h => absurd h (by decide))
  refine ae_vret dX2_signalAll_26 rfl ?_
  exact ⟨rfl, h⟩
set_option maxRecDepth 100000 in
set_option maxHeartbeats 4000000 in
theorem c_X2_leave {ox : List (Nat × (Nat → Int32))} {d N : Nat} {B H : am_H} {p0 : Nat} {p1 : Nat} {p2 : Nat}  (h : jc N B 320 H) (lp0 : p0 < 320) (tp0 : ty p0 = 5) (lp1 : p1 < 320) (tp1 : ty p1 = 8) (lp2 : p2 < 320) (tp2 : ty p2 = 11) : am_DB 0 ox (d + 2) yX2_leave mX2_leave [.ref p0, .ref p1, .ref p2] H (fun o H1 => (∃ v : Int32, o = .inl (some (.int v))) ∧ jc N B 320 H1) := by
  refine ae_enter rfl rfl rfl rfl (Nat.le_of_ble_eq_true rfl) ?_
  show am_EB 0 ox (d + 2) mX2_leave 0 [(0, .ref p0), (1, .ref p1), (2, .ref p2)] [] H _
  refine ae_aload_n (q := 1) dX2_leave_0 rfl rfl rfl ?_
  obtain ⟨b1, r1, l1, t1⟩ := h.r lp2 tp2 (k := 1) (T' := 12) rfl (by decide)
  refine ae_getR (q := 4) dX2_leave_1 fl_X2_238 rfl (h.s lp2 tp2) (h.l lp2) r1 rfl ?_
  refine ae_aload_n (q := 5) dX2_leave_4 rfl rfl rfl ?_
  refine ae_getI (q := 8) dX2_leave_5 fl_X2_222 rfl (h.s lp1 tp1) (h.l lp1) rfl ?_
  obtain ⟨x2, e2, u2, v2⟩ := rdi (h.i lp1 tp1 (k := 0) (p := (0, 47)) rfl)
  refine ae_eqi e2 ?_
  refine ae_iald (q := 9) dX2_leave_8 (h.s l1 t1) (h.l l1) (vin (by omega) (by omega)) rfl ?_
  obtain ⟨x3, e3⟩ : ∃ x, am_gi H b1 x2.toNatClampNeg = x := ⟨_, rfl⟩
  refine ae_eqi e3 ?_
  refine ae_if_ne (t := 14) (q := 12) dX2_leave_9 (by decide) rfl (fun c4 => ?_) (fun c4 => ?_)
  · have c4 := i_ne (a := x3.toInt) (b := 0) rfl (by decide) c4
    refine ae_aload_n (q := 15) dX2_leave_14 rfl rfl rfl ?_
    refine ae_aload_n (q := 16) dX2_leave_15 rfl rfl rfl ?_
    refine ae_getI (q := 19) dX2_leave_16 fl_X2_222 rfl (h.s lp1 tp1) (h.l lp1) rfl ?_
    refine ae_eqi e2 ?_
    refine ae_callV (ci := 1) (as := [.int x2]) (b := p2) (st := []) (q := 22) dX2_leave_19 (c_X1_leave (N := N) (d := d) h lp2 tp2 (by omega) (by omega)) myX1_leave lk_X2_243 im_X1_leave se_X1_leave rfl (by decide) (h.s lp2 tp2) (h.l lp2) rfl rfl (Nat.le_of_ble_eq_true rfl) rfl (fun o H1 hh => ⟨_, hh.1⟩) (fun vv G5 hv => ?_)
    obtain ⟨o5, z5⟩ := hv
    cases o5
    refine ⟨Or.inl (z5.nx.trans h.nx.symm), ?_⟩
    have h : jc N B 320 G5 := z5
    clear z5
    refine ae_iconst (v := 0) (q := 23) dX2_leave_22 (by decide) rfl ?_
    refine ae_iret dX2_leave_23 rfl rfl ?_
    exact ⟨⟨_, rfl⟩, h⟩
  · have c4 := i_eq (a := x3.toInt) (b := 0) rfl (by decide) c4
    refine ae_iconst (v := 3) (q := 13) dX2_leave_12 (by decide) rfl ?_
    refine ae_iret dX2_leave_13 rfl rfl ?_
    exact ⟨⟨_, rfl⟩, h⟩
set_option maxRecDepth 100000 in
set_option maxHeartbeats 4000000 in
theorem c_X2_join {ox : List (Nat × (Nat → Int32))} {d N : Nat} {B H : am_H} {p0 : Nat} {p1 : Nat} {p2 : Nat} {a3 : Int32}  (h : jc N B 320 H) (lp0 : p0 < 320) (tp0 : ty p0 = 5) (lp1 : p1 < 320) (tp1 : ty p1 = 8) (lp2 : p2 < 320) (tp2 : ty p2 = 11) : am_DB 0 ox (d + 1) yX2_join mX2_join [.ref p0, .ref p1, .ref p2, .int a3] H (fun o H1 => (∃ v : Int32, o = .inl (some (.int v))) ∧ jc N B 320 H1) := by
  refine ae_enter rfl rfl rfl rfl (Nat.le_of_ble_eq_true rfl) ?_
  show am_EB 0 ox (d + 1) mX2_join 0 [(0, .ref p0), (1, .ref p1), (2, .ref p2), (3, .int a3)] [] H _
  refine ae_iload_n (q := 1) dX2_join_0 rfl rfl rfl ?_
  refine ae_if_eq (t := 16) (q := 4) dX2_join_1 (by decide) rfl (fun c1 => ?_) (fun c1 => ?_)
  · have c1 := i_eq (a := a3.toInt) (b := 0) rfl (by decide) c1
    refine ae_iconst (v := 3) (q := 17) dX2_join_16 (by decide) rfl ?_
    refine ae_iret dX2_join_17 rfl rfl ?_
    exact ⟨⟨_, rfl⟩, h⟩
  · have c1 := i_ne (a := a3.toInt) (b := 0) rfl (by decide) c1
    refine ae_aload_n (q := 5) dX2_join_4 rfl rfl rfl ?_
    obtain ⟨b2, r2, l2, t2⟩ := h.r lp2 tp2 (k := 1) (T' := 12) rfl (by decide)
    refine ae_getR (q := 8) dX2_join_5 fl_X2_238 rfl (h.s lp2 tp2) (h.l lp2) r2 rfl ?_
    refine ae_aload_n (q := 9) dX2_join_8 rfl rfl rfl ?_
    refine ae_getI (q := 12) dX2_join_9 fl_X2_222 rfl (h.s lp1 tp1) (h.l lp1) rfl ?_
    obtain ⟨x3, e3, u3, v3⟩ := rdi (h.i lp1 tp1 (k := 0) (p := (0, 47)) rfl)
    refine ae_eqi e3 ?_
    refine ae_iald (q := 13) dX2_join_12 (h.s l2 t2) (h.l l2) (vin (by omega) (by omega)) rfl ?_
    obtain ⟨x4, e4⟩ : ∃ x, am_gi H b2 x3.toNatClampNeg = x := ⟨_, rfl⟩
    refine ae_eqi e4 ?_
    refine ae_if_eq (t := 18) (q := 16) dX2_join_13 (by decide) rfl (fun c5 => ?_) (fun c5 => ?_)
    · have c5 := i_eq (a := x4.toInt) (b := 0) rfl (by decide) c5
      refine ae_aload_n (q := 19) dX2_join_18 rfl rfl rfl ?_
      refine ae_aload_n (q := 20) dX2_join_19 rfl rfl rfl ?_
      refine ae_getI (q := 23) dX2_join_20 fl_X2_222 rfl (h.s lp1 tp1) (h.l lp1) rfl ?_
      refine ae_eqi e3 ?_
      refine ae_iload_n (q := 24) dX2_join_23 rfl rfl rfl ?_
      refine ae_callV (ci := 1) (as := [.int x3, .int a3]) (b := p2) (st := []) (q := 27) dX2_join_24 (c_X1_join (N := N) (d := d) h lp2 tp2 (by omega) (by omega)) myX1_join lk_X2_241 im_X1_join se_X1_join rfl (by decide) (h.s lp2 tp2) (h.l lp2) rfl rfl (Nat.le_of_ble_eq_true rfl) rfl (fun o H1 hh => ⟨_, hh.1⟩) (fun vv G6 hv => ?_)
      obtain ⟨o6, z6⟩ := hv
      cases o6
      refine ⟨Or.inl (z6.nx.trans h.nx.symm), ?_⟩
      have h : jc N B 320 G6 := z6
      clear z6
      refine ae_iconst (v := 0) (q := 28) dX2_join_27 (by decide) rfl ?_
      refine ae_iret dX2_join_28 rfl rfl ?_
      exact ⟨⟨_, rfl⟩, h⟩
    · have c5 := i_ne (a := x4.toInt) (b := 0) rfl (by decide) c5
      refine ae_iconst (v := 3) (q := 17) dX2_join_16 (by decide) rfl ?_
      refine ae_iret dX2_join_17 rfl rfl ?_
      exact ⟨⟨_, rfl⟩, h⟩
set_option maxRecDepth 100000 in
set_option maxHeartbeats 4000000 in
theorem c_X2_get {ox : List (Nat × (Nat → Int32))} {d N : Nat} {B H : am_H} {p0 : Nat} {p1 : Nat} {a2 : Int32} (hN : N + 0 ≤ 1000000) (h : jc N B 320 H) (lp0 : p0 < 320) (tp0 : ty p0 = 5) (lp1 : p1 < 320) (tp1 : ty p1 = 8) (u_2 : 0 ≤ a2.toInt) (v_2 : a2.toInt ≤ 3) : am_DB 0 ox (d + 1) yX2_get mX2_get [.ref p0, .ref p1, .int a2] H (fun o H1 => (∃ v : Int32, o = .inl (some (.int v))) ∧ jc (N + 1) B 320 H1) := by
  refine ae_enter rfl rfl rfl rfl (Nat.le_of_ble_eq_true rfl) ?_
  show am_EB 0 ox (d + 1) mX2_get 0 [(0, .ref p0), (1, .ref p1), (2, .int a2)] [] H _
  refine ae_aload_n (q := 1) dX2_get_0 rfl rfl rfl ?_
  obtain ⟨b1, r1, l1, t1⟩ := h.r lp0 tp0 (k := 9) (T' := 17) rfl (by decide)
  refine ae_getR (q := 4) dX2_get_1 fl_X2_49 rfl (h.s lp0 tp0) (h.l lp0) r1 rfl ?_
  refine ae_iload_n (q := 5) dX2_get_4 rfl rfl rfl ?_
  refine ae_zald (q := 6) dX2_get_5 (h.s l1 t1) (h.l l1) (vin (by omega) (by omega)) rfl ?_
  obtain ⟨x2, e2, u2, v2⟩ := rdi (h.i l1 t1 (k := a2.toNatClampNeg) (p := (0, 1)) rfl)
  refine ae_eqi e2 ?_
  refine ae_if_ne (t := 17) (q := 9) dX2_get_6 (by decide) rfl (fun c3 => ?_) (fun c3 => ?_)
  · have c3 := i_ne (a := x2.toInt) (b := 0) rfl (by decide) c3
    refine ae_aload_n (q := 18) dX2_get_17 rfl rfl rfl ?_
    refine ae_dup (q := 19) dX2_get_18 rfl rfl ?_
    refine ae_getI (q := 22) dX2_get_19 fl_X2_180 rfl (h.s lp1 tp1) (h.l lp1) rfl ?_
    obtain ⟨x4, e4⟩ : ∃ x, am_gi H p1 5 = x := ⟨_, rfl⟩
    refine ae_eqi e4 ?_
    refine ae_aload_n (q := 23) dX2_get_22 rfl rfl rfl ?_
    obtain ⟨b5, r5, l5, t5⟩ := h.r lp0 tp0 (k := 8) (T' := 16) rfl (by decide)
    refine ae_getR (q := 26) dX2_get_23 fl_X2_45 rfl (h.s lp0 tp0) (h.l lp0) r5 rfl ?_
    refine ae_iload_n (q := 27) dX2_get_26 rfl rfl rfl ?_
    refine ae_iald (q := 28) dX2_get_27 (h.s l5 t5) (h.l l5) (vin (by omega) (by omega)) rfl ?_
    obtain ⟨x6, e6⟩ : ∃ x, am_gi H b5 a2.toNatClampNeg = x := ⟨_, rfl⟩
    refine ae_eqi e6 ?_
    refine ae_iadd (q := 29) dX2_get_28 rfl ?_
    obtain ⟨x7, e7⟩ : ∃ z, x4 + x6 = z := ⟨_, rfl⟩
    refine ae_eqi e7 ?_
    refine ae_putI (q := 32) dX2_get_29 fl_X2_180 rfl rfl rfl (h.s lp1 tp1) (h.l lp1) rfl ?_
    refine ae_gen (fun G8 g8 => ?_)
    have h : jc N B 320 G8 := by rw [g8]; exact h.w tp1 (by decide) (by decide) inr_any
    refine ae_aload_n (q := 33) dX2_get_32 rfl rfl rfl ?_
    refine ae_iconst (v := 0) (q := 34) dX2_get_33 (by decide) rfl ?_
    refine ae_putI (q := 37) dX2_get_34 fl_X2_127 rfl rfl rfl (h.s lp1 tp1) (h.l lp1) rfl ?_
    refine ae_gen (fun G9 g9 => ?_)
    have h : jc N B 320 G9 := by rw [g9]; exact h.wdue tp1 (mk_inr (by decide) (by decide)) (fun q => absurd q (by decide))
    refine ae_aload_n (q := 38) dX2_get_37 rfl rfl rfl ?_
    refine ae_dup (q := 39) dX2_get_38 rfl rfl ?_
    refine ae_getI (q := 42) dX2_get_39 fl_X2_134 rfl (h.s lp1 tp1) (h.l lp1) rfl ?_
    obtain ⟨x10, e10, u10, v10⟩ := rdi (h.i lp1 tp1 (k := 6) (p := (0, 16 + ((N : Nat) : Int))) rfl)
    refine ae_eqi e10 ?_
    refine ae_iconst (v := 1) (q := 43) dX2_get_42 (by decide) rfl ?_
    refine ae_iadd (q := 44) dX2_get_43 rfl ?_
    obtain ⟨x11, e11⟩ : ∃ z, x10 + 1 = z := ⟨_, rfl⟩
    refine ae_eqi e11 ?_
    have f11 : x11.toInt = x10.toInt + 1 := by rw [← e11]; exact i_add rfl (by decide) (by omega) (by omega)
    have h : jc (N + 1) B 320 G9 := h.up (by omega)
    refine ae_putI (q := 47) dX2_get_44 fl_X2_134 rfl rfl rfl (h.s lp1 tp1) (h.l lp1) rfl ?_
    refine ae_gen (fun G12 g12 => ?_)
    have h : jc (N + 1) B 320 G12 := by rw [g12]; exact h.w tp1 (by decide) (by decide) (mk_inr (lo := 0) (hi := 16 + (((N + 1) : Nat) : Int)) (by omega) (by omega))
    refine ae_iconst (v := 0) (q := 48) dX2_get_47 (by decide) rfl ?_
    refine ae_iret dX2_get_48 rfl rfl ?_
    exact ⟨⟨_, rfl⟩, h⟩
  · have c3 := i_eq (a := x2.toInt) (b := 0) rfl (by decide) c3
    refine ae_aload_n (q := 10) dX2_get_9 rfl rfl rfl ?_
    refine ae_iconst (v := 1) (q := 11) dX2_get_10 (by decide) rfl ?_
    refine ae_iload_n (q := 12) dX2_get_11 rfl rfl rfl ?_
    refine ae_callV (ci := 4) (as := [.int 1, .int a2]) (b := p1) (st := []) (q := 15) dX2_get_12 (c_X4_waitFor (N := N) (d := d) h lp1 tp1 (by decide) (by decide) (by omega) (by omega)) myX4_waitFor lk_X2_228 im_X4_waitFor se_X4_waitFor rfl (by decide) (h.s lp1 tp1) (h.l lp1) rfl rfl (Nat.le_of_ble_eq_true rfl) rfl (fun o H1 hh => ⟨_, hh.1⟩) (fun vv G13 hv => ?_)
    obtain ⟨o13, z13⟩ := hv
    cases o13
    refine ⟨Or.inl (z13.nx.trans h.nx.symm), ?_⟩
    have h : jc N B 320 G13 := z13
    clear z13
    refine ae_iconst (v := 0) (q := 16) dX2_get_15 (by decide) rfl ?_
    refine ae_iret dX2_get_16 rfl rfl ?_
    exact ⟨⟨_, rfl⟩, (h.up (by omega))⟩
set_option maxRecDepth 100000 in
set_option maxHeartbeats 4000000 in
theorem c_X2_put {ox : List (Nat × (Nat → Int32))} {d N : Nat} {B H : am_H} {p0 : Nat} {a1 : Int32} {a2 : Int32}  (h : jc N B 320 H) (lp0 : p0 < 320) (tp0 : ty p0 = 5) (u_1 : 0 ≤ a1.toInt) (v_1 : a1.toInt ≤ 3) : am_DB 0 ox d yX2_put mX2_put [.ref p0, .int a1, .int a2] H (fun o H1 => (∃ v : Int32, o = .inl (some (.int v))) ∧ jc N B 320 H1) := by
  refine ae_enter rfl rfl rfl rfl (Nat.le_of_ble_eq_true rfl) ?_
  show am_EB 0 ox d mX2_put 0 [(0, .ref p0), (1, .int a1), (2, .int a2)] [] H _
  refine ae_aload_n (q := 1) dX2_put_0 rfl rfl rfl ?_
  obtain ⟨b1, r1, l1, t1⟩ := h.r lp0 tp0 (k := 9) (T' := 17) rfl (by decide)
  refine ae_getR (q := 4) dX2_put_1 fl_X2_49 rfl (h.s lp0 tp0) (h.l lp0) r1 rfl ?_
  refine ae_iload_n (q := 5) dX2_put_4 rfl rfl rfl ?_
  refine ae_zald (q := 6) dX2_put_5 (h.s l1 t1) (h.l l1) (vin (by omega) (by omega)) rfl ?_
  obtain ⟨x2, e2, u2, v2⟩ := rdi (h.i l1 t1 (k := a1.toNatClampNeg) (p := (0, 1)) rfl)
  refine ae_eqi e2 ?_
  refine ae_if_eq (t := 11) (q := 9) dX2_put_6 (by decide) rfl (fun c3 => ?_) (fun c3 => ?_)
  · have c3 := i_eq (a := x2.toInt) (b := 0) rfl (by decide) c3
    refine ae_aload_n (q := 12) dX2_put_11 rfl rfl rfl ?_
    refine ae_getR (q := 15) dX2_put_12 fl_X2_49 rfl (h.s lp0 tp0) (h.l lp0) r1 rfl ?_
    refine ae_iload_n (q := 16) dX2_put_15 rfl rfl rfl ?_
    refine ae_iconst (v := 1) (q := 17) dX2_put_16 (by decide) rfl ?_
    refine ae_zast (q := 18) dX2_put_17 (h.s l1 t1) (h.l l1) (vin (by omega) (by omega)) rfl rfl ?_
    refine ae_gen (fun G4 g4 => ?_)
    have h : jc N B 320 G4 := by rw [g4]; exact h.w t1 (by decide) (fun q => absurd q.1 (by decide)) (mk_inr (lo := 0) (hi := 1) (by decide) (by decide))
    refine ae_aload_n (q := 19) dX2_put_18 rfl rfl rfl ?_
    obtain ⟨b5, r5, l5, t5⟩ := h.r lp0 tp0 (k := 8) (T' := 16) rfl (by decide)
    refine ae_getR (q := 22) dX2_put_19 fl_X2_45 rfl (h.s lp0 tp0) (h.l lp0) r5 rfl ?_
    refine ae_iload_n (q := 23) dX2_put_22 rfl rfl rfl ?_
    refine ae_iload_n (q := 24) dX2_put_23 rfl rfl rfl ?_
    refine ae_iast (q := 25) dX2_put_24 (h.s l5 t5) (h.l l5) (vin (by omega) (by omega)) rfl ?_
    refine ae_gen (fun G6 g6 => ?_)
    have h : jc N B 320 G6 := by rw [g6]; exact h.w t5 (by decide) (fun q => absurd q.1 (by decide)) inr_any
    refine ae_iconst (v := 0) (q := 26) dX2_put_25 (by decide) rfl ?_
    refine ae_iret dX2_put_26 rfl rfl ?_
    exact ⟨⟨_, rfl⟩, h⟩
  · have c3 := i_ne (a := x2.toInt) (b := 0) rfl (by decide) c3
    refine ae_iconst (v := 2) (q := 10) dX2_put_9 (by decide) rfl ?_
    refine ae_iret dX2_put_10 rfl rfl ?_
    exact ⟨⟨_, rfl⟩, h⟩
set_option maxRecDepth 100000 in
set_option maxHeartbeats 4000000 in
theorem c_X2_close {ox : List (Nat × (Nat → Int32))} {d N : Nat} {B H : am_H} {p0 : Nat} {p1 : Nat}  (h : jc N B 320 H) (lp0 : p0 < 320) (tp0 : ty p0 = 5) (lp1 : p1 < 320) (tp1 : ty p1 = 8) : am_DB 0 ox d yX2_close mX2_close [.ref p0, .ref p1] H (fun o H1 => (∃ v : Int32, o = .inl (some (.int v))) ∧ jc N B 320 H1) := by
  refine ae_enter rfl rfl rfl rfl (Nat.le_of_ble_eq_true rfl) ?_
  show am_EB 0 ox d mX2_close 0 [(0, .ref p0), (1, .ref p1)] [] H _
  refine ae_aload_n (q := 1) dX2_close_0 rfl rfl rfl ?_
  refine ae_getI (q := 4) dX2_close_1 fl_X2_231 rfl (h.s lp1 tp1) (h.l lp1) rfl ?_
  obtain ⟨x1, e1, u1, v1⟩ := rdi (h.i lp1 tp1 (k := 2) (p := (0, 3)) rfl)
  refine ae_eqi e1 ?_
  refine ae_if_ne (t := 9) (q := 7) dX2_close_4 (by decide) rfl (fun c2 => ?_) (fun c2 => ?_)
  · have c2 := i_ne (a := x1.toInt) (b := 0) rfl (by decide) c2
    refine ae_aload_n (q := 10) dX2_close_9 rfl rfl rfl ?_
    refine ae_iconst (v := 3) (q := 11) dX2_close_10 (by decide) rfl ?_
    refine ae_putI (q := 14) dX2_close_11 fl_X2_127 rfl rfl rfl (h.s lp1 tp1) (h.l lp1) rfl ?_
    refine ae_gen (fun G3 g3 => ?_)
    have h : jc N B 320 G3 := by rw [g3]; exact h.wdue tp1 (mk_inr (by decide) (by decide)) (fun _ => by rw [e1]; omega)
    refine ae_iconst (v := 0) (q := 15) dX2_close_14 (by decide) rfl ?_
    refine ae_iret dX2_close_15 rfl rfl ?_
    exact ⟨⟨_, rfl⟩, h⟩
  · have c2 := i_eq (a := x1.toInt) (b := 0) rfl (by decide) c2
    refine ae_iconst (v := 4) (q := 8) dX2_close_7 (by decide) rfl ?_
    refine ae_iret dX2_close_8 rfl rfl ?_
    exact ⟨⟨_, rfl⟩, h⟩
set_option maxRecDepth 100000 in
set_option maxHeartbeats 4000000 in
theorem c_X2_openScope {ox : List (Nat × (Nat → Int32))} {d N : Nat} {B H : am_H} {p0 : Nat} {p1 : Nat} {a2 : Int32} {a3 : Int32} (ho3 : ox[3]? = some (4, fun k => am_t3.getD k 0))  (h : jc N B 320 H) (lp0 : p0 < 320) (tp0 : ty p0 = 5) (lp1 : p1 < 320) (tp1 : ty p1 = 8) (u_2 : 0 ≤ a2.toInt) (v_2 : a2.toInt ≤ 3) (u_3 : 0 ≤ a3.toInt) (v_3 : a3.toInt ≤ 15) : am_DB 0 ox (d + 1) yX2_openScope mX2_openScope [.ref p0, .ref p1, .int a2, .int a3] H (fun o H1 => (∃ v : Int32, o = .inl (some (.int v))) ∧ jc N B 320 H1) := by
  refine ae_enter rfl rfl rfl rfl (Nat.le_of_ble_eq_true rfl) ?_
  show am_EB 0 ox (d + 1) mX2_openScope 0 [(0, .ref p0), (1, .ref p1), (2, .int a2), (3, .int a3)] [] H _
  refine ae_aload_n (q := 1) dX2_openScope_0 rfl rfl rfl ?_
  refine ae_getI (q := 4) dX2_openScope_1 fl_X2_231 rfl (h.s lp1 tp1) (h.l lp1) rfl ?_
  obtain ⟨x1, e1, u1, v1⟩ := rdi (h.i lp1 tp1 (k := 2) (p := (0, 3)) rfl)
  refine ae_eqi e1 ?_
  refine ae_iconst (v := 3) (q := 5) dX2_openScope_4 (by decide) rfl ?_
  refine ae_icmp_lt (t := 10) (q := 8) dX2_openScope_5 (by decide) rfl (fun c2 => ?_) (fun c2 => ?_)
  · have c2 := i_lt (a := x1.toInt) (b := 3) rfl (by decide) c2
    refine ae_aload_n (q := 11) dX2_openScope_10 rfl rfl rfl ?_
    obtain ⟨b3, r3, l3, t3⟩ := h.r lp1 tp1 (k := 1) (T' := 9) rfl (by decide)
    refine ae_getR (q := 14) dX2_openScope_11 fl_X2_234 rfl (h.s lp1 tp1) (h.l lp1) r3 rfl ?_
    refine ae_aload_n (q := 15) dX2_openScope_14 rfl rfl rfl ?_
    refine ae_getI (q := 18) dX2_openScope_15 fl_X2_231 rfl (h.s lp1 tp1) (h.l lp1) rfl ?_
    refine ae_eqi e1 ?_
    obtain ⟨b4, r4, l4, t4⟩ := h.r l3 t3 (k := x1.toNatClampNeg) (T' := 6) (if_pos (ixn (by omega) (by omega))) (by decide)
    refine ae_aald (q := 19) dX2_openScope_18 (show am_sh H b3 = (103 + 3, 3) from h.s l3 t3) (show am_kinds[5]? = some (103 + 3, .object RX3) from rfl) (h.l l3) (vin (by omega) (by omega)) r4 rfl ?_
    refine ae_iload_n (q := 20) dX2_openScope_19 rfl rfl rfl ?_
    refine ae_iload_n (q := 21) dX2_openScope_20 rfl rfl rfl ?_
    refine ae_callV (ci := 3) (as := [.int a2, .int a3]) (b := b4) (st := []) (q := 24) dX2_openScope_21 (c_X3_open (N := N) (d := d) ho3 h l4 t4 (by omega) (by omega) (by omega) (by omega)) myX3_open lk_X2_79 im_X3_open se_X3_open rfl (by decide) (h.s l4 t4) (h.l l4) rfl rfl (Nat.le_of_ble_eq_true rfl) rfl (fun o H1 hh => ⟨_, hh.1⟩) (fun vv G5 hv => ?_)
    obtain ⟨o5, z5⟩ := hv
    cases o5
    obtain ⟨z5, w5⟩ := z5
    refine ⟨Or.inl (z5.nx.trans h.nx.symm), ?_⟩
    have h : jc N B 320 G5 := z5
    clear z5
    refine ae_aload_n (q := 25) dX2_openScope_24 rfl rfl rfl ?_
    refine ae_dup (q := 26) dX2_openScope_25 rfl rfl ?_
    refine ae_getI (q := 29) dX2_openScope_26 fl_X2_231 rfl (h.s lp1 tp1) (h.l lp1) rfl ?_
    have m6 : am_gi G5 p1 2 = x1 := (congrFun (w5 p1 lp1 (by rw [tp1]; decide)) 2).trans e1
    refine ae_eqi m6 ?_
    refine ae_iconst (v := 1) (q := 30) dX2_openScope_29 (by decide) rfl ?_
    refine ae_iadd (q := 31) dX2_openScope_30 rfl ?_
    obtain ⟨x7, e7⟩ : ∃ z, x1 + 1 = z := ⟨_, rfl⟩
    refine ae_eqi e7 ?_
    have f7 : x7.toInt = x1.toInt + 1 := by rw [← e7]; exact i_add rfl (by decide) (by omega) (by omega)
    refine ae_putI (q := 34) dX2_openScope_31 fl_X2_231 rfl rfl rfl (h.s lp1 tp1) (h.l lp1) rfl ?_
    refine ae_gen (fun G8 g8 => ?_)
    have h : jc N B 320 G8 := by rw [g8]; exact h.wown tp1 (mk_inr (by omega) (by omega))
    refine ae_iconst (v := 0) (q := 35) dX2_openScope_34 (by decide) rfl ?_
    refine ae_iret dX2_openScope_35 rfl rfl ?_
    exact ⟨⟨_, rfl⟩, h⟩
  · have c2 := i_nlt (a := x1.toInt) (b := 3) rfl (by decide) c2
    refine ae_iconst (v := 1) (q := 9) dX2_openScope_8 (by decide) rfl ?_
    refine ae_iret dX2_openScope_9 rfl rfl ?_
    exact ⟨⟨_, rfl⟩, h⟩
set_option maxRecDepth 100000 in
set_option maxHeartbeats 4000000 in
theorem c_X2_makeTask {ox : List (Nat × (Nat → Int32))} {d N : Nat} {B H : am_H} {p0 : Nat} {p1 : Nat} {a2 : Int32}  (h : jc N B 320 H) (lp0 : p0 < 320) (tp0 : ty p0 = 5) (lp1 : p1 < 320) (tp1 : ty p1 = 8) (u_2 : 0 ≤ a2.toInt) (v_2 : a2.toInt ≤ 7) {xc : Int32} (e_xc : am_gi H p0 2 = xc) (u_xc : 0 ≤ xc.toInt) (v_xc : xc.toInt ≤ 47) : am_DB 0 ox (d + 1) yX2_makeTask mX2_makeTask [.ref p0, .ref p1, .int a2] H (fun o H1 => (∃ b : Nat, o = .inl (some (.ref b)) ∧ b < 320 ∧ ty b = 8) ∧ jc N B 320 H1) := by
  refine ae_enter rfl rfl rfl rfl (Nat.le_of_ble_eq_true rfl) ?_
  show am_EB 0 ox (d + 1) mX2_makeTask 0 [(0, .ref p0), (1, .ref p1), (2, .int a2)] [] H _
  refine ae_aload_n (q := 1) dX2_makeTask_0 rfl rfl rfl ?_
  obtain ⟨b1, r1, l1, t1⟩ := h.r lp0 tp0 (k := 1) (T' := 7) rfl (by decide)
  refine ae_getR (q := 4) dX2_makeTask_1 fl_X2_24 rfl (h.s lp0 tp0) (h.l lp0) r1 rfl ?_
  refine ae_aload_n (q := 5) dX2_makeTask_4 rfl rfl rfl ?_
  refine ae_getI (q := 8) dX2_makeTask_5 fl_X2_64 rfl (h.s lp0 tp0) (h.l lp0) rfl ?_
  refine ae_eqi e_xc ?_
  obtain ⟨b2, r2, l2, t2⟩ := h.r l1 t1 (k := xc.toNatClampNeg) (T' := 8) (if_pos (ixn (by omega) (by omega))) (by decide)
  refine ae_aald (q := 9) dX2_makeTask_8 (show am_sh H b1 = (103 + 4, 48) from h.s l1 t1) (show am_kinds[6]? = some (103 + 4, .object RX4) from rfl) (h.l l1) (vin (by omega) (by omega)) r2 rfl ?_
  refine ae_astore_n (lv' := [(3, .ref b2), (0, .ref p0), (1, .ref p1), (2, .int a2)]) (q := 10) dX2_makeTask_9 rfl (by decide) rfl rfl ?_
  refine ae_aload_n (q := 11) dX2_makeTask_10 rfl rfl rfl ?_
  refine ae_dup (q := 12) dX2_makeTask_11 rfl rfl ?_
  refine ae_getI (q := 15) dX2_makeTask_12 fl_X2_64 rfl (h.s lp0 tp0) (h.l lp0) rfl ?_
  refine ae_eqi e_xc ?_
  refine ae_iconst (v := 1) (q := 16) dX2_makeTask_15 (by decide) rfl ?_
  refine ae_iadd (q := 17) dX2_makeTask_16 rfl ?_
  obtain ⟨x3, e3⟩ : ∃ z, xc + 1 = z := ⟨_, rfl⟩
  refine ae_eqi e3 ?_
  have f3 : x3.toInt = xc.toInt + 1 := by rw [← e3]; exact i_add rfl (by decide) (by omega) (by omega)
  refine ae_putI (q := 20) dX2_makeTask_17 fl_X2_64 rfl rfl rfl (h.s lp0 tp0) (h.l lp0) rfl ?_
  refine ae_gen (fun G4 g4 => ?_)
  have h : jc N B 320 G4 := by rw [g4]; exact h.w tp0 (by decide) (fun q => absurd q.1 (by decide)) (mk_inr (lo := 0) (hi := 48) (by omega) (by omega))
  refine ae_aload_n (q := 21) dX2_makeTask_20 rfl rfl rfl ?_
  refine ae_callV (ci := 4) (as := []) (b := p1) (st := []) (q := 24) dX2_makeTask_21 (c_X4_innerScope (N := N) (d := d) h lp1 tp1) myX4_innerScope lk_X2_151 im_X4_innerScope se_X4_innerScope rfl (by decide) (h.s lp1 tp1) (h.l lp1) rfl rfl (Nat.le_of_ble_eq_true rfl) rfl (fun o H1 hh => ⟨_, hh.1.choose_spec.1⟩) (fun vv G5 hv => ?_)
  obtain ⟨⟨b5, o5, l5, t5⟩, z5⟩ := hv
  cases o5
  have z5 := z5.symm
  subst z5
  refine ⟨Or.inl rfl, ?_⟩
  refine ae_astore (lv' := [(4, .ref b5), (3, .ref b2), (0, .ref p0), (1, .ref p1), (2, .int a2)]) (q := 26) dX2_makeTask_24 (by decide) rfl rfl ?_
  refine ae_aload_n (q := 27) dX2_makeTask_26 rfl rfl rfl ?_
  refine ae_iload_n (q := 28) dX2_makeTask_27 rfl rfl rfl ?_
  refine ae_aload_n (q := 29) dX2_makeTask_28 rfl rfl rfl ?_
  refine ae_getI (q := 32) dX2_makeTask_29 fl_X2_180 rfl (h.s lp1 tp1) (h.l lp1) rfl ?_
  obtain ⟨x6, e6⟩ : ∃ x, am_gi G4 p1 5 = x := ⟨_, rfl⟩
  refine ae_eqi e6 ?_
  refine ae_aload (q := 34) dX2_makeTask_32 rfl rfl ?_
  refine ae_callV (ci := 4) (as := [.int a2, .int x6, .ref b5]) (b := b2) (st := []) (q := 37) dX2_makeTask_34 (c_X4_reset (N := N) (d := d) h l2 t2 (by omega) (by omega) l5 t5) myX4_reset lk_X2_87 im_X4_reset se_X4_reset rfl (by decide) (h.s l2 t2) (h.l l2) rfl rfl (Nat.le_of_ble_eq_true rfl) rfl (fun o H1 hh => ⟨_, hh.1⟩) (fun vv G7 hv => ?_)
  obtain ⟨o7, z7⟩ := hv
  cases o7
  refine ⟨Or.inl (z7.nx.trans h.nx.symm), ?_⟩
  have h : jc N B 320 G7 := z7
  clear z7
  refine ae_aload (q := 39) dX2_makeTask_37 rfl rfl ?_
  refine ae_dup (q := 40) dX2_makeTask_39 rfl rfl ?_
  refine ae_getI (q := 43) dX2_makeTask_40 fl_X2_90 rfl (h.s l5 t5) (h.l l5) rfl ?_
  obtain ⟨x8, e8⟩ : ∃ x, am_gi G7 b5 2 = x := ⟨_, rfl⟩
  refine ae_eqi e8 ?_
  refine ae_iconst (v := 1) (q := 44) dX2_makeTask_43 (by decide) rfl ?_
  refine ae_iadd (q := 45) dX2_makeTask_44 rfl ?_
  obtain ⟨x9, e9⟩ : ∃ z, x8 + 1 = z := ⟨_, rfl⟩
  refine ae_eqi e9 ?_
  refine ae_putI (q := 48) dX2_makeTask_45 fl_X2_90 rfl rfl rfl (h.s l5 t5) (h.l l5) rfl ?_
  refine ae_gen (fun G10 g10 => ?_)
  have h : jc N B 320 G10 := by rw [g10]; exact h.w t5 (by decide) (fun q => absurd q.1 (by decide)) inr_any
  refine ae_aload_n (q := 49) dX2_makeTask_48 rfl rfl rfl ?_
  refine ae_aret dX2_makeTask_49 rfl (Or.inl ⟨_, rfl⟩) ?_
  exact ⟨⟨_, rfl, l2, t2⟩, h⟩
set_option maxRecDepth 100000 in
set_option maxHeartbeats 4000000 in
theorem c_X2_spawnWaiting {ox : List (Nat × (Nat → Int32))} {d N : Nat} {B H : am_H} {p0 : Nat} {p1 : Nat} {a2 : Int32} {a3 : Int32}  (h : jc N B 320 H) (lp0 : p0 < 320) (tp0 : ty p0 = 5) (lp1 : p1 < 320) (tp1 : ty p1 = 8) (u_2 : 0 ≤ a2.toInt) (v_2 : a2.toInt ≤ 7) (u_3 : 0 ≤ a3.toInt) (v_3 : a3.toInt ≤ 3) : am_DB 0 ox (d + 2) yX2_spawnWaiting mX2_spawnWaiting [.ref p0, .ref p1, .int a2, .int a3] H (fun o H1 => (∃ v : Int32, o = .inl (some (.int v))) ∧ jc N B 320 H1) := by
  refine ae_enter rfl rfl rfl rfl (Nat.le_of_ble_eq_true rfl) ?_
  show am_EB 0 ox (d + 2) mX2_spawnWaiting 0 [(0, .ref p0), (1, .ref p1), (2, .int a2), (3, .int a3)] [] H _
  refine ae_aload_n (q := 1) dX2_spawnWaiting_0 rfl rfl rfl ?_
  refine ae_getI (q := 4) dX2_spawnWaiting_1 fl_X2_64 rfl (h.s lp0 tp0) (h.l lp0) rfl ?_
  obtain ⟨x1, e1, u1, v1⟩ := rdi (h.i lp0 tp0 (k := 2) (p := (0, 48)) rfl)
  refine ae_eqi e1 ?_
  refine ae_bipush (v := 48) (q := 6) dX2_spawnWaiting_4 (by decide) rfl ?_
  refine ae_icmp_lt (t := 11) (q := 9) dX2_spawnWaiting_6 (by decide) rfl (fun c2 => ?_) (fun c2 => ?_)
  · have c2 := i_lt (a := x1.toInt) (b := 48) rfl (by decide) c2
    refine ae_aload_n (q := 12) dX2_spawnWaiting_11 rfl rfl rfl ?_
    refine ae_aload_n (q := 13) dX2_spawnWaiting_12 rfl rfl rfl ?_
    refine ae_iload_n (q := 14) dX2_spawnWaiting_13 rfl rfl rfl ?_
    refine ae_callV (ci := 2) (as := [.ref p1, .int a2]) (b := p0) (st := []) (q := 17) dX2_spawnWaiting_14 (c_X2_makeTask (N := N) (d := d) h lp0 tp0 lp1 tp1 (by omega) (by omega) (xc := x1) e1 (by omega) (by omega)) myX2_makeTask lk_X2_218 im_X2_makeTask se_X2_makeTask rfl (by decide) (h.s lp0 tp0) (h.l lp0) rfl rfl (Nat.le_of_ble_eq_true rfl) rfl (fun o H1 hh => ⟨_, hh.1.choose_spec.1⟩) (fun vv G3 hv => ?_)
    obtain ⟨⟨b3, o3, l3, t3⟩, z3⟩ := hv
    cases o3
    refine ⟨Or.inl (z3.nx.trans h.nx.symm), ?_⟩
    have h : jc N B 320 G3 := z3
    clear z3
    refine ae_iconst (v := 0) (q := 18) dX2_spawnWaiting_17 (by decide) rfl ?_
    refine ae_iload_n (q := 19) dX2_spawnWaiting_18 rfl rfl rfl ?_
    refine ae_callV (ci := 4) (as := [.int 0, .int a3]) (b := b3) (st := []) (q := 22) dX2_spawnWaiting_19 (c_X4_waitFor (N := N) (d := d + 1) h l3 t3 (by decide) (by decide) (by omega) (by omega)) myX4_waitFor lk_X2_228 im_X4_waitFor se_X4_waitFor rfl (by decide) (h.s l3 t3) (h.l l3) rfl rfl (Nat.le_of_ble_eq_true rfl) rfl (fun o H1 hh => ⟨_, hh.1⟩) (fun vv G4 hv => ?_)
    obtain ⟨o4, z4⟩ := hv
    cases o4
    refine ⟨Or.inl (z4.nx.trans h.nx.symm), ?_⟩
    have h : jc N B 320 G4 := z4
    clear z4
    refine ae_iconst (v := 0) (q := 23) dX2_spawnWaiting_22 (by decide) rfl ?_
    refine ae_iret dX2_spawnWaiting_23 rfl rfl ?_
    exact ⟨⟨_, rfl⟩, h⟩
  · have c2 := i_nlt (a := x1.toInt) (b := 48) rfl (by decide) c2
    refine ae_iconst (v := 1) (q := 10) dX2_spawnWaiting_9 (by decide) rfl ?_
    refine ae_iret dX2_spawnWaiting_10 rfl rfl ?_
    exact ⟨⟨_, rfl⟩, h⟩
set_option maxRecDepth 100000 in
set_option maxHeartbeats 4000000 in
theorem c_X2_spawn {ox : List (Nat × (Nat → Int32))} {d N : Nat} {B H : am_H} {p0 : Nat} {p1 : Nat} {p2 : Nat} {a3 : Int32} {a4 : Int32}  (h : jc N B 320 H) (lp0 : p0 < 320) (tp0 : ty p0 = 5) (lp1 : p1 < 320) (tp1 : ty p1 = 14) (lp2 : p2 < 320) (tp2 : ty p2 = 8) (u_3 : 0 ≤ a3.toInt) (v_3 : a3.toInt ≤ 7) (u_4 : 0 ≤ a4.toInt) (v_4 : a4.toInt ≤ 1) : am_DB 0 ox (d + 2) yX2_spawn mX2_spawn [.ref p0, .ref p1, .ref p2, .int a3, .int a4] H (fun o H1 => (∃ v : Int32, o = .inl (some (.int v))) ∧ jc N B 320 H1) := by
  refine ae_enter rfl rfl rfl rfl (Nat.le_of_ble_eq_true rfl) ?_
  show am_EB 0 ox (d + 2) mX2_spawn 0 [(0, .ref p0), (1, .ref p1), (2, .ref p2), (3, .int a3), (4, .int a4)] [] H _
  refine ae_aload_n (q := 1) dX2_spawn_0 rfl rfl rfl ?_
  refine ae_getI (q := 4) dX2_spawn_1 fl_X2_64 rfl (h.s lp0 tp0) (h.l lp0) rfl ?_
  obtain ⟨x1, e1, u1, v1⟩ := rdi (h.i lp0 tp0 (k := 2) (p := (0, 48)) rfl)
  refine ae_eqi e1 ?_
  refine ae_bipush (v := 48) (q := 6) dX2_spawn_4 (by decide) rfl ?_
  refine ae_icmp_lt (t := 11) (q := 9) dX2_spawn_6 (by decide) rfl (fun c2 => ?_) (fun c2 => ?_)
  · have c2 := i_lt (a := x1.toInt) (b := 48) rfl (by decide) c2
    refine ae_aload_n (q := 12) dX2_spawn_11 rfl rfl rfl ?_
    refine ae_aload_n (q := 13) dX2_spawn_12 rfl rfl rfl ?_
    refine ae_iload_n (q := 14) dX2_spawn_13 rfl rfl rfl ?_
    refine ae_callV (ci := 2) (as := [.ref p2, .int a3]) (b := p0) (st := []) (q := 17) dX2_spawn_14 (c_X2_makeTask (N := N) (d := d) h lp0 tp0 lp2 tp2 (by omega) (by omega) (xc := x1) e1 (by omega) (by omega)) myX2_makeTask lk_X2_218 im_X2_makeTask se_X2_makeTask rfl (by decide) (h.s lp0 tp0) (h.l lp0) rfl rfl (Nat.le_of_ble_eq_true rfl) rfl (fun o H1 hh => ⟨_, hh.1.choose_spec.1⟩) (fun vv G3 hv => ?_)
    obtain ⟨⟨b3, o3, l3, t3⟩, z3⟩ := hv
    cases o3
    refine ⟨Or.inl (z3.nx.trans h.nx.symm), ?_⟩
    have h : jc N B 320 G3 := z3
    clear z3
    refine ae_astore (lv' := [(5, .ref b3), (0, .ref p0), (1, .ref p1), (2, .ref p2), (3, .int a3), (4, .int a4)]) (q := 19) dX2_spawn_17 (by decide) rfl rfl ?_
    refine ae_iload (q := 21) dX2_spawn_19 rfl rfl ?_
    refine ae_if_eq (t := 58) (q := 24) dX2_spawn_21 (by decide) rfl (fun c4 => ?_) (fun c4 => ?_)
    · have c4 := i_eq (a := a4.toInt) (b := 0) rfl (by decide) c4
      refine ae_aload_n (q := 59) dX2_spawn_58 rfl rfl rfl ?_
      refine ae_getI (q := 62) dX2_spawn_59 fl_X2_60 rfl (h.s lp0 tp0) (h.l lp0) rfl ?_
      obtain ⟨x5, e5, u5, v5⟩ := rdi (h.i lp0 tp0 (k := 7) (p := (0, 1)) rfl)
      refine ae_eqi e5 ?_
      refine ae_if_eq (t := 96) (q := 65) dX2_spawn_62 (by decide) rfl (fun c6 => ?_) (fun c6 => ?_)
      · have c6 := i_eq (a := x5.toInt) (b := 0) rfl (by decide) c6
        refine ae_aload_n (q := 97) dX2_spawn_96 rfl rfl rfl ?_
        refine ae_aload (q := 99) dX2_spawn_97 rfl rfl ?_
        refine ae_getI (q := 102) dX2_spawn_99 fl_X2_222 rfl (h.s l3 t3) (h.l l3) rfl ?_
        obtain ⟨x7, e7, u7, v7⟩ := rdi (h.i l3 t3 (k := 0) (p := (0, 47)) rfl)
        refine ae_eqi e7 ?_
        refine ae_callV (ci := 5) (as := [.int x7]) (b := p1) (st := []) (q := 105) dX2_spawn_102 (c_X5_append (N := N) (d := d + 1) h lp1 tp1 (by omega) (by omega)) myX5_append lk_X2_93 im_X5_append se_X5_append rfl (by decide) (h.s lp1 tp1) (h.l lp1) rfl rfl (Nat.le_of_ble_eq_true rfl) rfl (fun o H1 hh => ⟨_, hh.1⟩) (fun vv G8 hv => ?_)
        obtain ⟨o8, z8⟩ := hv
        cases o8
        refine ⟨Or.inl (z8.nx.trans h.nx.symm), ?_⟩
        have h : jc N B 320 G8 := z8
        clear z8
        refine ae_iconst (v := 0) (q := 106) dX2_spawn_105 (by decide) rfl ?_
        refine ae_iret dX2_spawn_106 rfl rfl ?_
        exact ⟨⟨_, rfl⟩, h⟩
      · have c6 := i_ne (a := x5.toInt) (b := 0) rfl (by decide) c6
        refine ae_aload (q := 67) dX2_spawn_65 rfl rfl ?_
        refine ae_iconst (v := 1) (q := 68) dX2_spawn_67 (by decide) rfl ?_
        refine ae_putI (q := 71) dX2_spawn_68 fl_X2_124 rfl rfl rfl (h.s l3 t3) (h.l l3) rfl ?_
        refine ae_gen (fun G9 g9 => ?_)
        have h : jc N B 320 G9 := by rw [g9]; exact h.w t3 (by decide) (by decide) (mk_inr (lo := 0) (hi := 3) (by decide) (by decide))
        refine ae_aload_n (q := 72) dX2_spawn_71 rfl rfl rfl ?_
        refine ae_aload (q := 74) dX2_spawn_72 rfl rfl ?_
        refine ae_getI (q := 77) dX2_spawn_74 fl_X2_222 rfl (h.s l3 t3) (h.l l3) rfl ?_
        obtain ⟨x10, e10, u10, v10⟩ := rdi (h.i l3 t3 (k := 0) (p := (0, 47)) rfl)
        refine ae_eqi e10 ?_
        refine ae_putI (q := 80) dX2_spawn_77 fl_X2_101 rfl rfl rfl (h.s lp1 tp1) (h.l lp1) rfl ?_
        refine ae_gen (fun G11 g11 => ?_)
        have h : jc N B 320 G11 := by rw [g11]; exact h.w tp1 (by decide) (fun q => absurd q.1 (by decide)) (mk_inr (lo := (-1)) (hi := 47) (by omega) (by omega))
        refine ae_aload_n (q := 81) dX2_spawn_80 rfl rfl rfl ?_
        refine ae_iconst (v := 0) (q := 82) dX2_spawn_81 (by decide) rfl ?_
        refine ae_putI (q := 85) dX2_spawn_82 fl_X2_124 rfl rfl rfl (h.s lp2 tp2) (h.l lp2) rfl ?_
        refine ae_gen (fun G12 g12 => ?_)
        have h : jc N B 320 G12 := by rw [g12]; exact h.w tp2 (by decide) (by decide) (mk_inr (lo := 0) (hi := 3) (by decide) (by decide))
        refine ae_aload_n (q := 86) dX2_spawn_85 rfl rfl rfl ?_
        refine ae_aload_n (q := 87) dX2_spawn_86 rfl rfl rfl ?_
        refine ae_getI (q := 90) dX2_spawn_87 fl_X2_222 rfl (h.s lp2 tp2) (h.l lp2) rfl ?_
        obtain ⟨x13, e13, u13, v13⟩ := rdi (h.i lp2 tp2 (k := 0) (p := (0, 47)) rfl)
        refine ae_eqi e13 ?_
        refine ae_callV (ci := 5) (as := [.int x13]) (b := p1) (st := []) (q := 93) dX2_spawn_90 (c_X5_append (N := N) (d := d + 1) h lp1 tp1 (by omega) (by omega)) myX5_append lk_X2_93 im_X5_append se_X5_append rfl (by decide) (h.s lp1 tp1) (h.l lp1) rfl rfl (Nat.le_of_ble_eq_true rfl) rfl (fun o H1 hh => ⟨_, hh.1⟩) (fun vv G14 hv => ?_)
        obtain ⟨o14, z14⟩ := hv
        cases o14
        refine ⟨Or.inl (z14.nx.trans h.nx.symm), ?_⟩
        have h : jc N B 320 G14 := z14
        clear z14
        refine ae_goto (q := 105) dX2_spawn_93 (by decide) ?_
        refine ae_iconst (v := 0) (q := 106) dX2_spawn_105 (by decide) rfl ?_
        refine ae_iret dX2_spawn_106 rfl rfl ?_
        exact ⟨⟨_, rfl⟩, h⟩
    · have c4 := i_ne (a := a4.toInt) (b := 0) rfl (by decide) c4
      refine ae_iconst (v := 0) (q := 25) dX2_spawn_24 (by decide) rfl ?_
      refine ae_istore (lv' := [(6, .int 0), (5, .ref b3), (0, .ref p0), (1, .ref p1), (2, .ref p2), (3, .int a3), (4, .int a4)]) (q := 27) dX2_spawn_25 (by decide) rfl rfl ?_
      refine ae_iload (q := 29) dX2_spawn_27 rfl rfl ?_
      refine ae_iconst (v := 2) (q := 30) dX2_spawn_29 (by decide) rfl ?_
      refine ae_icmp_ge (t := 58) (q := 33) dX2_spawn_30 (by decide) rfl (fun h => absurd h (by decide)) (fun _ => ?_)
      refine ae_aload_n (q := 34) dX2_spawn_33 rfl rfl rfl ?_
      obtain ⟨b15, r15, l15, t15⟩ := h.r lp0 tp0 (k := 4) (T' := 10) rfl (by decide)
      refine ae_getR (q := 37) dX2_spawn_34 fl_X2_33 rfl (h.s lp0 tp0) (h.l lp0) r15 rfl ?_
      refine ae_iload (q := 39) dX2_spawn_37 rfl rfl ?_
      obtain ⟨b16, r16, l16, t16⟩ := h.r l15 t15 (k := (0 : Int32).toNatClampNeg) (T' := 11) rfl (by decide)
      refine ae_aald (q := 40) dX2_spawn_39 (show am_sh G3 b15 = (103 + 1, 2) from h.s l15 t15) (show am_kinds[4]? = some (103 + 1, .object RX1) from rfl) (h.l l15) (by unfold vp_in; decide) r16 rfl ?_
      refine ae_aload_n (q := 41) dX2_spawn_40 rfl rfl rfl ?_
      refine ae_getI (q := 44) dX2_spawn_41 fl_X2_222 rfl (h.s lp2 tp2) (h.l lp2) rfl ?_
      obtain ⟨x17, e17, u17, v17⟩ := rdi (h.i lp2 tp2 (k := 0) (p := (0, 47)) rfl)
      refine ae_eqi e17 ?_
      refine ae_aload (q := 46) dX2_spawn_44 rfl rfl ?_
      refine ae_getI (q := 49) dX2_spawn_46 fl_X2_222 rfl (h.s l3 t3) (h.l l3) rfl ?_
      obtain ⟨x18, e18, u18, v18⟩ := rdi (h.i l3 t3 (k := 0) (p := (0, 47)) rfl)
      refine ae_eqi e18 ?_
      refine ae_callV (ci := 1) (as := [.int x17, .int x18]) (b := b16) (st := []) (q := 52) dX2_spawn_49 (c_X1_copy (N := N) (d := d + 1) h l16 t16 (by omega) (by omega) (by omega) (by omega)) myX1_copy lk_X2_225 im_X1_copy se_X1_copy rfl (by decide) (h.s l16 t16) (h.l l16) rfl rfl (Nat.le_of_ble_eq_true rfl) rfl (fun o H1 hh => ⟨_, hh.1⟩) (fun vv G19 hv => ?_)
      obtain ⟨o19, z19⟩ := hv
      cases o19
      refine ⟨Or.inl (z19.nx.trans h.nx.symm), ?_⟩
      have h : jc N B 320 G19 := z19
      clear z19
      refine ae_iinc (v := 1) (lv' := [(6, .int 1), (5, .ref b3), (0, .ref p0), (1, .ref p1), (2, .ref p2), (3, .int a3), (4, .int a4)]) (q := 55) dX2_spawn_52 rfl (by decide) (by decide) rfl rfl ?_
      refine ae_goto (q := 27) dX2_spawn_55 (by decide) ?_
      refine ae_iload (q := 29) dX2_spawn_27 rfl rfl ?_
      refine ae_iconst (v := 2) (q := 30) dX2_spawn_29 (by decide) rfl ?_
      refine ae_icmp_ge (t := 58) (q := 33) dX2_spawn_30 (by decide) rfl (fun h => absurd h (by decide)) (fun _ => ?_)
      refine ae_aload_n (q := 34) dX2_spawn_33 rfl rfl rfl ?_
      obtain ⟨b20, r20, l20, t20⟩ := h.r lp0 tp0 (k := 4) (T' := 10) rfl (by decide)
      refine ae_getR (q := 37) dX2_spawn_34 fl_X2_33 rfl (h.s lp0 tp0) (h.l lp0) r20 rfl ?_
      refine ae_iload (q := 39) dX2_spawn_37 rfl rfl ?_
      obtain ⟨b21, r21, l21, t21⟩ := h.r l20 t20 (k := (1 : Int32).toNatClampNeg) (T' := 11) rfl (by decide)
      refine ae_aald (q := 40) dX2_spawn_39 (show am_sh G19 b20 = (103 + 1, 2) from h.s l20 t20) (show am_kinds[4]? = some (103 + 1, .object RX1) from rfl) (h.l l20) (by unfold vp_in; decide) r21 rfl ?_
      refine ae_aload_n (q := 41) dX2_spawn_40 rfl rfl rfl ?_
      refine ae_getI (q := 44) dX2_spawn_41 fl_X2_222 rfl (h.s lp2 tp2) (h.l lp2) rfl ?_
      obtain ⟨x22, e22, u22, v22⟩ := rdi (h.i lp2 tp2 (k := 0) (p := (0, 47)) rfl)
      refine ae_eqi e22 ?_
      refine ae_aload (q := 46) dX2_spawn_44 rfl rfl ?_
      refine ae_getI (q := 49) dX2_spawn_46 fl_X2_222 rfl (h.s l3 t3) (h.l l3) rfl ?_
      obtain ⟨x23, e23, u23, v23⟩ := rdi (h.i l3 t3 (k := 0) (p := (0, 47)) rfl)
      refine ae_eqi e23 ?_
      refine ae_callV (ci := 1) (as := [.int x22, .int x23]) (b := b21) (st := []) (q := 52) dX2_spawn_49 (c_X1_copy (N := N) (d := d + 1) h l21 t21 (by omega) (by omega) (by omega) (by omega)) myX1_copy lk_X2_225 im_X1_copy se_X1_copy rfl (by decide) (h.s l21 t21) (h.l l21) rfl rfl (Nat.le_of_ble_eq_true rfl) rfl (fun o H1 hh => ⟨_, hh.1⟩) (fun vv G24 hv => ?_)
      obtain ⟨o24, z24⟩ := hv
      cases o24
      refine ⟨Or.inl (z24.nx.trans h.nx.symm), ?_⟩
      have h : jc N B 320 G24 := z24
      clear z24
      refine ae_iinc (v := 2) (lv' := [(6, .int 2), (5, .ref b3), (0, .ref p0), (1, .ref p1), (2, .ref p2), (3, .int a3), (4, .int a4)]) (q := 55) dX2_spawn_52 rfl (by decide) (by decide) rfl rfl ?_
      refine ae_goto (q := 27) dX2_spawn_55 (by decide) ?_
      refine ae_iload (q := 29) dX2_spawn_27 rfl rfl ?_
      refine ae_iconst (v := 2) (q := 30) dX2_spawn_29 (by decide) rfl ?_
      refine ae_icmp_ge (t := 58) (q := 33) dX2_spawn_30 (by decide) rfl (fun _ => ?_) (fun h => absurd h (by decide))
      refine ae_aload_n (q := 59) dX2_spawn_58 rfl rfl rfl ?_
      refine ae_getI (q := 62) dX2_spawn_59 fl_X2_60 rfl (h.s lp0 tp0) (h.l lp0) rfl ?_
      obtain ⟨x25, e25, u25, v25⟩ := rdi (h.i lp0 tp0 (k := 7) (p := (0, 1)) rfl)
      refine ae_eqi e25 ?_
      refine ae_if_eq (t := 96) (q := 65) dX2_spawn_62 (by decide) rfl (fun c26 => ?_) (fun c26 => ?_)
      · have c26 := i_eq (a := x25.toInt) (b := 0) rfl (by decide) c26
        refine ae_aload_n (q := 97) dX2_spawn_96 rfl rfl rfl ?_
        refine ae_aload (q := 99) dX2_spawn_97 rfl rfl ?_
        refine ae_getI (q := 102) dX2_spawn_99 fl_X2_222 rfl (h.s l3 t3) (h.l l3) rfl ?_
        obtain ⟨x27, e27, u27, v27⟩ := rdi (h.i l3 t3 (k := 0) (p := (0, 47)) rfl)
        refine ae_eqi e27 ?_
        refine ae_callV (ci := 5) (as := [.int x27]) (b := p1) (st := []) (q := 105) dX2_spawn_102 (c_X5_append (N := N) (d := d + 1) h lp1 tp1 (by omega) (by omega)) myX5_append lk_X2_93 im_X5_append se_X5_append rfl (by decide) (h.s lp1 tp1) (h.l lp1) rfl rfl (Nat.le_of_ble_eq_true rfl) rfl (fun o H1 hh => ⟨_, hh.1⟩) (fun vv G28 hv => ?_)
        obtain ⟨o28, z28⟩ := hv
        cases o28
        refine ⟨Or.inl (z28.nx.trans h.nx.symm), ?_⟩
        have h : jc N B 320 G28 := z28
        clear z28
        refine ae_iconst (v := 0) (q := 106) dX2_spawn_105 (by decide) rfl ?_
        refine ae_iret dX2_spawn_106 rfl rfl ?_
        exact ⟨⟨_, rfl⟩, h⟩
      · have c26 := i_ne (a := x25.toInt) (b := 0) rfl (by decide) c26
        refine ae_aload (q := 67) dX2_spawn_65 rfl rfl ?_
        refine ae_iconst (v := 1) (q := 68) dX2_spawn_67 (by decide) rfl ?_
        refine ae_putI (q := 71) dX2_spawn_68 fl_X2_124 rfl rfl rfl (h.s l3 t3) (h.l l3) rfl ?_
        refine ae_gen (fun G29 g29 => ?_)
        have h : jc N B 320 G29 := by rw [g29]; exact h.w t3 (by decide) (by decide) (mk_inr (lo := 0) (hi := 3) (by decide) (by decide))
        refine ae_aload_n (q := 72) dX2_spawn_71 rfl rfl rfl ?_
        refine ae_aload (q := 74) dX2_spawn_72 rfl rfl ?_
        refine ae_getI (q := 77) dX2_spawn_74 fl_X2_222 rfl (h.s l3 t3) (h.l l3) rfl ?_
        obtain ⟨x30, e30, u30, v30⟩ := rdi (h.i l3 t3 (k := 0) (p := (0, 47)) rfl)
        refine ae_eqi e30 ?_
        refine ae_putI (q := 80) dX2_spawn_77 fl_X2_101 rfl rfl rfl (h.s lp1 tp1) (h.l lp1) rfl ?_
        refine ae_gen (fun G31 g31 => ?_)
        have h : jc N B 320 G31 := by rw [g31]; exact h.w tp1 (by decide) (fun q => absurd q.1 (by decide)) (mk_inr (lo := (-1)) (hi := 47) (by omega) (by omega))
        refine ae_aload_n (q := 81) dX2_spawn_80 rfl rfl rfl ?_
        refine ae_iconst (v := 0) (q := 82) dX2_spawn_81 (by decide) rfl ?_
        refine ae_putI (q := 85) dX2_spawn_82 fl_X2_124 rfl rfl rfl (h.s lp2 tp2) (h.l lp2) rfl ?_
        refine ae_gen (fun G32 g32 => ?_)
        have h : jc N B 320 G32 := by rw [g32]; exact h.w tp2 (by decide) (by decide) (mk_inr (lo := 0) (hi := 3) (by decide) (by decide))
        refine ae_aload_n (q := 86) dX2_spawn_85 rfl rfl rfl ?_
        refine ae_aload_n (q := 87) dX2_spawn_86 rfl rfl rfl ?_
        refine ae_getI (q := 90) dX2_spawn_87 fl_X2_222 rfl (h.s lp2 tp2) (h.l lp2) rfl ?_
        obtain ⟨x33, e33, u33, v33⟩ := rdi (h.i lp2 tp2 (k := 0) (p := (0, 47)) rfl)
        refine ae_eqi e33 ?_
        refine ae_callV (ci := 5) (as := [.int x33]) (b := p1) (st := []) (q := 93) dX2_spawn_90 (c_X5_append (N := N) (d := d + 1) h lp1 tp1 (by omega) (by omega)) myX5_append lk_X2_93 im_X5_append se_X5_append rfl (by decide) (h.s lp1 tp1) (h.l lp1) rfl rfl (Nat.le_of_ble_eq_true rfl) rfl (fun o H1 hh => ⟨_, hh.1⟩) (fun vv G34 hv => ?_)
        obtain ⟨o34, z34⟩ := hv
        cases o34
        refine ⟨Or.inl (z34.nx.trans h.nx.symm), ?_⟩
        have h : jc N B 320 G34 := z34
        clear z34
        refine ae_goto (q := 105) dX2_spawn_93 (by decide) ?_
        refine ae_iconst (v := 0) (q := 106) dX2_spawn_105 (by decide) rfl ?_
        refine ae_iret dX2_spawn_106 rfl rfl ?_
        exact ⟨⟨_, rfl⟩, h⟩
  · have c2 := i_nlt (a := x1.toInt) (b := 48) rfl (by decide) c2
    refine ae_iconst (v := 1) (q := 10) dX2_spawn_9 (by decide) rfl ?_
    refine ae_iret dX2_spawn_10 rfl rfl ?_
    exact ⟨⟨_, rfl⟩, h⟩
set_option maxRecDepth 100000 in
set_option maxHeartbeats 4000000 in
theorem c_X2_finishWait {ox : List (Nat × (Nat → Int32))} {d N : Nat} {B H : am_H} {p0 : Nat} {p1 : Nat} (hN : N + 0 ≤ 1000000) (h : jc N B 320 H) (lp0 : p0 < 320) (tp0 : ty p0 = 5) (lp1 : p1 < 320) (tp1 : ty p1 = 8) {xd : Int32} (e_xd : am_gi H p1 8 = xd) (u_xd : 1 ≤ xd.toInt) (v_xd : xd.toInt ≤ 4) : am_DB 0 ox (d + 3) yX2_finishWait mX2_finishWait [.ref p0, .ref p1] H (fun o H1 => (∃ v : Int32, o = .inl (some (.int v))) ∧ jc (N + 1) B 320 H1) := by
  refine ae_enter rfl rfl rfl rfl (Nat.le_of_ble_eq_true rfl) ?_
  show am_EB 0 ox (d + 3) mX2_finishWait 0 [(0, .ref p0), (1, .ref p1)] [] H _
  refine ae_aload_n (q := 1) dX2_finishWait_0 rfl rfl rfl ?_
  refine ae_getI (q := 4) dX2_finishWait_1 fl_X2_127 rfl (h.s lp1 tp1) (h.l lp1) rfl ?_
  refine ae_eqi e_xd ?_
  have c1 : xd.toInt = 1 ∨ xd.toInt = 2 ∨ xd.toInt = 3 ∨ xd.toInt = 4 := by omega
  rcases c1 with c1 | c1 | c1 | c1
  · have j1 : xd = 1 := Int32.toInt_inj.mp (by rw [c1]; decide)
    refine ae_lookup (off := 28) (q := 32) dX2_finishWait_4 (by decide) (by rw [j1]; decide) (by decide) ?_
    refine ae_aload_n (q := 33) dX2_finishWait_32 rfl rfl rfl ?_
    refine ae_aload_n (q := 34) dX2_finishWait_33 rfl rfl rfl ?_
    refine ae_aload_n (q := 35) dX2_finishWait_34 rfl rfl rfl ?_
    refine ae_getI (q := 38) dX2_finishWait_35 fl_X2_161 rfl (h.s lp1 tp1) (h.l lp1) rfl ?_
    obtain ⟨x2, e2, u2, v2⟩ := rdi (h.i lp1 tp1 (k := 9) (p := (0, 3)) rfl)
    refine ae_eqi e2 ?_
    refine ae_callV (ci := 2) (as := [.ref p1, .int x2]) (b := p0) (st := []) (q := 41) dX2_finishWait_38 (c_X2_get (N := N) (d := d + 1) (by omega) h lp0 tp0 lp1 tp1 (by omega) (by omega)) myX2_get lk_X2_164 im_X2_get se_X2_get rfl (by decide) (h.s lp0 tp0) (h.l lp0) rfl rfl (Nat.le_of_ble_eq_true rfl) rfl (fun o H1 hh => ⟨_, hh.1.choose_spec⟩) (fun vv G3 hv => ?_)
    obtain ⟨⟨x3, o3⟩, z3⟩ := hv
    cases o3
    refine ⟨Or.inl (z3.nx.trans h.nx.symm), ?_⟩
    have h : jc (N + 1) B 320 G3 := z3
    clear z3
    refine ae_iret dX2_finishWait_41 rfl rfl ?_
    exact ⟨⟨_, rfl⟩, h⟩
  · have j1 : xd = 2 := Int32.toInt_inj.mp (by rw [c1]; decide)
    refine ae_lookup (off := 38) (q := 42) dX2_finishWait_4 (by decide) (by rw [j1]; decide) (by decide) ?_
    refine ae_aload_n (q := 43) dX2_finishWait_42 rfl rfl rfl ?_
    refine ae_aload_n (q := 44) dX2_finishWait_43 rfl rfl rfl ?_
    refine ae_callV (ci := 2) (as := [.ref p1]) (b := p0) (st := []) (q := 47) dX2_finishWait_44 (c_X2_passPhases (N := N) (d := d) (by omega) h lp0 tp0 lp1 tp1) myX2_passPhases lk_X2_168 im_X2_passPhases se_X2_passPhases rfl (by decide) (h.s lp0 tp0) (h.l lp0) rfl rfl (Nat.le_of_ble_eq_true rfl) rfl (fun o H1 hh => ⟨_, hh.1.choose_spec⟩) (fun vv G4 hv => ?_)
    obtain ⟨⟨x4, o4⟩, z4⟩ := hv
    cases o4
    refine ⟨Or.inl (z4.nx.trans h.nx.symm), ?_⟩
    have h : jc (N + 1) B 320 G4 := z4
    clear z4
    refine ae_iret dX2_finishWait_47 rfl rfl ?_
    exact ⟨⟨_, rfl⟩, h⟩
  · have j1 : xd = 3 := Int32.toInt_inj.mp (by rw [c1]; decide)
    refine ae_lookup (off := 44) (q := 48) dX2_finishWait_4 (by decide) (by rw [j1]; decide) (by decide) ?_
    refine ae_aload_n (q := 49) dX2_finishWait_48 rfl rfl rfl ?_
    refine ae_aload_n (q := 50) dX2_finishWait_49 rfl rfl rfl ?_
    refine ae_callV (ci := 2) (as := [.ref p1]) (b := p0) (st := []) (q := 53) dX2_finishWait_50 (c_X2_endScope (N := N) (d := d + 1) (by omega) h lp0 tp0 lp1 tp1 (xd := xd) e_xd (by omega) (by omega)) myX2_endScope lk_X2_171 im_X2_endScope se_X2_endScope rfl (by decide) (h.s lp0 tp0) (h.l lp0) rfl rfl (Nat.le_of_ble_eq_true rfl) rfl (fun o H1 hh => ⟨_, hh.1.choose_spec⟩) (fun vv G5 hv => ?_)
    obtain ⟨⟨x5, o5⟩, z5⟩ := hv
    cases o5
    refine ⟨Or.inl (z5.nx.trans h.nx.symm), ?_⟩
    have h : jc (N + 1) B 320 G5 := z5
    clear z5
    refine ae_iret dX2_finishWait_53 rfl rfl ?_
    exact ⟨⟨_, rfl⟩, h⟩
  · have j1 : xd = 4 := Int32.toInt_inj.mp (by rw [c1]; decide)
    refine ae_lookup (off := 44) (q := 48) dX2_finishWait_4 (by decide) (by rw [j1]; decide) (by decide) ?_
    refine ae_aload_n (q := 49) dX2_finishWait_48 rfl rfl rfl ?_
    refine ae_aload_n (q := 50) dX2_finishWait_49 rfl rfl rfl ?_
    refine ae_callV (ci := 2) (as := [.ref p1]) (b := p0) (st := []) (q := 53) dX2_finishWait_50 (c_X2_endScope (N := N) (d := d + 1) (by omega) h lp0 tp0 lp1 tp1 (xd := xd) e_xd (by omega) (by omega)) myX2_endScope lk_X2_171 im_X2_endScope se_X2_endScope rfl (by decide) (h.s lp0 tp0) (h.l lp0) rfl rfl (Nat.le_of_ble_eq_true rfl) rfl (fun o H1 hh => ⟨_, hh.1.choose_spec⟩) (fun vv G6 hv => ?_)
    obtain ⟨⟨x6, o6⟩, z6⟩ := hv
    cases o6
    refine ⟨Or.inl (z6.nx.trans h.nx.symm), ?_⟩
    have h : jc (N + 1) B 320 G6 := z6
    clear z6
    refine ae_iret dX2_finishWait_53 rfl rfl ?_
    exact ⟨⟨_, rfl⟩, h⟩
set_option maxRecDepth 100000 in
set_option maxHeartbeats 4000000 in
theorem c_X2_instruct {ox : List (Nat × (Nat → Int32))} {d N : Nat} {B H : am_H} {p0 : Nat} {p1 : Nat} {p2 : Nat} {p3 : Nat} (ho3 : ox[3]? = some (4, fun k => am_t3.getD k 0)) (hR : R1 B) (hN : N + 0 ≤ 1000000) (h : jc N B 320 H) (lp0 : p0 < 320) (tp0 : ty p0 = 5) (lp1 : p1 < 320) (tp1 : ty p1 = 14) (lp2 : p2 < 320) (tp2 : ty p2 = 8) (lp3 : p3 < 320) (tp3 : ty p3 = 2) {xp : Int32} (e_xp : am_gi H p2 6 = xp) (u_xp : 0 ≤ xp.toInt) (v_xp : xp.toInt ≤ 15) : am_DB 0 ox (d + 3) yX2_instruct mX2_instruct [.ref p0, .ref p1, .ref p2, .ref p3] H (fun o H1 => (∃ v : Int32, o = .inl (some (.int v))) ∧ jc (N + 1) B 320 H1) := by
  refine ae_enter rfl rfl rfl rfl (Nat.le_of_ble_eq_true rfl) ?_
  show am_EB 0 ox (d + 3) mX2_instruct 0 [(0, .ref p0), (1, .ref p1), (2, .ref p2), (3, .ref p3)] [] H _
  obtain ⟨po, pg, ro, rg, ⟨lo, to⟩, ⟨lg, tg⟩, hf⟩ := h.ins hR lp3 tp3
  refine ae_aload_n (q := 1) dX2_instruct_0 rfl rfl rfl ?_
  refine ae_getR (q := 4) dX2_instruct_1 fl_X2_174 rfl (h.s lp3 tp3) (h.l lp3) rg rfl ?_
  refine ae_aload_n (q := 5) dX2_instruct_4 rfl rfl rfl ?_
  refine ae_getI (q := 8) dX2_instruct_5 fl_X2_134 rfl (h.s lp2 tp2) (h.l lp2) rfl ?_
  refine ae_eqi e_xp ?_
  refine ae_iald (q := 9) dX2_instruct_8 (h.s lg tg) (h.l lg) (vin (by omega) (by omega)) rfl ?_
  obtain ⟨x1, e1⟩ : ∃ x, am_gi H pg xp.toNatClampNeg = x := ⟨_, rfl⟩
  refine ae_eqi e1 ?_
  refine ae_istore (lv' := [(4, .int x1), (0, .ref p0), (1, .ref p1), (2, .ref p2), (3, .ref p3)]) (q := 11) dX2_instruct_9 (by decide) rfl rfl ?_
  refine ae_aload_n (q := 12) dX2_instruct_11 rfl rfl rfl ?_
  refine ae_getI (q := 15) dX2_instruct_12 fl_X2_134 rfl (h.s lp2 tp2) (h.l lp2) rfl ?_
  refine ae_eqi e_xp ?_
  refine ae_iconst (v := 1) (q := 16) dX2_instruct_15 (by decide) rfl ?_
  refine ae_iadd (q := 17) dX2_instruct_16 rfl ?_
  obtain ⟨x2, e2⟩ : ∃ z, xp + 1 = z := ⟨_, rfl⟩
  refine ae_eqi e2 ?_
  have f2 : x2.toInt = xp.toInt + 1 := by rw [← e2]; exact i_add rfl (by decide) (by omega) (by omega)
  refine ae_istore (lv' := [(5, .int x2), (4, .int x1), (0, .ref p0), (1, .ref p1), (2, .ref p2), (3, .ref p3)]) (q := 19) dX2_instruct_17 (by decide) rfl rfl ?_
  refine ae_iconst (v := 0) (q := 20) dX2_instruct_19 (by decide) rfl ?_
  refine ae_istore (lv' := [(6, .int 0), (5, .int x2), (4, .int x1), (0, .ref p0), (1, .ref p1), (2, .ref p2), (3, .ref p3)]) (q := 22) dX2_instruct_20 (by decide) rfl rfl ?_
  refine ae_aload_n (q := 23) dX2_instruct_22 rfl rfl rfl ?_
  refine ae_getR (q := 26) dX2_instruct_23 fl_X2_177 rfl (h.s lp3 tp3) (h.l lp3) ro rfl ?_
  refine ae_aload_n (q := 27) dX2_instruct_26 rfl rfl rfl ?_
  refine ae_getI (q := 30) dX2_instruct_27 fl_X2_134 rfl (h.s lp2 tp2) (h.l lp2) rfl ?_
  refine ae_eqi e_xp ?_
  refine ae_iald (q := 31) dX2_instruct_30 (h.s lo to) (h.l lo) (vin (by omega) (by omega)) rfl ?_
  obtain ⟨x3, e3, u3, v3⟩ := rdi (h.i lo to (k := xp.toNatClampNeg) (p := (0, 16)) rfl)
  refine ae_eqi e3 ?_
  have lab335 : ∀ (y4_6 : Int32) (y4_5 : Int32) (K4 : am_H), jc (N + 1) B 320 K4 → 0 ≤ y4_5.toInt → y4_5.toInt ≤ 16 → am_EB 0 ox (d + 3) mX2_instruct 335 [(6, .int y4_6), (5, .int y4_5), (4, .int x1), (0, .ref p0), (1, .ref p1), (2, .ref p2), (3, .ref p3)] [] K4 (fun o H1 => (∃ v : Int32, o = .inl (some (.int v))) ∧ jc (N + 1) B 320 H1) := by
    intro y4_6 y4_5 K4 h p4_5 q4_5
    refine ae_aload_n (q := 336) dX2_instruct_335 rfl rfl rfl ?_
    refine ae_iload (q := 338) dX2_instruct_336 rfl rfl ?_
    refine ae_if_ne (t := 346) (q := 341) dX2_instruct_338 (by decide) rfl (fun c5 => ?_) (fun c5 => ?_)
    · have c5 := i_ne (a := y4_6.toInt) (b := 0) rfl (by decide) c5
      refine ae_aload_n (q := 347) dX2_instruct_346 rfl rfl rfl ?_
      refine ae_getI (q := 350) dX2_instruct_347 fl_X2_134 rfl (h.s lp2 tp2) (h.l lp2) rfl ?_
      obtain ⟨x6, e6, u6, v6⟩ := rdi (h.i lp2 tp2 (k := 6) (p := (0, 16 + (((N + 1) : Nat) : Int))) rfl)
      refine ae_eqi e6 ?_
      refine ae_putI (q := 353) dX2_instruct_350 fl_X2_134 rfl rfl rfl (h.s lp2 tp2) (h.l lp2) rfl ?_
      refine ae_gen (fun G7 g7 => ?_)
      have h : jc (N + 1) B 320 G7 := by rw [g7]; exact h.w tp2 (by decide) (by decide) (mk_inr (lo := 0) (hi := 16 + (((N + 1) : Nat) : Int)) (by omega) (by omega))
      refine ae_iload (q := 355) dX2_instruct_353 rfl rfl ?_
      refine ae_iret dX2_instruct_355 rfl rfl ?_
      exact ⟨⟨_, rfl⟩, h⟩
    · have c5 := i_eq (a := y4_6.toInt) (b := 0) rfl (by decide) c5
      refine ae_iload (q := 343) dX2_instruct_341 rfl rfl ?_
      refine ae_goto (q := 350) dX2_instruct_343 (by decide) ?_
      refine ae_putI (q := 353) dX2_instruct_350 fl_X2_134 rfl rfl rfl (h.s lp2 tp2) (h.l lp2) rfl ?_
      refine ae_gen (fun G8 g8 => ?_)
      have h : jc (N + 1) B 320 G8 := by rw [g8]; exact h.w tp2 (by decide) (by decide) (mk_inr (lo := 0) (hi := 16 + (((N + 1) : Nat) : Int)) (by omega) (by omega))
      refine ae_iload (q := 355) dX2_instruct_353 rfl rfl ?_
      refine ae_iret dX2_instruct_355 rfl rfl ?_
      exact ⟨⟨_, rfl⟩, h⟩
  have c9 : x3.toInt = 0 ∨ x3.toInt = 1 ∨ x3.toInt = 2 ∨ x3.toInt = 3 ∨ x3.toInt = 4 ∨ x3.toInt = 5 ∨ x3.toInt = 6 ∨ x3.toInt = 7 ∨ x3.toInt = 8 ∨ x3.toInt = 9 ∨ x3.toInt = 10 ∨ x3.toInt = 11 ∨ x3.toInt = 12 ∨ x3.toInt = 13 ∨ x3.toInt = 14 ∨ x3.toInt = 15 ∨ x3.toInt = 16 := by omega
  rcases c9 with c9 | c9 | c9 | c9 | c9 | c9 | c9 | c9 | c9 | c9 | c9 | c9 | c9 | c9 | c9 | c9 | c9
  · have j9 : x3 = 0 := Int32.toInt_inj.mp (by rw [c9]; decide)
    refine ae_tableIn (off := 81) (q := 112) dX2_instruct_31 (by rw [j9]; decide) (by rw [j9]; decide) (by rw [j9]; decide) (by decide) ?_
    refine ae_aload_n (q := 113) dX2_instruct_112 rfl rfl rfl ?_
    refine ae_dup (q := 114) dX2_instruct_113 rfl rfl ?_
    refine ae_getI (q := 117) dX2_instruct_114 fl_X2_180 rfl (h.s lp2 tp2) (h.l lp2) rfl ?_
    obtain ⟨x10, e10⟩ : ∃ x, am_gi H p2 5 = x := ⟨_, rfl⟩
    refine ae_eqi e10 ?_
    refine ae_iload (q := 119) dX2_instruct_117 rfl rfl ?_
    refine ae_iadd (q := 120) dX2_instruct_119 rfl ?_
    obtain ⟨x11, e11⟩ : ∃ z, x10 + x1 = z := ⟨_, rfl⟩
    refine ae_eqi e11 ?_
    refine ae_putI (q := 123) dX2_instruct_120 fl_X2_180 rfl rfl rfl (h.s lp2 tp2) (h.l lp2) rfl ?_
    refine ae_gen (fun G12 g12 => ?_)
    have h : jc N B 320 G12 := by rw [g12]; exact h.w tp2 (by decide) (by decide) inr_any
    refine ae_goto (q := 335) dX2_instruct_123 (by decide) ?_
    exact ae_lv (lv' := [(6, .int 0), (5, .int x2), (4, .int x1), (0, .ref p0), (1, .ref p1), (2, .ref p2), (3, .ref p3)]) ⟨rfl, rfl, rfl, rfl, rfl, rfl, rfl, trivial⟩ (lab335 0 x2 _ (h.up (by omega)) (by omega) (by omega))
  · have j9 : x3 = 1 := Int32.toInt_inj.mp (by rw [c9]; decide)
    refine ae_tableIn (off := 95) (q := 126) dX2_instruct_31 (by rw [j9]; decide) (by rw [j9]; decide) (by rw [j9]; decide) (by decide) ?_
    refine ae_aload_n (q := 127) dX2_instruct_126 rfl rfl rfl ?_
    refine ae_dup (q := 128) dX2_instruct_127 rfl rfl ?_
    refine ae_getI (q := 131) dX2_instruct_128 fl_X2_180 rfl (h.s lp2 tp2) (h.l lp2) rfl ?_
    obtain ⟨x13, e13⟩ : ∃ x, am_gi H p2 5 = x := ⟨_, rfl⟩
    refine ae_eqi e13 ?_
    refine ae_iload (q := 133) dX2_instruct_131 rfl rfl ?_
    refine ae_imul (q := 134) dX2_instruct_133 rfl ?_
    obtain ⟨x14, e14⟩ : ∃ z, x13 * x1 = z := ⟨_, rfl⟩
    refine ae_eqi e14 ?_
    refine ae_putI (q := 137) dX2_instruct_134 fl_X2_180 rfl rfl rfl (h.s lp2 tp2) (h.l lp2) rfl ?_
    refine ae_gen (fun G15 g15 => ?_)
    have h : jc N B 320 G15 := by rw [g15]; exact h.w tp2 (by decide) (by decide) inr_any
    refine ae_goto (q := 335) dX2_instruct_137 (by decide) ?_
    exact ae_lv (lv' := [(6, .int 0), (5, .int x2), (4, .int x1), (0, .ref p0), (1, .ref p1), (2, .ref p2), (3, .ref p3)]) ⟨rfl, rfl, rfl, rfl, rfl, rfl, rfl, trivial⟩ (lab335 0 x2 _ (h.up (by omega)) (by omega) (by omega))
  · have j9 : x3 = 2 := Int32.toInt_inj.mp (by rw [c9]; decide)
    refine ae_tableIn (off := 109) (q := 140) dX2_instruct_31 (by rw [j9]; decide) (by rw [j9]; decide) (by rw [j9]; decide) (by decide) ?_
    have fa := (hf xp.toNatClampNeg).1 (by rw [e3]; omega)
    rw [e1] at fa
    obtain ⟨fa1, fa2⟩ := fa
    refine ae_aload_n (q := 141) dX2_instruct_140 rfl rfl rfl ?_
    refine ae_aload_n (q := 142) dX2_instruct_141 rfl rfl rfl ?_
    refine ae_aload_n (q := 143) dX2_instruct_142 rfl rfl rfl ?_
    refine ae_iload (q := 145) dX2_instruct_143 rfl rfl ?_
    refine ae_iconst (v := 0) (q := 146) dX2_instruct_145 (by decide) rfl ?_
    refine ae_callV (ci := 2) (as := [.ref p1, .ref p2, .int x1, .int 0]) (b := p0) (st := []) (q := 149) dX2_instruct_146 (c_X2_spawn (N := N) (d := d) h lp0 tp0 lp1 tp1 lp2 tp2 (by omega) (by omega) (by decide) (by decide)) myX2_spawn lk_X2_183 im_X2_spawn se_X2_spawn rfl (by decide) (h.s lp0 tp0) (h.l lp0) rfl rfl (Nat.le_of_ble_eq_true rfl) rfl (fun o H1 hh => ⟨_, hh.1.choose_spec⟩) (fun vv G16 hv => ?_)
    obtain ⟨⟨x16, o16⟩, z16⟩ := hv
    cases o16
    refine ⟨Or.inl (z16.nx.trans h.nx.symm), ?_⟩
    have h : jc N B 320 G16 := z16
    clear z16
    refine ae_istore (lv' := [(6, .int x16), (5, .int x2), (4, .int x1), (0, .ref p0), (1, .ref p1), (2, .ref p2), (3, .ref p3)]) (q := 151) dX2_instruct_149 (by decide) rfl rfl ?_
    refine ae_goto (q := 335) dX2_instruct_151 (by decide) ?_
    exact ae_lv (lv' := [(6, .int x16), (5, .int x2), (4, .int x1), (0, .ref p0), (1, .ref p1), (2, .ref p2), (3, .ref p3)]) ⟨rfl, rfl, rfl, rfl, rfl, rfl, rfl, trivial⟩ (lab335 x16 x2 _ (h.up (by omega)) (by omega) (by omega))
  · have j9 : x3 = 3 := Int32.toInt_inj.mp (by rw [c9]; decide)
    refine ae_tableIn (off := 123) (q := 154) dX2_instruct_31 (by rw [j9]; decide) (by rw [j9]; decide) (by rw [j9]; decide) (by decide) ?_
    have fa := (hf xp.toNatClampNeg).1 (by rw [e3]; omega)
    rw [e1] at fa
    obtain ⟨fa1, fa2⟩ := fa
    refine ae_aload_n (q := 155) dX2_instruct_154 rfl rfl rfl ?_
    refine ae_aload_n (q := 156) dX2_instruct_155 rfl rfl rfl ?_
    refine ae_aload_n (q := 157) dX2_instruct_156 rfl rfl rfl ?_
    refine ae_iload (q := 159) dX2_instruct_157 rfl rfl ?_
    refine ae_iconst (v := 1) (q := 160) dX2_instruct_159 (by decide) rfl ?_
    refine ae_callV (ci := 2) (as := [.ref p1, .ref p2, .int x1, .int 1]) (b := p0) (st := []) (q := 163) dX2_instruct_160 (c_X2_spawn (N := N) (d := d) h lp0 tp0 lp1 tp1 lp2 tp2 (by omega) (by omega) (by decide) (by decide)) myX2_spawn lk_X2_183 im_X2_spawn se_X2_spawn rfl (by decide) (h.s lp0 tp0) (h.l lp0) rfl rfl (Nat.le_of_ble_eq_true rfl) rfl (fun o H1 hh => ⟨_, hh.1.choose_spec⟩) (fun vv G17 hv => ?_)
    obtain ⟨⟨x17, o17⟩, z17⟩ := hv
    cases o17
    refine ⟨Or.inl (z17.nx.trans h.nx.symm), ?_⟩
    have h : jc N B 320 G17 := z17
    clear z17
    refine ae_istore (lv' := [(6, .int x17), (5, .int x2), (4, .int x1), (0, .ref p0), (1, .ref p1), (2, .ref p2), (3, .ref p3)]) (q := 165) dX2_instruct_163 (by decide) rfl rfl ?_
    refine ae_goto (q := 335) dX2_instruct_165 (by decide) ?_
    exact ae_lv (lv' := [(6, .int x17), (5, .int x2), (4, .int x1), (0, .ref p0), (1, .ref p1), (2, .ref p2), (3, .ref p3)]) ⟨rfl, rfl, rfl, rfl, rfl, rfl, rfl, trivial⟩ (lab335 x17 x2 _ (h.up (by omega)) (by omega) (by omega))
  · have j9 : x3 = 4 := Int32.toInt_inj.mp (by rw [c9]; decide)
    refine ae_tableIn (off := 137) (q := 168) dX2_instruct_31 (by rw [j9]; decide) (by rw [j9]; decide) (by rw [j9]; decide) (by decide) ?_
    have fa := (hf xp.toNatClampNeg).2.1 (by rw [e3]; omega)
    rw [e1] at fa
    obtain ⟨fa1, fa2⟩ := fa
    refine ae_aload_n (q := 169) dX2_instruct_168 rfl rfl rfl ?_
    refine ae_aload_n (q := 170) dX2_instruct_169 rfl rfl rfl ?_
    refine ae_iload (q := 172) dX2_instruct_170 rfl rfl ?_
    refine ae_iconst (v := 4) (q := 173) dX2_instruct_172 (by decide) rfl ?_
    refine ae_irem (q := 174) dX2_instruct_173 (by decide) rfl ?_
    obtain ⟨x18, e18⟩ : ∃ z, x1 - x1 / 4 * 4 = z := ⟨_, rfl⟩
    refine ae_eqi e18 ?_
    have f18 : x18.toInt = x1.toInt % 4 ∧ 0 ≤ x1.toInt % 4 ∧ x1.toInt % 4 < 4 := by rw [← e18]; exact i_rem rfl (by decide) (by omega) (by omega)
    obtain ⟨f18, g18, k18⟩ := f18
    have a18 : 0 ≤ x18.toInt := by rw [f18]; exact g18
    have b18 : x18.toInt < 4 := by rw [f18]; exact k18
    clear g18 k18
    refine ae_iload (q := 176) dX2_instruct_174 rfl rfl ?_
    refine ae_iconst (v := 4) (q := 177) dX2_instruct_176 (by decide) rfl ?_
    refine ae_idiv (q := 178) dX2_instruct_177 (by decide) rfl ?_
    obtain ⟨x19, e19⟩ : ∃ z, x1 / 4 = z := ⟨_, rfl⟩
    refine ae_eqi e19 ?_
    have f19 : x19.toInt = x1.toInt / 4 := by rw [← e19]; exact i_div rfl (by decide) (by omega) (by omega)
    refine ae_callV (ci := 2) (as := [.ref p2, .int x18, .int x19]) (b := p0) (st := []) (q := 181) dX2_instruct_178 (c_X2_openScope (N := N) (d := d + 1) ho3 h lp0 tp0 lp2 tp2 (by omega) (by omega) (by omega) (by omega)) myX2_openScope lk_X2_187 im_X2_openScope se_X2_openScope rfl (by decide) (h.s lp0 tp0) (h.l lp0) rfl rfl (Nat.le_of_ble_eq_true rfl) rfl (fun o H1 hh => ⟨_, hh.1.choose_spec⟩) (fun vv G20 hv => ?_)
    obtain ⟨⟨x20, o20⟩, z20⟩ := hv
    cases o20
    refine ⟨Or.inl (z20.nx.trans h.nx.symm), ?_⟩
    have h : jc N B 320 G20 := z20
    clear z20
    refine ae_istore (lv' := [(6, .int x20), (5, .int x2), (4, .int x1), (0, .ref p0), (1, .ref p1), (2, .ref p2), (3, .ref p3)]) (q := 183) dX2_instruct_181 (by decide) rfl rfl ?_
    refine ae_goto (q := 335) dX2_instruct_183 (by decide) ?_
    exact ae_lv (lv' := [(6, .int x20), (5, .int x2), (4, .int x1), (0, .ref p0), (1, .ref p1), (2, .ref p2), (3, .ref p3)]) ⟨rfl, rfl, rfl, rfl, rfl, rfl, rfl, trivial⟩ (lab335 x20 x2 _ (h.up (by omega)) (by omega) (by omega))
  · have j9 : x3 = 5 := Int32.toInt_inj.mp (by rw [c9]; decide)
    refine ae_tableIn (off := 155) (q := 186) dX2_instruct_31 (by rw [j9]; decide) (by rw [j9]; decide) (by rw [j9]; decide) (by decide) ?_
    refine ae_aload_n (q := 187) dX2_instruct_186 rfl rfl rfl ?_
    refine ae_aload_n (q := 188) dX2_instruct_187 rfl rfl rfl ?_
    refine ae_callV (ci := 2) (as := [.ref p2]) (b := p0) (st := []) (q := 191) dX2_instruct_188 (c_X2_close (N := N) (d := d + 2) h lp0 tp0 lp2 tp2) myX2_close lk_X2_191 im_X2_close se_X2_close rfl (by decide) (h.s lp0 tp0) (h.l lp0) rfl rfl (Nat.le_of_ble_eq_true rfl) rfl (fun o H1 hh => ⟨_, hh.1.choose_spec⟩) (fun vv G21 hv => ?_)
    obtain ⟨⟨x21, o21⟩, z21⟩ := hv
    cases o21
    refine ⟨Or.inl (z21.nx.trans h.nx.symm), ?_⟩
    have h : jc N B 320 G21 := z21
    clear z21
    refine ae_iret dX2_instruct_191 rfl rfl ?_
    exact ⟨⟨_, rfl⟩, (h.up (by omega))⟩
  · have j9 : x3 = 6 := Int32.toInt_inj.mp (by rw [c9]; decide)
    refine ae_tableIn (off := 161) (q := 192) dX2_instruct_31 (by rw [j9]; decide) (by rw [j9]; decide) (by rw [j9]; decide) (by decide) ?_
    refine ae_aload_n (q := 193) dX2_instruct_192 rfl rfl rfl ?_
    refine ae_callV (ci := 4) (as := []) (b := p2) (st := []) (q := 196) dX2_instruct_193 (c_X4_innerScope (N := N) (d := d + 2) h lp2 tp2) myX4_innerScope lk_X2_151 im_X4_innerScope se_X4_innerScope rfl (by decide) (h.s lp2 tp2) (h.l lp2) rfl rfl (Nat.le_of_ble_eq_true rfl) rfl (fun o H1 hh => ⟨_, hh.1.choose_spec.1⟩) (fun vv G22 hv => ?_)
    obtain ⟨⟨b22, o22, l22, t22⟩, z22⟩ := hv
    cases o22
    have z22 := z22.symm
    subst z22
    refine ⟨Or.inl rfl, ?_⟩
    refine ae_aload_n (q := 197) dX2_instruct_196 rfl rfl rfl ?_
    refine ae_getI (q := 200) dX2_instruct_197 fl_X2_180 rfl (h.s lp2 tp2) (h.l lp2) rfl ?_
    obtain ⟨x23, e23⟩ : ∃ x, am_gi H p2 5 = x := ⟨_, rfl⟩
    refine ae_eqi e23 ?_
    refine ae_callV (ci := 3) (as := [.int x23]) (b := b22) (st := []) (q := 203) dX2_instruct_200 (c_X3_give (N := N) (d := d + 1) h l22 t22) myX3_give lk_X2_194 im_X3_give se_X3_give rfl (by decide) (h.s l22 t22) (h.l l22) rfl rfl (Nat.le_of_ble_eq_true rfl) rfl (fun o H1 hh => ⟨_, hh.1⟩) (fun vv G24 hv => ?_)
    obtain ⟨o24, z24⟩ := hv
    cases o24
    obtain ⟨z24, w24⟩ := z24
    refine ⟨Or.inl (z24.nx.trans h.nx.symm), ?_⟩
    have h : jc N B 320 G24 := z24
    clear z24
    refine ae_goto (q := 335) dX2_instruct_203 (by decide) ?_
    exact ae_lv (lv' := [(6, .int 0), (5, .int x2), (4, .int x1), (0, .ref p0), (1, .ref p1), (2, .ref p2), (3, .ref p3)]) ⟨rfl, rfl, rfl, rfl, rfl, rfl, rfl, trivial⟩ (lab335 0 x2 _ (h.up (by omega)) (by omega) (by omega))
  · have j9 : x3 = 7 := Int32.toInt_inj.mp (by rw [c9]; decide)
    refine ae_tableIn (off := 175) (q := 206) dX2_instruct_31 (by rw [j9]; decide) (by rw [j9]; decide) (by rw [j9]; decide) (by decide) ?_
    have fa := (hf xp.toNatClampNeg).2.2.1 (by rw [e3]; omega)
    rw [e1] at fa
    obtain ⟨fa1, fa2⟩ := fa
    refine ae_aload_n (q := 207) dX2_instruct_206 rfl rfl rfl ?_
    refine ae_iload (q := 209) dX2_instruct_207 rfl rfl ?_
    refine ae_aload_n (q := 210) dX2_instruct_209 rfl rfl rfl ?_
    refine ae_getI (q := 213) dX2_instruct_210 fl_X2_180 rfl (h.s lp2 tp2) (h.l lp2) rfl ?_
    obtain ⟨x25, e25⟩ : ∃ x, am_gi H p2 5 = x := ⟨_, rfl⟩
    refine ae_eqi e25 ?_
    refine ae_callV (ci := 2) (as := [.int x1, .int x25]) (b := p0) (st := []) (q := 216) dX2_instruct_213 (c_X2_put (N := N) (d := d + 2) h lp0 tp0 (by omega) (by omega)) myX2_put lk_X2_197 im_X2_put se_X2_put rfl (by decide) (h.s lp0 tp0) (h.l lp0) rfl rfl (Nat.le_of_ble_eq_true rfl) rfl (fun o H1 hh => ⟨_, hh.1.choose_spec⟩) (fun vv G26 hv => ?_)
    obtain ⟨⟨x26, o26⟩, z26⟩ := hv
    cases o26
    refine ⟨Or.inl (z26.nx.trans h.nx.symm), ?_⟩
    have h : jc N B 320 G26 := z26
    clear z26
    refine ae_istore (lv' := [(6, .int x26), (5, .int x2), (4, .int x1), (0, .ref p0), (1, .ref p1), (2, .ref p2), (3, .ref p3)]) (q := 218) dX2_instruct_216 (by decide) rfl rfl ?_
    refine ae_goto (q := 335) dX2_instruct_218 (by decide) ?_
    exact ae_lv (lv' := [(6, .int x26), (5, .int x2), (4, .int x1), (0, .ref p0), (1, .ref p1), (2, .ref p2), (3, .ref p3)]) ⟨rfl, rfl, rfl, rfl, rfl, rfl, rfl, trivial⟩ (lab335 x26 x2 _ (h.up (by omega)) (by omega) (by omega))
  · have j9 : x3 = 8 := Int32.toInt_inj.mp (by rw [c9]; decide)
    refine ae_tableIn (off := 190) (q := 221) dX2_instruct_31 (by rw [j9]; decide) (by rw [j9]; decide) (by rw [j9]; decide) (by decide) ?_
    have fa := (hf xp.toNatClampNeg).2.2.1 (by rw [e3]; omega)
    rw [e1] at fa
    obtain ⟨fa1, fa2⟩ := fa
    refine ae_aload_n (q := 222) dX2_instruct_221 rfl rfl rfl ?_
    refine ae_aload_n (q := 223) dX2_instruct_222 rfl rfl rfl ?_
    refine ae_iload (q := 225) dX2_instruct_223 rfl rfl ?_
    refine ae_callV (ci := 2) (as := [.ref p2, .int x1]) (b := p0) (st := []) (q := 228) dX2_instruct_225 (c_X2_get (N := N) (d := d + 1) (by omega) h lp0 tp0 lp2 tp2 (by omega) (by omega)) myX2_get lk_X2_164 im_X2_get se_X2_get rfl (by decide) (h.s lp0 tp0) (h.l lp0) rfl rfl (Nat.le_of_ble_eq_true rfl) rfl (fun o H1 hh => ⟨_, hh.1.choose_spec⟩) (fun vv G27 hv => ?_)
    obtain ⟨⟨x27, o27⟩, z27⟩ := hv
    cases o27
    refine ⟨Or.inl (z27.nx.trans h.nx.symm), ?_⟩
    have h : jc (N + 1) B 320 G27 := z27
    clear z27
    refine ae_iret dX2_instruct_228 rfl rfl ?_
    exact ⟨⟨_, rfl⟩, h⟩
  · have j9 : x3 = 9 := Int32.toInt_inj.mp (by rw [c9]; decide)
    refine ae_tableIn (off := 198) (q := 229) dX2_instruct_31 (by rw [j9]; decide) (by rw [j9]; decide) (by rw [j9]; decide) (by decide) ?_
    have fa := (hf xp.toNatClampNeg).2.2.2.1 (by rw [e3]; omega)
    rw [e1] at fa
    obtain ⟨fa1, fa2⟩ := fa
    refine ae_aload_n (q := 230) dX2_instruct_229 rfl rfl rfl ?_
    refine ae_aload_n (q := 231) dX2_instruct_230 rfl rfl rfl ?_
    refine ae_iload (q := 233) dX2_instruct_231 rfl rfl ?_
    refine ae_iconst (v := 4) (q := 234) dX2_instruct_233 (by decide) rfl ?_
    refine ae_idiv (q := 235) dX2_instruct_234 (by decide) rfl ?_
    obtain ⟨x28, e28⟩ : ∃ z, x1 / 4 = z := ⟨_, rfl⟩
    refine ae_eqi e28 ?_
    have f28 : x28.toInt = x1.toInt / 4 := by rw [← e28]; exact i_div rfl (by decide) (by omega) (by omega)
    refine ae_iload (q := 237) dX2_instruct_235 rfl rfl ?_
    refine ae_iconst (v := 4) (q := 238) dX2_instruct_237 (by decide) rfl ?_
    refine ae_irem (q := 239) dX2_instruct_238 (by decide) rfl ?_
    obtain ⟨x29, e29⟩ : ∃ z, x1 - x1 / 4 * 4 = z := ⟨_, rfl⟩
    refine ae_eqi e29 ?_
    have f29 : x29.toInt = x1.toInt % 4 ∧ 0 ≤ x1.toInt % 4 ∧ x1.toInt % 4 < 4 := by rw [← e29]; exact i_rem rfl (by decide) (by omega) (by omega)
    obtain ⟨f29, g29, k29⟩ := f29
    have a29 : 0 ≤ x29.toInt := by rw [f29]; exact g29
    have b29 : x29.toInt < 4 := by rw [f29]; exact k29
    clear g29 k29
    refine ae_callV (ci := 2) (as := [.ref p2, .int x28, .int x29]) (b := p0) (st := []) (q := 242) dX2_instruct_239 (c_X2_spawnWaiting (N := N) (d := d) h lp0 tp0 lp2 tp2 (by omega) (by omega) (by omega) (by omega)) myX2_spawnWaiting lk_X2_201 im_X2_spawnWaiting se_X2_spawnWaiting rfl (by decide) (h.s lp0 tp0) (h.l lp0) rfl rfl (Nat.le_of_ble_eq_true rfl) rfl (fun o H1 hh => ⟨_, hh.1.choose_spec⟩) (fun vv G30 hv => ?_)
    obtain ⟨⟨x30, o30⟩, z30⟩ := hv
    cases o30
    refine ⟨Or.inl (z30.nx.trans h.nx.symm), ?_⟩
    have h : jc N B 320 G30 := z30
    clear z30
    refine ae_istore (lv' := [(6, .int x30), (5, .int x2), (4, .int x1), (0, .ref p0), (1, .ref p1), (2, .ref p2), (3, .ref p3)]) (q := 244) dX2_instruct_242 (by decide) rfl rfl ?_
    refine ae_goto (q := 335) dX2_instruct_244 (by decide) ?_
    exact ae_lv (lv' := [(6, .int x30), (5, .int x2), (4, .int x1), (0, .ref p0), (1, .ref p1), (2, .ref p2), (3, .ref p3)]) ⟨rfl, rfl, rfl, rfl, rfl, rfl, rfl, trivial⟩ (lab335 x30 x2 _ (h.up (by omega)) (by omega) (by omega))
  · have j9 : x3 = 10 := Int32.toInt_inj.mp (by rw [c9]; decide)
    refine ae_tableIn (off := 216) (q := 247) dX2_instruct_31 (by rw [j9]; decide) (by rw [j9]; decide) (by rw [j9]; decide) (by decide) ?_
    have fa := (hf xp.toNatClampNeg).1 (by rw [e3]; omega)
    rw [e1] at fa
    obtain ⟨fa1, fa2⟩ := fa
    refine ae_aload_n (q := 248) dX2_instruct_247 rfl rfl rfl ?_
    refine ae_aload_n (q := 249) dX2_instruct_248 rfl rfl rfl ?_
    refine ae_aload_n (q := 250) dX2_instruct_249 rfl rfl rfl ?_
    obtain ⟨b31, r31, l31, t31⟩ := h.r lp0 tp0 (k := 4) (T' := 10) rfl (by decide)
    refine ae_getR (q := 253) dX2_instruct_250 fl_X2_33 rfl (h.s lp0 tp0) (h.l lp0) r31 rfl ?_
    refine ae_iload (q := 255) dX2_instruct_253 rfl rfl ?_
    refine ae_iconst (v := 4) (q := 256) dX2_instruct_255 (by decide) rfl ?_
    refine ae_idiv (q := 257) dX2_instruct_256 (by decide) rfl ?_
    obtain ⟨x32, e32⟩ : ∃ z, x1 / 4 = z := ⟨_, rfl⟩
    refine ae_eqi e32 ?_
    have f32 : x32.toInt = x1.toInt / 4 := by rw [← e32]; exact i_div rfl (by decide) (by omega) (by omega)
    obtain ⟨b33, r33, l33, t33⟩ := h.r l31 t31 (k := x32.toNatClampNeg) (T' := 11) (if_pos (ixn (by omega) (by omega))) (by decide)
    refine ae_aald (q := 258) dX2_instruct_257 (show am_sh H b31 = (103 + 1, 2) from h.s l31 t31) (show am_kinds[4]? = some (103 + 1, .object RX1) from rfl) (h.l l31) (vin (by omega) (by omega)) r33 rfl ?_
    refine ae_iload (q := 260) dX2_instruct_258 rfl rfl ?_
    refine ae_iconst (v := 4) (q := 261) dX2_instruct_260 (by decide) rfl ?_
    refine ae_irem (q := 262) dX2_instruct_261 (by decide) rfl ?_
    obtain ⟨x34, e34⟩ : ∃ z, x1 - x1 / 4 * 4 = z := ⟨_, rfl⟩
    refine ae_eqi e34 ?_
    have f34 : x34.toInt = x1.toInt % 4 ∧ 0 ≤ x1.toInt % 4 ∧ x1.toInt % 4 < 4 := by rw [← e34]; exact i_rem rfl (by decide) (by omega) (by omega)
    obtain ⟨f34, g34, k34⟩ := f34
    have a34 : 0 ≤ x34.toInt := by rw [f34]; exact g34
    have b34 : x34.toInt < 4 := by rw [f34]; exact k34
    clear g34 k34
    refine ae_callV (ci := 2) (as := [.ref p2, .ref b33, .int x34]) (b := p0) (st := []) (q := 265) dX2_instruct_262 (c_X2_join (N := N) (d := d + 1) h lp0 tp0 lp2 tp2 l33 t33) myX2_join lk_X2_204 im_X2_join se_X2_join rfl (by decide) (h.s lp0 tp0) (h.l lp0) rfl rfl (Nat.le_of_ble_eq_true rfl) rfl (fun o H1 hh => ⟨_, hh.1.choose_spec⟩) (fun vv G35 hv => ?_)
    obtain ⟨⟨x35, o35⟩, z35⟩ := hv
    cases o35
    refine ⟨Or.inl (z35.nx.trans h.nx.symm), ?_⟩
    have h : jc N B 320 G35 := z35
    clear z35
    refine ae_istore (lv' := [(6, .int x35), (5, .int x2), (4, .int x1), (0, .ref p0), (1, .ref p1), (2, .ref p2), (3, .ref p3)]) (q := 267) dX2_instruct_265 (by decide) rfl rfl ?_
    refine ae_goto (q := 335) dX2_instruct_267 (by decide) ?_
    exact ae_lv (lv' := [(6, .int x35), (5, .int x2), (4, .int x1), (0, .ref p0), (1, .ref p1), (2, .ref p2), (3, .ref p3)]) ⟨rfl, rfl, rfl, rfl, rfl, rfl, rfl, trivial⟩ (lab335 x35 x2 _ (h.up (by omega)) (by omega) (by omega))
  · have j9 : x3 = 11 := Int32.toInt_inj.mp (by rw [c9]; decide)
    refine ae_tableIn (off := 239) (q := 270) dX2_instruct_31 (by rw [j9]; decide) (by rw [j9]; decide) (by rw [j9]; decide) (by decide) ?_
    have fa := (hf xp.toNatClampNeg).2.2.2.2.1 (by rw [e3]; omega)
    rw [e1] at fa
    obtain ⟨fa1, fa2⟩ := fa
    refine ae_aload_n (q := 271) dX2_instruct_270 rfl rfl rfl ?_
    refine ae_aload_n (q := 272) dX2_instruct_271 rfl rfl rfl ?_
    refine ae_aload_n (q := 273) dX2_instruct_272 rfl rfl rfl ?_
    obtain ⟨b36, r36, l36, t36⟩ := h.r lp0 tp0 (k := 4) (T' := 10) rfl (by decide)
    refine ae_getR (q := 276) dX2_instruct_273 fl_X2_33 rfl (h.s lp0 tp0) (h.l lp0) r36 rfl ?_
    refine ae_iload (q := 278) dX2_instruct_276 rfl rfl ?_
    obtain ⟨b37, r37, l37, t37⟩ := h.r l36 t36 (k := x1.toNatClampNeg) (T' := 11) (if_pos (ixn (by omega) (by omega))) (by decide)
    refine ae_aald (q := 279) dX2_instruct_278 (show am_sh H b36 = (103 + 1, 2) from h.s l36 t36) (show am_kinds[4]? = some (103 + 1, .object RX1) from rfl) (h.l l36) (vin (by omega) (by omega)) r37 rfl ?_
    refine ae_callV (ci := 2) (as := [.ref p2, .ref b37]) (b := p0) (st := []) (q := 282) dX2_instruct_279 (c_X2_leave (N := N) (d := d) h lp0 tp0 lp2 tp2 l37 t37) myX2_leave lk_X2_208 im_X2_leave se_X2_leave rfl (by decide) (h.s lp0 tp0) (h.l lp0) rfl rfl (Nat.le_of_ble_eq_true rfl) rfl (fun o H1 hh => ⟨_, hh.1.choose_spec⟩) (fun vv G38 hv => ?_)
    obtain ⟨⟨x38, o38⟩, z38⟩ := hv
    cases o38
    refine ⟨Or.inl (z38.nx.trans h.nx.symm), ?_⟩
    have h : jc N B 320 G38 := z38
    clear z38
    refine ae_istore (lv' := [(6, .int x38), (5, .int x2), (4, .int x1), (0, .ref p0), (1, .ref p1), (2, .ref p2), (3, .ref p3)]) (q := 284) dX2_instruct_282 (by decide) rfl rfl ?_
    refine ae_goto (q := 335) dX2_instruct_284 (by decide) ?_
    exact ae_lv (lv' := [(6, .int x38), (5, .int x2), (4, .int x1), (0, .ref p0), (1, .ref p1), (2, .ref p2), (3, .ref p3)]) ⟨rfl, rfl, rfl, rfl, rfl, rfl, rfl, trivial⟩ (lab335 x38 x2 _ (h.up (by omega)) (by omega) (by omega))
  · have j9 : x3 = 12 := Int32.toInt_inj.mp (by rw [c9]; decide)
    refine ae_tableIn (off := 256) (q := 287) dX2_instruct_31 (by rw [j9]; decide) (by rw [j9]; decide) (by rw [j9]; decide) (by decide) ?_
    refine ae_aload_n (q := 288) dX2_instruct_287 rfl rfl rfl ?_
    refine ae_aload_n (q := 289) dX2_instruct_288 rfl rfl rfl ?_
    refine ae_callV (ci := 2) (as := [.ref p2]) (b := p0) (st := []) (q := 292) dX2_instruct_289 (c_X2_signalAll (N := N) (d := d) h lp0 tp0 lp2 tp2) myX2_signalAll lk_X2_212 im_X2_signalAll se_X2_signalAll rfl (by decide) (h.s lp0 tp0) (h.l lp0) rfl rfl (Nat.le_of_ble_eq_true rfl) rfl (fun o H1 hh => ⟨_, hh.1⟩) (fun vv G39 hv => ?_)
    obtain ⟨o39, z39⟩ := hv
    cases o39
    refine ⟨Or.inl (z39.nx.trans h.nx.symm), ?_⟩
    have h : jc N B 320 G39 := z39
    clear z39
    refine ae_aload_n (q := 293) dX2_instruct_292 rfl rfl rfl ?_
    refine ae_aload_n (q := 294) dX2_instruct_293 rfl rfl rfl ?_
    refine ae_callV (ci := 2) (as := [.ref p2]) (b := p0) (st := []) (q := 297) dX2_instruct_294 (c_X2_passPhases (N := N) (d := d) (by omega) h lp0 tp0 lp2 tp2) myX2_passPhases lk_X2_168 im_X2_passPhases se_X2_passPhases rfl (by decide) (h.s lp0 tp0) (h.l lp0) rfl rfl (Nat.le_of_ble_eq_true rfl) rfl (fun o H1 hh => ⟨_, hh.1.choose_spec⟩) (fun vv G40 hv => ?_)
    obtain ⟨⟨x40, o40⟩, z40⟩ := hv
    cases o40
    refine ⟨Or.inl (z40.nx.trans h.nx.symm), ?_⟩
    have h : jc (N + 1) B 320 G40 := z40
    clear z40
    refine ae_iret dX2_instruct_297 rfl rfl ?_
    exact ⟨⟨_, rfl⟩, h⟩
  · have j9 : x3 = 13 := Int32.toInt_inj.mp (by rw [c9]; decide)
    refine ae_tableIn (off := 267) (q := 298) dX2_instruct_31 (by rw [j9]; decide) (by rw [j9]; decide) (by rw [j9]; decide) (by decide) ?_
    refine ae_iload (q := 300) dX2_instruct_298 rfl rfl ?_
    refine ae_iret dX2_instruct_300 rfl rfl ?_
    exact ⟨⟨_, rfl⟩, (h.up (by omega))⟩
  · have j9 : x3 = 14 := Int32.toInt_inj.mp (by rw [c9]; decide)
    refine ae_tableIn (off := 270) (q := 301) dX2_instruct_31 (by rw [j9]; decide) (by rw [j9]; decide) (by rw [j9]; decide) (by decide) ?_
    refine ae_aload_n (q := 302) dX2_instruct_301 rfl rfl rfl ?_
    refine ae_aload_n (q := 303) dX2_instruct_302 rfl rfl rfl ?_
    refine ae_getI (q := 306) dX2_instruct_303 fl_X2_180 rfl (h.s lp2 tp2) (h.l lp2) rfl ?_
    obtain ⟨x41, e41⟩ : ∃ x, am_gi H p2 5 = x := ⟨_, rfl⟩
    refine ae_eqi e41 ?_
    refine ae_callV (ci := 2) (as := [.int x41]) (b := p0) (st := []) (q := 309) dX2_instruct_306 (c_X2_say (N := N) (d := d + 2) (by omega) h lp0 tp0) myX2_say lk_X2_215 im_X2_say se_X2_say rfl (by decide) (h.s lp0 tp0) (h.l lp0) rfl rfl (Nat.le_of_ble_eq_true rfl) rfl (fun o H1 hh => ⟨_, hh.1⟩) (fun vv G42 hv => ?_)
    obtain ⟨o42, z42⟩ := hv
    cases o42
    refine ⟨Or.inl (z42.nx.trans h.nx.symm), ?_⟩
    have h : jc (N + 1) B 320 G42 := z42
    clear z42
    refine ae_goto (q := 335) dX2_instruct_309 (by decide) ?_
    exact ae_lv (lv' := [(6, .int 0), (5, .int x2), (4, .int x1), (0, .ref p0), (1, .ref p1), (2, .ref p2), (3, .ref p3)]) ⟨rfl, rfl, rfl, rfl, rfl, rfl, rfl, trivial⟩ (lab335 0 x2 _ h (by omega) (by omega))
  · have j9 : x3 = 15 := Int32.toInt_inj.mp (by rw [c9]; decide)
    refine ae_tableIn (off := 281) (q := 312) dX2_instruct_31 (by rw [j9]; decide) (by rw [j9]; decide) (by rw [j9]; decide) (by decide) ?_
    have fa := (hf xp.toNatClampNeg).2.2.2.2.2 (by rw [e3]; omega)
    rw [e1] at fa
    obtain ⟨fa1, fa2⟩ := fa
    refine ae_aload_n (q := 313) dX2_instruct_312 rfl rfl rfl ?_
    refine ae_getI (q := 316) dX2_instruct_313 fl_X2_180 rfl (h.s lp2 tp2) (h.l lp2) rfl ?_
    obtain ⟨x43, e43⟩ : ∃ x, am_gi H p2 5 = x := ⟨_, rfl⟩
    refine ae_eqi e43 ?_
    refine ae_if_eq (t := 324) (q := 319) dX2_instruct_316 (by decide) rfl (fun c44 => ?_) (fun c44 => ?_)
    · have c44 := i_eq (a := x43.toInt) (b := 0) rfl (by decide) c44
      refine ae_iload (q := 326) dX2_instruct_324 rfl rfl ?_
      refine ae_istore (lv' := [(5, .int x2), (6, .int 0), (4, .int x1), (0, .ref p0), (1, .ref p1), (2, .ref p2), (3, .ref p3)]) (q := 328) dX2_instruct_326 (by decide) rfl rfl ?_
      refine ae_goto (q := 335) dX2_instruct_328 (by decide) ?_
      exact ae_lv (lv' := [(6, .int 0), (5, .int x2), (4, .int x1), (0, .ref p0), (1, .ref p1), (2, .ref p2), (3, .ref p3)]) ⟨rfl, rfl, rfl, rfl, rfl, rfl, rfl, trivial⟩ (lab335 0 x2 _ (h.up (by omega)) (by omega) (by omega))
    · have c44 := i_ne (a := x43.toInt) (b := 0) rfl (by decide) c44
      refine ae_iload (q := 321) dX2_instruct_319 rfl rfl ?_
      refine ae_goto (q := 326) dX2_instruct_321 (by decide) ?_
      refine ae_istore (lv' := [(5, .int x1), (6, .int 0), (4, .int x1), (0, .ref p0), (1, .ref p1), (2, .ref p2), (3, .ref p3)]) (q := 328) dX2_instruct_326 (by decide) rfl rfl ?_
      refine ae_goto (q := 335) dX2_instruct_328 (by decide) ?_
      exact ae_lv (lv' := [(6, .int 0), (5, .int x1), (4, .int x1), (0, .ref p0), (1, .ref p1), (2, .ref p2), (3, .ref p3)]) ⟨rfl, rfl, rfl, rfl, rfl, rfl, rfl, trivial⟩ (lab335 0 x1 _ (h.up (by omega)) (by omega) (by omega))
  · have j9 : x3 = 16 := Int32.toInt_inj.mp (by rw [c9]; decide)
    refine ae_tableIn (off := 300) (q := 331) dX2_instruct_31 (by rw [j9]; decide) (by rw [j9]; decide) (by rw [j9]; decide) (by decide) ?_
    have fa := (hf xp.toNatClampNeg).2.2.2.2.2 (by rw [e3]; omega)
    rw [e1] at fa
    obtain ⟨fa1, fa2⟩ := fa
    refine ae_iload (q := 333) dX2_instruct_331 rfl rfl ?_
    refine ae_istore (lv' := [(5, .int x1), (6, .int 0), (4, .int x1), (0, .ref p0), (1, .ref p1), (2, .ref p2), (3, .ref p3)]) (q := 335) dX2_instruct_333 (by decide) rfl rfl ?_
    exact ae_lv (lv' := [(6, .int 0), (5, .int x1), (4, .int x1), (0, .ref p0), (1, .ref p1), (2, .ref p2), (3, .ref p3)]) ⟨rfl, rfl, rfl, rfl, rfl, rfl, rfl, trivial⟩ (lab335 0 x1 _ (h.up (by omega)) (by omega) (by omega))
set_option maxRecDepth 100000 in
set_option maxHeartbeats 4000000 in
theorem c_X2_step {ox : List (Nat × (Nat → Int32))} {d N : Nat} {B H : am_H} {p0 : Nat} {p1 : Nat} (ho3 : ox[3]? = some (4, fun k => am_t3.getD k 0)) (hR : R1 B) (hN : N + 0 ≤ 1000000) (h : jc N B 320 H) (lp0 : p0 < 320) (tp0 : ty p0 = 5) (lp1 : p1 < 320) (tp1 : ty p1 = 14) {xh : Int32} (e_xh : am_gi H p1 2 = xh) (u_xh : 0 ≤ xh.toInt) (v_xh : xh.toInt ≤ 47) : am_DB 0 ox (d + 4) yX2_step mX2_step [.ref p0, .ref p1] H (fun o H1 => o = .inl none ∧ jc (N + 1) B 320 H1) := by
  refine ae_enter rfl rfl rfl rfl (Nat.le_of_ble_eq_true rfl) ?_
  show am_EB 0 ox (d + 4) mX2_step 0 [(0, .ref p0), (1, .ref p1)] [] H _
  refine ae_aload_n (q := 1) dX2_step_0 rfl rfl rfl ?_
  obtain ⟨b1, r1, l1, t1⟩ := h.r lp0 tp0 (k := 1) (T' := 7) rfl (by decide)
  refine ae_getR (q := 4) dX2_step_1 fl_X2_24 rfl (h.s lp0 tp0) (h.l lp0) r1 rfl ?_
  refine ae_aload_n (q := 5) dX2_step_4 rfl rfl rfl ?_
  refine ae_getI (q := 8) dX2_step_5 fl_X2_101 rfl (h.s lp1 tp1) (h.l lp1) rfl ?_
  refine ae_eqi e_xh ?_
  obtain ⟨b2, r2, l2, t2⟩ := h.r l1 t1 (k := xh.toNatClampNeg) (T' := 8) (if_pos (ixn (by omega) (by omega))) (by decide)
  refine ae_aald (q := 9) dX2_step_8 (show am_sh H b1 = (103 + 4, 48) from h.s l1 t1) (show am_kinds[6]? = some (103 + 4, .object RX4) from rfl) (h.l l1) (vin (by omega) (by omega)) r2 rfl ?_
  refine ae_astore_n (lv' := [(2, .ref b2), (0, .ref p0), (1, .ref p1)]) (q := 10) dX2_step_9 rfl (by decide) rfl rfl ?_
  refine ae_iconst (v := 0) (q := 11) dX2_step_10 (by decide) rfl ?_
  refine ae_istore_n (lv' := [(3, .int 0), (2, .ref b2), (0, .ref p0), (1, .ref p1)]) (q := 12) dX2_step_11 rfl (by decide) rfl rfl ?_
  have lab71 : ∀ (y3_3 : Int32) (K3 : am_H), jc (N + 1) B 320 K3 → am_EB 0 ox (d + 4) mX2_step 71 [(3, .int y3_3), (2, .ref b2), (0, .ref p0), (1, .ref p1)] [] K3 (fun o H1 => o = .inl none ∧ jc (N + 1) B 320 H1) := by
    intro y3_3 K3 h
    refine ae_iload_n (q := 72) dX2_step_71 rfl rfl rfl ?_
    refine ae_if_eq (t := 88) (q := 75) dX2_step_72 (by decide) rfl (fun c4 => ?_) (fun c4 => ?_)
    · have c4 := i_eq (a := y3_3.toInt) (b := 0) rfl (by decide) c4
      have lab109 : ∀ (K5 : am_H), jc (N + 1) B 320 K5 → am_EB 0 ox (d + 4) mX2_step 109 [(3, .int y3_3), (2, .ref b2), (0, .ref p0), (1, .ref p1)] [] K5 (fun o H1 => o = .inl none ∧ jc (N + 1) B 320 H1) := by
        intro K5 h
        refine ae_aload_n (q := 110) dX2_step_109 rfl rfl rfl ?_
        refine ae_aload_n (q := 111) dX2_step_110 rfl rfl rfl ?_
        refine ae_callV (ci := 2) (as := [.ref p1]) (b := p0) (st := []) (q := 114) dX2_step_111 (c_X2_wakeAll (N := (N + 1)) (d := d) h lp0 tp0 lp1 tp1) myX2_wakeAll lk_X2_158 im_X2_wakeAll se_X2_wakeAll rfl (by decide) (h.s lp0 tp0) (h.l lp0) rfl rfl (Nat.le_of_ble_eq_true rfl) rfl (fun o H1 hh => ⟨_, hh.1⟩) (fun vv G6 hv => ?_)
        obtain ⟨o6, z6⟩ := hv
        cases o6
        refine ⟨Or.inl (z6.nx.trans h.nx.symm), ?_⟩
        have h : jc (N + 1) B 320 G6 := z6
        clear z6
        refine ae_aload_n (q := 115) dX2_step_114 rfl rfl rfl ?_
        refine ae_dup (q := 116) dX2_step_115 rfl rfl ?_
        refine ae_getI (q := 119) dX2_step_116 fl_X2_73 rfl (h.s lp0 tp0) (h.l lp0) rfl ?_
        obtain ⟨x7, e7⟩ : ∃ x, am_gi G6 p0 13 = x := ⟨_, rfl⟩
        refine ae_eqi e7 ?_
        refine ae_iconst (v := 1) (q := 120) dX2_step_119 (by decide) rfl ?_
        refine ae_iadd (q := 121) dX2_step_120 rfl ?_
        obtain ⟨x8, e8⟩ : ∃ z, x7 + 1 = z := ⟨_, rfl⟩
        refine ae_eqi e8 ?_
        refine ae_putI (q := 124) dX2_step_121 fl_X2_73 rfl rfl rfl (h.s lp0 tp0) (h.l lp0) rfl ?_
        refine ae_gen (fun G9 g9 => ?_)
        have h : jc (N + 1) B 320 G9 := by rw [g9]; exact h.w tp0 (by decide) (fun q => absurd q.1 (by decide)) inr_any
        refine ae_vret dX2_step_124 rfl ?_
        exact ⟨rfl, h⟩
      refine ae_aload_n (q := 89) dX2_step_88 rfl rfl rfl ?_
      refine ae_getI (q := 92) dX2_step_89 fl_X2_124 rfl (h.s l2 t2) (h.l l2) rfl ?_
      obtain ⟨x10, e10, u10, v10⟩ := rdi (h.i l2 t2 (k := 7) (p := (0, 3)) rfl)
      refine ae_eqi e10 ?_
      refine ae_iconst (v := 2) (q := 93) dX2_step_92 (by decide) rfl ?_
      refine ae_icmp_eq (t := 104) (q := 96) dX2_step_93 (by decide) rfl (fun c11 => ?_) (fun c11 => ?_)
      · have c11 := i_eq (a := x10.toInt) (b := 2) rfl (by decide) c11
        refine ae_aload_n (q := 105) dX2_step_104 rfl rfl rfl ?_
        refine ae_iconst (v := (-1)) (q := 106) dX2_step_105 (by decide) rfl ?_
        refine ae_putI (q := 109) dX2_step_106 fl_X2_101 rfl rfl rfl (h.s lp1 tp1) (h.l lp1) rfl ?_
        refine ae_gen (fun G12 g12 => ?_)
        have h : jc (N + 1) B 320 G12 := by rw [g12]; exact h.w tp1 (by decide) (fun q => absurd q.1 (by decide)) (mk_inr (lo := (-1)) (hi := 47) (by decide) (by decide))
        exact ae_lv (lv' := [(3, .int y3_3), (2, .ref b2), (0, .ref p0), (1, .ref p1)]) ⟨rfl, rfl, rfl, rfl, trivial⟩ (lab109 _ h)
      · have c11 := i_ne (a := x10.toInt) (b := 2) rfl (by decide) c11
        refine ae_aload_n (q := 97) dX2_step_96 rfl rfl rfl ?_
        refine ae_getI (q := 100) dX2_step_97 fl_X2_124 rfl (h.s l2 t2) (h.l l2) rfl ?_
        refine ae_eqi e10 ?_
        refine ae_iconst (v := 3) (q := 101) dX2_step_100 (by decide) rfl ?_
        refine ae_icmp_ne (t := 109) (q := 104) dX2_step_101 (by decide) rfl (fun c13 => ?_) (fun c13 => ?_)
        · have c13 := i_ne (a := x10.toInt) (b := 3) rfl (by decide) c13
          exact ae_lv (lv' := [(3, .int y3_3), (2, .ref b2), (0, .ref p0), (1, .ref p1)]) ⟨rfl, rfl, rfl, rfl, trivial⟩ (lab109 _ h)
        · have c13 := i_eq (a := x10.toInt) (b := 3) rfl (by decide) c13
          refine ae_aload_n (q := 105) dX2_step_104 rfl rfl rfl ?_
          refine ae_iconst (v := (-1)) (q := 106) dX2_step_105 (by decide) rfl ?_
          refine ae_putI (q := 109) dX2_step_106 fl_X2_101 rfl rfl rfl (h.s lp1 tp1) (h.l lp1) rfl ?_
          refine ae_gen (fun G14 g14 => ?_)
          have h : jc (N + 1) B 320 G14 := by rw [g14]; exact h.w tp1 (by decide) (fun q => absurd q.1 (by decide)) (mk_inr (lo := (-1)) (hi := 47) (by decide) (by decide))
          exact ae_lv (lv' := [(3, .int y3_3), (2, .ref b2), (0, .ref p0), (1, .ref p1)]) ⟨rfl, rfl, rfl, rfl, trivial⟩ (lab109 _ h)
    · have c4 := i_ne (a := y3_3.toInt) (b := 0) rfl (by decide) c4
      refine ae_aload_n (q := 76) dX2_step_75 rfl rfl rfl ?_
      refine ae_callV (ci := 4) (as := []) (b := b2) (st := []) (q := 79) dX2_step_76 (c_X4_innerScope (N := (N + 1)) (d := d + 3) h l2 t2) myX4_innerScope lk_X2_151 im_X4_innerScope se_X4_innerScope rfl (by decide) (h.s l2 t2) (h.l l2) rfl rfl (Nat.le_of_ble_eq_true rfl) rfl (fun o H1 hh => ⟨_, hh.1.choose_spec.1⟩) (fun vv G15 hv => ?_)
      obtain ⟨⟨b15, o15, l15, t15⟩, z15⟩ := hv
      cases o15
      have z15 := z15.symm
      subst z15
      refine ⟨Or.inl rfl, ?_⟩
      refine ae_iload_n (q := 80) dX2_step_79 rfl rfl rfl ?_
      refine ae_callV (ci := 3) (as := [.int y3_3]) (b := b15) (st := []) (q := 83) dX2_step_80 (c_X3_note (N := (N + 1)) (d := d + 2) h l15 t15) myX3_note lk_X2_155 im_X3_note se_X3_note rfl (by decide) (h.s l15 t15) (h.l l15) rfl rfl (Nat.le_of_ble_eq_true rfl) rfl (fun o H1 hh => ⟨_, hh.1⟩) (fun vv G16 hv => ?_)
      obtain ⟨o16, z16⟩ := hv
      cases o16
      obtain ⟨z16, w16⟩ := z16
      refine ⟨Or.inl (z16.nx.trans h.nx.symm), ?_⟩
      have h : jc (N + 1) B 320 G16 := z16
      clear z16
      refine ae_aload_n (q := 84) dX2_step_83 rfl rfl rfl ?_
      refine ae_aload_n (q := 85) dX2_step_84 rfl rfl rfl ?_
      refine ae_callV (ci := 2) (as := [.ref b2]) (b := p0) (st := []) (q := 88) dX2_step_85 (c_X2_endInnermost (N := (N + 1)) (d := d) h lp0 tp0 l2 t2) myX2_endInnermost lk_X2_147 im_X2_endInnermost se_X2_endInnermost rfl (by decide) (h.s lp0 tp0) (h.l lp0) rfl rfl (Nat.le_of_ble_eq_true rfl) rfl (fun o H1 hh => ⟨_, hh.1⟩) (fun vv G17 hv => ?_)
      obtain ⟨o17, z17⟩ := hv
      cases o17
      refine ⟨Or.inl (z17.nx.trans h.nx.symm), ?_⟩
      have h : jc (N + 1) B 320 G17 := z17
      clear z17
      have lab109 : ∀ (K18 : am_H), jc (N + 1) B 320 K18 → am_EB 0 ox (d + 4) mX2_step 109 [(3, .int y3_3), (2, .ref b2), (0, .ref p0), (1, .ref p1)] [] K18 (fun o H1 => o = .inl none ∧ jc (N + 1) B 320 H1) := by
        intro K18 h
        refine ae_aload_n (q := 110) dX2_step_109 rfl rfl rfl ?_
        refine ae_aload_n (q := 111) dX2_step_110 rfl rfl rfl ?_
        refine ae_callV (ci := 2) (as := [.ref p1]) (b := p0) (st := []) (q := 114) dX2_step_111 (c_X2_wakeAll (N := (N + 1)) (d := d) h lp0 tp0 lp1 tp1) myX2_wakeAll lk_X2_158 im_X2_wakeAll se_X2_wakeAll rfl (by decide) (h.s lp0 tp0) (h.l lp0) rfl rfl (Nat.le_of_ble_eq_true rfl) rfl (fun o H1 hh => ⟨_, hh.1⟩) (fun vv G19 hv => ?_)
        obtain ⟨o19, z19⟩ := hv
        cases o19
        refine ⟨Or.inl (z19.nx.trans h.nx.symm), ?_⟩
        have h : jc (N + 1) B 320 G19 := z19
        clear z19
        refine ae_aload_n (q := 115) dX2_step_114 rfl rfl rfl ?_
        refine ae_dup (q := 116) dX2_step_115 rfl rfl ?_
        refine ae_getI (q := 119) dX2_step_116 fl_X2_73 rfl (h.s lp0 tp0) (h.l lp0) rfl ?_
        obtain ⟨x20, e20⟩ : ∃ x, am_gi G19 p0 13 = x := ⟨_, rfl⟩
        refine ae_eqi e20 ?_
        refine ae_iconst (v := 1) (q := 120) dX2_step_119 (by decide) rfl ?_
        refine ae_iadd (q := 121) dX2_step_120 rfl ?_
        obtain ⟨x21, e21⟩ : ∃ z, x20 + 1 = z := ⟨_, rfl⟩
        refine ae_eqi e21 ?_
        refine ae_putI (q := 124) dX2_step_121 fl_X2_73 rfl rfl rfl (h.s lp0 tp0) (h.l lp0) rfl ?_
        refine ae_gen (fun G22 g22 => ?_)
        have h : jc (N + 1) B 320 G22 := by rw [g22]; exact h.w tp0 (by decide) (fun q => absurd q.1 (by decide)) inr_any
        refine ae_vret dX2_step_124 rfl ?_
        exact ⟨rfl, h⟩
      refine ae_aload_n (q := 89) dX2_step_88 rfl rfl rfl ?_
      refine ae_getI (q := 92) dX2_step_89 fl_X2_124 rfl (h.s l2 t2) (h.l l2) rfl ?_
      obtain ⟨x23, e23, u23, v23⟩ := rdi (h.i l2 t2 (k := 7) (p := (0, 3)) rfl)
      refine ae_eqi e23 ?_
      refine ae_iconst (v := 2) (q := 93) dX2_step_92 (by decide) rfl ?_
      refine ae_icmp_eq (t := 104) (q := 96) dX2_step_93 (by decide) rfl (fun c24 => ?_) (fun c24 => ?_)
      · have c24 := i_eq (a := x23.toInt) (b := 2) rfl (by decide) c24
        refine ae_aload_n (q := 105) dX2_step_104 rfl rfl rfl ?_
        refine ae_iconst (v := (-1)) (q := 106) dX2_step_105 (by decide) rfl ?_
        refine ae_putI (q := 109) dX2_step_106 fl_X2_101 rfl rfl rfl (h.s lp1 tp1) (h.l lp1) rfl ?_
        refine ae_gen (fun G25 g25 => ?_)
        have h : jc (N + 1) B 320 G25 := by rw [g25]; exact h.w tp1 (by decide) (fun q => absurd q.1 (by decide)) (mk_inr (lo := (-1)) (hi := 47) (by decide) (by decide))
        exact ae_lv (lv' := [(3, .int y3_3), (2, .ref b2), (0, .ref p0), (1, .ref p1)]) ⟨rfl, rfl, rfl, rfl, trivial⟩ (lab109 _ h)
      · have c24 := i_ne (a := x23.toInt) (b := 2) rfl (by decide) c24
        refine ae_aload_n (q := 97) dX2_step_96 rfl rfl rfl ?_
        refine ae_getI (q := 100) dX2_step_97 fl_X2_124 rfl (h.s l2 t2) (h.l l2) rfl ?_
        refine ae_eqi e23 ?_
        refine ae_iconst (v := 3) (q := 101) dX2_step_100 (by decide) rfl ?_
        refine ae_icmp_ne (t := 109) (q := 104) dX2_step_101 (by decide) rfl (fun c26 => ?_) (fun c26 => ?_)
        · have c26 := i_ne (a := x23.toInt) (b := 3) rfl (by decide) c26
          exact ae_lv (lv' := [(3, .int y3_3), (2, .ref b2), (0, .ref p0), (1, .ref p1)]) ⟨rfl, rfl, rfl, rfl, trivial⟩ (lab109 _ h)
        · have c26 := i_eq (a := x23.toInt) (b := 3) rfl (by decide) c26
          refine ae_aload_n (q := 105) dX2_step_104 rfl rfl rfl ?_
          refine ae_iconst (v := (-1)) (q := 106) dX2_step_105 (by decide) rfl ?_
          refine ae_putI (q := 109) dX2_step_106 fl_X2_101 rfl rfl rfl (h.s lp1 tp1) (h.l lp1) rfl ?_
          refine ae_gen (fun G27 g27 => ?_)
          have h : jc (N + 1) B 320 G27 := by rw [g27]; exact h.w tp1 (by decide) (fun q => absurd q.1 (by decide)) (mk_inr (lo := (-1)) (hi := 47) (by decide) (by decide))
          exact ae_lv (lv' := [(3, .int y3_3), (2, .ref b2), (0, .ref p0), (1, .ref p1)]) ⟨rfl, rfl, rfl, rfl, trivial⟩ (lab109 _ h)
  refine ae_aload_n (q := 13) dX2_step_12 rfl rfl rfl ?_
  refine ae_getI (q := 16) dX2_step_13 fl_X2_127 rfl (h.s l2 t2) (h.l l2) rfl ?_
  obtain ⟨x28, e28, u28, v28⟩ := rdi (h.i l2 t2 (k := 8) (p := (0, 4)) rfl)
  refine ae_eqi e28 ?_
  refine ae_if_eq (t := 28) (q := 19) dX2_step_16 (by decide) rfl (fun c29 => ?_) (fun c29 => ?_)
  · have c29 := i_eq (a := x28.toInt) (b := 0) rfl (by decide) c29
    refine ae_aload_n (q := 29) dX2_step_28 rfl rfl rfl ?_
    refine ae_getI (q := 32) dX2_step_29 fl_X2_134 rfl (h.s l2 t2) (h.l l2) rfl ?_
    obtain ⟨x30, e30, u30, v30⟩ := rdi (h.i l2 t2 (k := 6) (p := (0, 16 + ((N : Nat) : Int))) rfl)
    refine ae_eqi e30 ?_
    refine ae_aload_n (q := 33) dX2_step_32 rfl rfl rfl ?_
    obtain ⟨b31, r31, l31, t31⟩ := h.r lp0 tp0 (k := 0) (T' := 1) rfl (by decide)
    refine ae_getR (q := 36) dX2_step_33 fl_X2_9 rfl (h.s lp0 tp0) (h.l lp0) r31 rfl ?_
    refine ae_aload_n (q := 37) dX2_step_36 rfl rfl rfl ?_
    refine ae_getI (q := 40) dX2_step_37 fl_X2_137 rfl (h.s l2 t2) (h.l l2) rfl ?_
    obtain ⟨x32, e32, u32, v32⟩ := rdi (h.i l2 t2 (k := 4) (p := (0, 7)) rfl)
    refine ae_eqi e32 ?_
    obtain ⟨b33, r33, l33, t33⟩ := h.r l31 t31 (k := x32.toNatClampNeg) (T' := 2) (if_pos (ixn (by omega) (by omega))) (by decide)
    refine ae_aald (q := 41) dX2_step_40 (show am_sh H b31 = (103 + 0, 8) from h.s l31 t31) (show am_kinds[3]? = some (103 + 0, .object RX0) from rfl) (h.l l31) (vin (by omega) (by omega)) r33 rfl ?_
    refine ae_getI (q := 44) dX2_step_41 fl_X2_140 rfl (h.s l33 t33) (h.l l33) rfl ?_
    obtain ⟨x34, e34, u34, v34⟩ := rdi (h.i l33 t33 (k := 2) (p := (0, 16)) rfl)
    refine ae_eqi e34 ?_
    refine ae_icmp_ge (t := 66) (q := 47) dX2_step_44 (by decide) rfl (fun c35 => ?_) (fun c35 => ?_)
    · have c35 := i_le (a := x34.toInt) (b := x30.toInt) rfl rfl c35
      refine ae_aload_n (q := 67) dX2_step_66 rfl rfl rfl ?_
      refine ae_aload_n (q := 68) dX2_step_67 rfl rfl rfl ?_
      refine ae_callV (ci := 2) (as := [.ref b2]) (b := p0) (st := []) (q := 71) dX2_step_68 (c_X2_endInnermost (N := N) (d := d) h lp0 tp0 l2 t2) myX2_endInnermost lk_X2_147 im_X2_endInnermost se_X2_endInnermost rfl (by decide) (h.s lp0 tp0) (h.l lp0) rfl rfl (Nat.le_of_ble_eq_true rfl) rfl (fun o H1 hh => ⟨_, hh.1⟩) (fun vv G36 hv => ?_)
      obtain ⟨o36, z36⟩ := hv
      cases o36
      refine ⟨Or.inl (z36.nx.trans h.nx.symm), ?_⟩
      have h : jc N B 320 G36 := z36
      clear z36
      exact ae_lv (lv' := [(3, .int 0), (2, .ref b2), (0, .ref p0), (1, .ref p1)]) ⟨rfl, rfl, rfl, rfl, trivial⟩ (lab71 0 _ (h.up (by omega)))
    · have c35 := i_nle (a := x34.toInt) (b := x30.toInt) rfl rfl c35
      refine ae_aload_n (q := 48) dX2_step_47 rfl rfl rfl ?_
      refine ae_aload_n (q := 49) dX2_step_48 rfl rfl rfl ?_
      refine ae_aload_n (q := 50) dX2_step_49 rfl rfl rfl ?_
      refine ae_aload_n (q := 51) dX2_step_50 rfl rfl rfl ?_
      refine ae_getR (q := 54) dX2_step_51 fl_X2_9 rfl (h.s lp0 tp0) (h.l lp0) r31 rfl ?_
      refine ae_aload_n (q := 55) dX2_step_54 rfl rfl rfl ?_
      refine ae_getI (q := 58) dX2_step_55 fl_X2_137 rfl (h.s l2 t2) (h.l l2) rfl ?_
      refine ae_eqi e32 ?_
      refine ae_aald (q := 59) dX2_step_58 (show am_sh H b31 = (103 + 0, 8) from h.s l31 t31) (show am_kinds[3]? = some (103 + 0, .object RX0) from rfl) (h.l l31) (vin (by omega) (by omega)) r33 rfl ?_
      refine ae_callV (ci := 2) (as := [.ref p1, .ref b2, .ref b33]) (b := p0) (st := []) (q := 62) dX2_step_59 (c_X2_instruct (N := N) (d := d) ho3 hR (by omega) h lp0 tp0 lp1 tp1 l2 t2 l33 t33 (xp := x30) e30 (by omega) (by omega)) myX2_instruct lk_X2_143 im_X2_instruct se_X2_instruct rfl (by decide) (h.s lp0 tp0) (h.l lp0) rfl rfl (Nat.le_of_ble_eq_true rfl) rfl (fun o H1 hh => ⟨_, hh.1.choose_spec⟩) (fun vv G37 hv => ?_)
      obtain ⟨⟨x37, o37⟩, z37⟩ := hv
      cases o37
      refine ⟨Or.inl (z37.nx.trans h.nx.symm), ?_⟩
      have h : jc (N + 1) B 320 G37 := z37
      clear z37
      refine ae_istore_n (lv' := [(3, .int x37), (2, .ref b2), (0, .ref p0), (1, .ref p1)]) (q := 63) dX2_step_62 rfl (by decide) rfl rfl ?_
      refine ae_goto (q := 71) dX2_step_63 (by decide) ?_
      exact ae_lv (lv' := [(3, .int x37), (2, .ref b2), (0, .ref p0), (1, .ref p1)]) ⟨rfl, rfl, rfl, rfl, trivial⟩ (lab71 x37 _ h)
  · have c29 := i_ne (a := x28.toInt) (b := 0) rfl (by decide) c29
    refine ae_aload_n (q := 20) dX2_step_19 rfl rfl rfl ?_
    refine ae_aload_n (q := 21) dX2_step_20 rfl rfl rfl ?_
    refine ae_callV (ci := 2) (as := [.ref b2]) (b := p0) (st := []) (q := 24) dX2_step_21 (c_X2_finishWait (N := N) (d := d) (by omega) h lp0 tp0 l2 t2 (xd := x28) e28 (by omega) (by omega)) myX2_finishWait lk_X2_130 im_X2_finishWait se_X2_finishWait rfl (by decide) (h.s lp0 tp0) (h.l lp0) rfl rfl (Nat.le_of_ble_eq_true rfl) rfl (fun o H1 hh => ⟨_, hh.1.choose_spec⟩) (fun vv G38 hv => ?_)
    obtain ⟨⟨x38, o38⟩, z38⟩ := hv
    cases o38
    refine ⟨Or.inl (z38.nx.trans h.nx.symm), ?_⟩
    have h : jc (N + 1) B 320 G38 := z38
    clear z38
    refine ae_istore_n (lv' := [(3, .int x38), (2, .ref b2), (0, .ref p0), (1, .ref p1)]) (q := 25) dX2_step_24 rfl (by decide) rfl rfl ?_
    refine ae_goto (q := 71) dX2_step_25 (by decide) ?_
    exact ae_lv (lv' := [(3, .int x38), (2, .ref b2), (0, .ref p0), (1, .ref p1)]) ⟨rfl, rfl, rfl, rfl, trivial⟩ (lab71 x38 _ h)
set_option maxRecDepth 100000 in
set_option maxHeartbeats 4000000 in
theorem c_X2_tick {ox : List (Nat × (Nat → Int32))} {d N : Nat} {B H : am_H} {p0 : Nat} (ho3 : ox[3]? = some (4, fun k => am_t3.getD k 0)) (hR : R1 B) (hN : N + 3 ≤ 1000000) (h : jc N B 320 H) (lp0 : p0 < 320) (tp0 : ty p0 = 5) : am_DB 0 ox (d + 5) yX2_tick mX2_tick [.ref p0] H (fun o H1 => o = .inl none ∧ jc (N + 3) B 320 H1) := by
  refine ae_enter rfl rfl rfl rfl (Nat.le_of_ble_eq_true rfl) ?_
  show am_EB 0 ox (d + 5) mX2_tick 0 [(0, .ref p0)] [] H _
  refine ae_iconst (v := 0) (q := 1) dX2_tick_0 (by decide) rfl ?_
  refine ae_istore_n (lv' := [(1, .int 0), (0, .ref p0)]) (q := 2) dX2_tick_1 rfl (by decide) rfl rfl ?_
  have lab2 : ∀ (n1 : Nat) (m1 : Nat) (y1_1 : Int32) (K1 : am_H), jc m1 B 320 K1 → 0 ≤ y1_1.toInt → y1_1.toInt ≤ 3 → 3 - y1_1.toInt ≤ (n1 : Int) → (m1 : Int) ≤ N + y1_1.toInt → am_EB 0 ox (d + 5) mX2_tick 2 [(1, .int y1_1), (0, .ref p0)] [] K1 (fun o H1 => o = .inl none ∧ jc (N + 3) B 320 H1) := by
    intro n1
    induction n1 using Nat.strongRecOn with
    | ind n1 ih1 =>
      intro m1 y1_1 K1 h p1_1 q1_1 mm1 k1
      refine ae_iload_n (q := 3) dX2_tick_2 rfl rfl rfl ?_
      refine ae_aload_n (q := 4) dX2_tick_3 rfl rfl rfl ?_
      refine ae_getI (q := 7) dX2_tick_4 fl_X2_56 rfl (h.s lp0 tp0) (h.l lp0) rfl ?_
      obtain ⟨x2, e2, u2, v2⟩ := rdi (h.i lp0 tp0 (k := 6) (p := (0, 3)) rfl)
      refine ae_eqi e2 ?_
      refine ae_icmp_ge (t := 47) (q := 10) dX2_tick_7 (by decide) rfl (fun c3 => ?_) (fun c3 => ?_)
      · have c3 := i_le (a := x2.toInt) (b := y1_1.toInt) rfl rfl c3
        refine ae_aload_n (q := 48) dX2_tick_47 rfl rfl rfl ?_
        refine ae_dup (q := 49) dX2_tick_48 rfl rfl ?_
        refine ae_getI (q := 52) dX2_tick_49 fl_X2_70 rfl (h.s lp0 tp0) (h.l lp0) rfl ?_
        obtain ⟨x4, e4⟩ : ∃ x, am_gi K1 p0 12 = x := ⟨_, rfl⟩
        refine ae_eqi e4 ?_
        refine ae_iconst (v := 1) (q := 53) dX2_tick_52 (by decide) rfl ?_
        refine ae_iadd (q := 54) dX2_tick_53 rfl ?_
        obtain ⟨x5, e5⟩ : ∃ z, x4 + 1 = z := ⟨_, rfl⟩
        refine ae_eqi e5 ?_
        refine ae_putI (q := 57) dX2_tick_54 fl_X2_70 rfl rfl rfl (h.s lp0 tp0) (h.l lp0) rfl ?_
        refine ae_gen (fun G6 g6 => ?_)
        have h : jc m1 B 320 G6 := by rw [g6]; exact h.w tp0 (by decide) (fun q => absurd q.1 (by decide)) inr_any
        refine ae_vret dX2_tick_57 rfl ?_
        exact ⟨rfl, (h.up (by omega))⟩
      · have c3 := i_nle (a := x2.toInt) (b := y1_1.toInt) rfl rfl c3
        refine ae_aload_n (q := 11) dX2_tick_10 rfl rfl rfl ?_
        obtain ⟨b7, r7, l7, t7⟩ := h.r lp0 tp0 (k := 5) (T' := 13) rfl (by decide)
        refine ae_getR (q := 14) dX2_tick_11 fl_X2_40 rfl (h.s lp0 tp0) (h.l lp0) r7 rfl ?_
        refine ae_iload_n (q := 15) dX2_tick_14 rfl rfl rfl ?_
        obtain ⟨b8, r8, l8, t8⟩ := h.r l7 t7 (k := y1_1.toNatClampNeg) (T' := 14) (if_pos (ixn (by omega) (by omega))) (by decide)
        refine ae_aald (q := 16) dX2_tick_15 (show am_sh K1 b7 = (103 + 5, 3) from h.s l7 t7) (show am_kinds[7]? = some (103 + 5, .object RX5) from rfl) (h.l l7) (vin (by omega) (by omega)) r8 rfl ?_
        refine ae_getI (q := 19) dX2_tick_16 fl_X2_101 rfl (h.s l8 t8) (h.l l8) rfl ?_
        obtain ⟨x9, e9, u9, v9⟩ := rdi (h.i l8 t8 (k := 2) (p := ((-1), 47)) rfl)
        refine ae_eqi e9 ?_
        refine ae_iconst (v := (-1)) (q := 20) dX2_tick_19 (by decide) rfl ?_
        refine ae_icmp_ne (t := 31) (q := 23) dX2_tick_20 (by decide) rfl (fun c10 => ?_) (fun c10 => ?_)
        · have c10 := i_ne (a := x9.toInt) (b := (-1)) rfl (by decide) c10
          refine ae_aload_n (q := 32) dX2_tick_31 rfl rfl rfl ?_
          refine ae_aload_n (q := 33) dX2_tick_32 rfl rfl rfl ?_
          refine ae_getR (q := 36) dX2_tick_33 fl_X2_40 rfl (h.s lp0 tp0) (h.l lp0) r7 rfl ?_
          refine ae_iload_n (q := 37) dX2_tick_36 rfl rfl rfl ?_
          refine ae_aald (q := 38) dX2_tick_37 (show am_sh K1 b7 = (103 + 5, 3) from h.s l7 t7) (show am_kinds[7]? = some (103 + 5, .object RX5) from rfl) (h.l l7) (vin (by omega) (by omega)) r8 rfl ?_
          refine ae_callV (ci := 2) (as := [.ref b8]) (b := p0) (st := []) (q := 41) dX2_tick_38 (c_X2_step (N := m1) (d := d) ho3 hR (by omega) h lp0 tp0 l8 t8 (xh := x9) e9 (by omega) (by omega)) myX2_step lk_X2_113 im_X2_step se_X2_step rfl (by decide) (h.s lp0 tp0) (h.l lp0) rfl rfl (Nat.le_of_ble_eq_true rfl) rfl (fun o H1 hh => ⟨_, hh.1⟩) (fun vv G11 hv => ?_)
          obtain ⟨o11, z11⟩ := hv
          cases o11
          refine ⟨Or.inl (z11.nx.trans h.nx.symm), ?_⟩
          have h : jc (m1 + 1) B 320 G11 := z11
          clear z11
          obtain ⟨x12, e12⟩ : ∃ z, y1_1 + Int32.ofInt 1 = z := ⟨_, rfl⟩
          have f12 : x12.toInt = y1_1.toInt + 1 := by rw [← e12]; exact i_add rfl (by decide) (by omega) (by omega)
          refine ae_iinc (v := x12) (lv' := [(1, .int x12), (0, .ref p0)]) (q := 44) dX2_tick_41 rfl e12 (by decide) rfl rfl ?_
          refine ae_goto (q := 2) dX2_tick_44 (by decide) ?_
          exact ae_lv (lv' := [(1, .int x12), (0, .ref p0)]) ⟨rfl, rfl, trivial⟩ (ih1 (n1 - 1) (by omega) (m1 + 1) x12 _ h (by omega) (by omega) (by omega) (by omega))
        · have c10 := i_eq (a := x9.toInt) (b := (-1)) rfl (by decide) c10
          refine ae_aload_n (q := 24) dX2_tick_23 rfl rfl rfl ?_
          refine ae_iload_n (q := 25) dX2_tick_24 rfl rfl rfl ?_
          refine ae_callV (ci := 2) (as := [.int y1_1]) (b := p0) (st := []) (q := 28) dX2_tick_25 (c_X2_takeOne (N := m1) (d := d + 2) h lp0 tp0 (by omega) (by omega)) myX2_takeOne lk_X2_110 im_X2_takeOne se_X2_takeOne rfl (by decide) (h.s lp0 tp0) (h.l lp0) rfl rfl (Nat.le_of_ble_eq_true rfl) rfl (fun o H1 hh => ⟨_, hh.1⟩) (fun vv G13 hv => ?_)
          obtain ⟨o13, z13⟩ := hv
          cases o13
          refine ⟨Or.inl (z13.nx.trans h.nx.symm), ?_⟩
          have h : jc m1 B 320 G13 := z13
          clear z13
          refine ae_goto (q := 41) dX2_tick_28 (by decide) ?_
          obtain ⟨x14, e14⟩ : ∃ z, y1_1 + Int32.ofInt 1 = z := ⟨_, rfl⟩
          have f14 : x14.toInt = y1_1.toInt + 1 := by rw [← e14]; exact i_add rfl (by decide) (by omega) (by omega)
          refine ae_iinc (v := x14) (lv' := [(1, .int x14), (0, .ref p0)]) (q := 44) dX2_tick_41 rfl e14 (by decide) rfl rfl ?_
          refine ae_goto (q := 2) dX2_tick_44 (by decide) ?_
          exact ae_lv (lv' := [(1, .int x14), (0, .ref p0)]) ⟨rfl, rfl, trivial⟩ (ih1 (n1 - 1) (by omega) m1 x14 _ h (by omega) (by omega) (by omega) (by omega))
  exact ae_lv (lv' := [(1, .int 0), (0, .ref p0)]) ⟨rfl, rfl, trivial⟩ (lab2 3 N 0 _ h (by decide) (by decide) (show 3 - (0 : Int32).toInt ≤ _ from by rw [show (0 : Int32).toInt = 0 from by decide]; omega) (have zz0 : (0 : Int32).toInt = 0 := (by decide); by omega))
set_option maxRecDepth 100000 in
set_option maxHeartbeats 4000000 in
theorem c_X2_unfinishedTasks {ox : List (Nat × (Nat → Int32))} {d N : Nat} {B H : am_H} {p0 : Nat}  (h : jc N B 320 H) (lp0 : p0 < 320) (tp0 : ty p0 = 5) : am_DB 0 ox d yX2_unfinishedTasks mX2_unfinishedTasks [.ref p0] H (fun o H1 => (∃ v : Int32, o = .inl (some (.int v))) ∧ H1 = H) := by
  refine ae_enter rfl rfl rfl rfl (Nat.le_of_ble_eq_true rfl) ?_
  show am_EB 0 ox d mX2_unfinishedTasks 0 [(0, .ref p0)] [] H _
  refine ae_iconst (v := 0) (q := 1) dX2_unfinishedTasks_0 (by decide) rfl ?_
  refine ae_istore_n (lv' := [(1, .int 0), (0, .ref p0)]) (q := 2) dX2_unfinishedTasks_1 rfl (by decide) rfl rfl ?_
  refine ae_iconst (v := 0) (q := 3) dX2_unfinishedTasks_2 (by decide) rfl ?_
  refine ae_istore_n (lv' := [(2, .int 0), (1, .int 0), (0, .ref p0)]) (q := 4) dX2_unfinishedTasks_3 rfl (by decide) rfl rfl ?_
  have lab4 : ∀ (n1 : Nat) (y1_2 : Int32) (y1_1 : Int32), 0 ≤ y1_2.toInt → y1_2.toInt ≤ 48 → 48 - y1_2.toInt ≤ (n1 : Int) → am_EB 0 ox d mX2_unfinishedTasks 4 [(2, .int y1_2), (1, .int y1_1), (0, .ref p0)] [] H (fun o H1 => (∃ v : Int32, o = .inl (some (.int v))) ∧ H1 = H) := by
    intro n1
    induction n1 using Nat.strongRecOn with
    | ind n1 ih1 =>
      intro y1_2 y1_1 p1_2 q1_2 mm1
      refine ae_iload_n (q := 5) dX2_unfinishedTasks_4 rfl rfl rfl ?_
      refine ae_aload_n (q := 6) dX2_unfinishedTasks_5 rfl rfl rfl ?_
      refine ae_getI (q := 9) dX2_unfinishedTasks_6 fl_X2_64 rfl (h.s lp0 tp0) (h.l lp0) rfl ?_
      obtain ⟨x2, e2, u2, v2⟩ := rdi (h.i lp0 tp0 (k := 2) (p := (0, 48)) rfl)
      refine ae_eqi e2 ?_
      refine ae_icmp_ge (t := 34) (q := 12) dX2_unfinishedTasks_9 (by decide) rfl (fun c3 => ?_) (fun c3 => ?_)
      · have c3 := i_le (a := x2.toInt) (b := y1_2.toInt) rfl rfl c3
        refine ae_iload_n (q := 35) dX2_unfinishedTasks_34 rfl rfl rfl ?_
        refine ae_iret dX2_unfinishedTasks_35 rfl rfl ?_
        exact ⟨⟨_, rfl⟩, rfl⟩
      · have c3 := i_nle (a := x2.toInt) (b := y1_2.toInt) rfl rfl c3
        refine ae_aload_n (q := 13) dX2_unfinishedTasks_12 rfl rfl rfl ?_
        obtain ⟨b4, r4, l4, t4⟩ := h.r lp0 tp0 (k := 1) (T' := 7) rfl (by decide)
        refine ae_getR (q := 16) dX2_unfinishedTasks_13 fl_X2_24 rfl (h.s lp0 tp0) (h.l lp0) r4 rfl ?_
        refine ae_iload_n (q := 17) dX2_unfinishedTasks_16 rfl rfl rfl ?_
        obtain ⟨b5, r5, l5, t5⟩ := h.r l4 t4 (k := y1_2.toNatClampNeg) (T' := 8) (if_pos (ixn (by omega) (by omega))) (by decide)
        refine ae_aald (q := 18) dX2_unfinishedTasks_17 (show am_sh H b4 = (103 + 4, 48) from h.s l4 t4) (show am_kinds[6]? = some (103 + 4, .object RX4) from rfl) (h.l l4) (vin (by omega) (by omega)) r5 rfl ?_
        refine ae_getI (q := 21) dX2_unfinishedTasks_18 fl_X2_124 rfl (h.s l5 t5) (h.l l5) rfl ?_
        obtain ⟨x6, e6, u6, v6⟩ := rdi (h.i l5 t5 (k := 7) (p := (0, 3)) rfl)
        refine ae_eqi e6 ?_
        refine ae_iconst (v := 3) (q := 22) dX2_unfinishedTasks_21 (by decide) rfl ?_
        refine ae_icmp_eq (t := 28) (q := 25) dX2_unfinishedTasks_22 (by decide) rfl (fun c7 => ?_) (fun c7 => ?_)
        · have c7 := i_eq (a := x6.toInt) (b := 3) rfl (by decide) c7
          obtain ⟨x8, e8⟩ : ∃ z, y1_2 + Int32.ofInt 1 = z := ⟨_, rfl⟩
          have f8 : x8.toInt = y1_2.toInt + 1 := by rw [← e8]; exact i_add rfl (by decide) (by omega) (by omega)
          refine ae_iinc (v := x8) (lv' := [(2, .int x8), (1, .int y1_1), (0, .ref p0)]) (q := 31) dX2_unfinishedTasks_28 rfl e8 (by decide) rfl rfl ?_
          refine ae_goto (q := 4) dX2_unfinishedTasks_31 (by decide) ?_
          exact ae_lv (lv' := [(2, .int x8), (1, .int y1_1), (0, .ref p0)]) ⟨rfl, rfl, rfl, trivial⟩ (ih1 (n1 - 1) (by omega) x8 y1_1 (by omega) (by omega) (by omega))
        · have c7 := i_ne (a := x6.toInt) (b := 3) rfl (by decide) c7
          obtain ⟨x9, e9⟩ : ∃ z, y1_1 + Int32.ofInt 1 = z := ⟨_, rfl⟩
          refine ae_iinc (v := x9) (lv' := [(1, .int x9), (2, .int y1_2), (0, .ref p0)]) (q := 28) dX2_unfinishedTasks_25 rfl e9 (by decide) rfl rfl ?_
          obtain ⟨x10, e10⟩ : ∃ z, y1_2 + Int32.ofInt 1 = z := ⟨_, rfl⟩
          have f10 : x10.toInt = y1_2.toInt + 1 := by rw [← e10]; exact i_add rfl (by decide) (by omega) (by omega)
          refine ae_iinc (v := x10) (lv' := [(2, .int x10), (1, .int x9), (0, .ref p0)]) (q := 31) dX2_unfinishedTasks_28 rfl e10 (by decide) rfl rfl ?_
          refine ae_goto (q := 4) dX2_unfinishedTasks_31 (by decide) ?_
          exact ae_lv (lv' := [(2, .int x10), (1, .int x9), (0, .ref p0)]) ⟨rfl, rfl, rfl, trivial⟩ (ih1 (n1 - 1) (by omega) x10 x9 (by omega) (by omega) (by omega))
  exact ae_lv (lv' := [(2, .int 0), (1, .int 0), (0, .ref p0)]) ⟨rfl, rfl, rfl, trivial⟩ (lab4 48 0 0 (by decide) (by decide) (show 48 - (0 : Int32).toInt ≤ _ from by rw [show (0 : Int32).toInt = 0 from by decide]; omega))
set_option maxRecDepth 100000 in
set_option maxHeartbeats 4000000 in
theorem c_X2_figure {ox : List (Nat × (Nat → Int32))} {d N : Nat} {B H : am_H} {p0 : Nat} {a1 : Int32}  (h : jc N B 320 H) (lp0 : p0 < 320) (tp0 : ty p0 = 5) (u_1 : 0 ≤ a1.toInt) (v_1 : a1.toInt ≤ 10) : am_DB 0 ox (d + 2) yX2_figure mX2_figure [.ref p0, .int a1] H (fun o H1 => (∃ v : Int32, o = .inl (some (.int v))) ∧ H1 = H) := by
  refine ae_enter rfl rfl rfl rfl (Nat.le_of_ble_eq_true rfl) ?_
  show am_EB 0 ox (d + 2) mX2_figure 0 [(0, .ref p0), (1, .int a1)] [] H _
  refine ae_iload_n (q := 1) dX2_figure_0 rfl rfl rfl ?_
  have c1 : a1.toInt = 0 ∨ a1.toInt = 1 ∨ a1.toInt = 2 ∨ a1.toInt = 3 ∨ a1.toInt = 4 ∨ a1.toInt = 5 ∨ a1.toInt = 6 ∨ a1.toInt = 7 ∨ a1.toInt = 8 ∨ a1.toInt = 9 ∨ a1.toInt = 10 := by omega
  rcases c1 with c1 | c1 | c1 | c1 | c1 | c1 | c1 | c1 | c1 | c1 | c1
  · have j1 : a1 = 0 := Int32.toInt_inj.mp (by rw [c1]; decide)
    refine ae_tableIn (off := 55) (q := 56) dX2_figure_1 (by rw [j1]; decide) (by rw [j1]; decide) (by rw [j1]; decide) (by decide) ?_
    refine ae_aload_n (q := 57) dX2_figure_56 rfl rfl rfl ?_
    refine ae_getI (q := 60) dX2_figure_57 fl_X2_64 rfl (h.s lp0 tp0) (h.l lp0) rfl ?_
    obtain ⟨x2, e2, u2, v2⟩ := rdi (h.i lp0 tp0 (k := 2) (p := (0, 48)) rfl)
    refine ae_eqi e2 ?_
    refine ae_iret dX2_figure_60 rfl rfl ?_
    exact ⟨⟨_, rfl⟩, rfl⟩
  · have j1 : a1 = 1 := Int32.toInt_inj.mp (by rw [c1]; decide)
    refine ae_tableIn (off := 60) (q := 61) dX2_figure_1 (by rw [j1]; decide) (by rw [j1]; decide) (by rw [j1]; decide) (by decide) ?_
    refine ae_aload_n (q := 62) dX2_figure_61 rfl rfl rfl ?_
    refine ae_callV (ci := 2) (as := []) (b := p0) (st := []) (q := 65) dX2_figure_62 (c_X2_unfinishedTasks (N := N) (d := d + 1) h lp0 tp0) myX2_unfinishedTasks lk_X2_281 im_X2_unfinishedTasks se_X2_unfinishedTasks rfl (by decide) (h.s lp0 tp0) (h.l lp0) rfl rfl (Nat.le_of_ble_eq_true rfl) rfl (fun o H1 hh => ⟨_, hh.1.choose_spec⟩) (fun vv G3 hv => ?_)
    obtain ⟨⟨x3, o3⟩, z3⟩ := hv
    cases o3
    have z3 := z3.symm
    subst z3
    refine ⟨Or.inl rfl, ?_⟩
    refine ae_iret dX2_figure_65 rfl rfl ?_
    exact ⟨⟨_, rfl⟩, rfl⟩
  · have j1 : a1 = 2 := Int32.toInt_inj.mp (by rw [c1]; decide)
    refine ae_tableIn (off := 65) (q := 66) dX2_figure_1 (by rw [j1]; decide) (by rw [j1]; decide) (by rw [j1]; decide) (by decide) ?_
    refine ae_aload_n (q := 67) dX2_figure_66 rfl rfl rfl ?_
    refine ae_getI (q := 70) dX2_figure_67 fl_X2_70 rfl (h.s lp0 tp0) (h.l lp0) rfl ?_
    obtain ⟨x4, e4⟩ : ∃ x, am_gi H p0 12 = x := ⟨_, rfl⟩
    refine ae_eqi e4 ?_
    refine ae_iret dX2_figure_70 rfl rfl ?_
    exact ⟨⟨_, rfl⟩, rfl⟩
  · have j1 : a1 = 3 := Int32.toInt_inj.mp (by rw [c1]; decide)
    refine ae_tableIn (off := 70) (q := 71) dX2_figure_1 (by rw [j1]; decide) (by rw [j1]; decide) (by rw [j1]; decide) (by decide) ?_
    refine ae_aload_n (q := 72) dX2_figure_71 rfl rfl rfl ?_
    refine ae_getI (q := 75) dX2_figure_72 fl_X2_73 rfl (h.s lp0 tp0) (h.l lp0) rfl ?_
    obtain ⟨x5, e5⟩ : ∃ x, am_gi H p0 13 = x := ⟨_, rfl⟩
    refine ae_eqi e5 ?_
    refine ae_iret dX2_figure_75 rfl rfl ?_
    exact ⟨⟨_, rfl⟩, rfl⟩
  · have j1 : a1 = 4 := Int32.toInt_inj.mp (by rw [c1]; decide)
    refine ae_tableIn (off := 75) (q := 76) dX2_figure_1 (by rw [j1]; decide) (by rw [j1]; decide) (by rw [j1]; decide) (by decide) ?_
    refine ae_aload_n (q := 77) dX2_figure_76 rfl rfl rfl ?_
    refine ae_getI (q := 80) dX2_figure_77 fl_X2_76 rfl (h.s lp0 tp0) (h.l lp0) rfl ?_
    obtain ⟨x6, e6⟩ : ∃ x, am_gi H p0 14 = x := ⟨_, rfl⟩
    refine ae_eqi e6 ?_
    refine ae_iret dX2_figure_80 rfl rfl ?_
    exact ⟨⟨_, rfl⟩, rfl⟩
  · have j1 : a1 = 5 := Int32.toInt_inj.mp (by rw [c1]; decide)
    refine ae_tableIn (off := 80) (q := 81) dX2_figure_1 (by rw [j1]; decide) (by rw [j1]; decide) (by rw [j1]; decide) (by decide) ?_
    refine ae_aload_n (q := 82) dX2_figure_81 rfl rfl rfl ?_
    refine ae_getI (q := 85) dX2_figure_82 fl_X2_67 rfl (h.s lp0 tp0) (h.l lp0) rfl ?_
    obtain ⟨x7, e7, u7, v7⟩ := rdi (h.i lp0 tp0 (k := 11) (p := (0, ((N : Nat) : Int))) rfl)
    refine ae_eqi e7 ?_
    refine ae_iret dX2_figure_85 rfl rfl ?_
    exact ⟨⟨_, rfl⟩, rfl⟩
  · have j1 : a1 = 6 := Int32.toInt_inj.mp (by rw [c1]; decide)
    refine ae_tableIn (off := 85) (q := 86) dX2_figure_1 (by rw [j1]; decide) (by rw [j1]; decide) (by rw [j1]; decide) (by decide) ?_
    refine ae_aload_n (q := 87) dX2_figure_86 rfl rfl rfl ?_
    obtain ⟨b8, r8, l8, t8⟩ := h.r lp0 tp0 (k := 3) (T' := 6) rfl (by decide)
    refine ae_getR (q := 90) dX2_figure_87 fl_X2_18 rfl (h.s lp0 tp0) (h.l lp0) r8 rfl ?_
    refine ae_getI (q := 93) dX2_figure_90 fl_X2_259 rfl (h.s l8 t8) (h.l l8) rfl ?_
    obtain ⟨x9, e9⟩ : ∃ x, am_gi H b8 4 = x := ⟨_, rfl⟩
    refine ae_eqi e9 ?_
    refine ae_iret dX2_figure_93 rfl rfl ?_
    exact ⟨⟨_, rfl⟩, rfl⟩
  · have j1 : a1 = 7 := Int32.toInt_inj.mp (by rw [c1]; decide)
    refine ae_tableIn (off := 93) (q := 94) dX2_figure_1 (by rw [j1]; decide) (by rw [j1]; decide) (by rw [j1]; decide) (by decide) ?_
    refine ae_aload_n (q := 95) dX2_figure_94 rfl rfl rfl ?_
    obtain ⟨b10, r10, l10, t10⟩ := h.r lp0 tp0 (k := 3) (T' := 6) rfl (by decide)
    refine ae_getR (q := 98) dX2_figure_95 fl_X2_18 rfl (h.s lp0 tp0) (h.l lp0) r10 rfl ?_
    refine ae_getI (q := 101) dX2_figure_98 fl_X2_269 rfl (h.s l10 t10) (h.l l10) rfl ?_
    obtain ⟨x11, e11⟩ : ∃ x, am_gi H b10 5 = x := ⟨_, rfl⟩
    refine ae_eqi e11 ?_
    refine ae_iret dX2_figure_101 rfl rfl ?_
    exact ⟨⟨_, rfl⟩, rfl⟩
  · have j1 : a1 = 8 := Int32.toInt_inj.mp (by rw [c1]; decide)
    refine ae_tableIn (off := 101) (q := 102) dX2_figure_1 (by rw [j1]; decide) (by rw [j1]; decide) (by rw [j1]; decide) (by decide) ?_
    refine ae_aload_n (q := 103) dX2_figure_102 rfl rfl rfl ?_
    obtain ⟨b12, r12, l12, t12⟩ := h.r lp0 tp0 (k := 4) (T' := 10) rfl (by decide)
    refine ae_getR (q := 106) dX2_figure_103 fl_X2_33 rfl (h.s lp0 tp0) (h.l lp0) r12 rfl ?_
    refine ae_iconst (v := 0) (q := 107) dX2_figure_106 (by decide) rfl ?_
    obtain ⟨b13, r13, l13, t13⟩ := h.r l12 t12 (k := (0 : Int32).toNatClampNeg) (T' := 11) rfl (by decide)
    refine ae_aald (q := 108) dX2_figure_107 (show am_sh H b12 = (103 + 1, 2) from h.s l12 t12) (show am_kinds[4]? = some (103 + 1, .object RX1) from rfl) (h.l l12) (by unfold vp_in; decide) r13 rfl ?_
    refine ae_getI (q := 111) dX2_figure_108 fl_X2_284 rfl (h.s l13 t13) (h.l l13) rfl ?_
    obtain ⟨x14, e14⟩ : ∃ x, am_gi H b13 0 = x := ⟨_, rfl⟩
    refine ae_eqi e14 ?_
    refine ae_iret dX2_figure_111 rfl rfl ?_
    exact ⟨⟨_, rfl⟩, rfl⟩
  · have j1 : a1 = 9 := Int32.toInt_inj.mp (by rw [c1]; decide)
    refine ae_tableIn (off := 111) (q := 112) dX2_figure_1 (by rw [j1]; decide) (by rw [j1]; decide) (by rw [j1]; decide) (by decide) ?_
    refine ae_aload_n (q := 113) dX2_figure_112 rfl rfl rfl ?_
    obtain ⟨b15, r15, l15, t15⟩ := h.r lp0 tp0 (k := 4) (T' := 10) rfl (by decide)
    refine ae_getR (q := 116) dX2_figure_113 fl_X2_33 rfl (h.s lp0 tp0) (h.l lp0) r15 rfl ?_
    refine ae_iconst (v := 1) (q := 117) dX2_figure_116 (by decide) rfl ?_
    obtain ⟨b16, r16, l16, t16⟩ := h.r l15 t15 (k := (1 : Int32).toNatClampNeg) (T' := 11) rfl (by decide)
    refine ae_aald (q := 118) dX2_figure_117 (show am_sh H b15 = (103 + 1, 2) from h.s l15 t15) (show am_kinds[4]? = some (103 + 1, .object RX1) from rfl) (h.l l15) (by unfold vp_in; decide) r16 rfl ?_
    refine ae_getI (q := 121) dX2_figure_118 fl_X2_284 rfl (h.s l16 t16) (h.l l16) rfl ?_
    obtain ⟨x17, e17⟩ : ∃ x, am_gi H b16 0 = x := ⟨_, rfl⟩
    refine ae_eqi e17 ?_
    refine ae_iret dX2_figure_121 rfl rfl ?_
    exact ⟨⟨_, rfl⟩, rfl⟩
  · have j1 : a1 = 10 := Int32.toInt_inj.mp (by rw [c1]; decide)
    refine ae_tableOut (q := 122) dX2_figure_1 (by rw [j1]; decide) (by decide) ?_
    refine ae_aload_n (q := 123) dX2_figure_122 rfl rfl rfl ?_
    refine ae_callV (ci := 2) (as := []) (b := p0) (st := []) (q := 126) dX2_figure_123 (c_X2_isOver (N := N) (d := d) h lp0 tp0) myX2_isOver lk_X2_107 im_X2_isOver se_X2_isOver rfl (by decide) (h.s lp0 tp0) (h.l lp0) rfl rfl (Nat.le_of_ble_eq_true rfl) rfl (fun o H1 hh => ⟨_, hh.1.choose_spec.1⟩) (fun vv G18 hv => ?_)
    obtain ⟨⟨x18, o18, u18, v18⟩, z18⟩ := hv
    cases o18
    have z18 := z18.symm
    subst z18
    refine ⟨Or.inl rfl, ?_⟩
    refine ae_if_eq (t := 133) (q := 129) dX2_figure_126 (by decide) rfl (fun c19 => ?_) (fun c19 => ?_)
    · have c19 := i_eq (a := x18.toInt) (b := 0) rfl (by decide) c19
      refine ae_iconst (v := 0) (q := 134) dX2_figure_133 (by decide) rfl ?_
      refine ae_iret dX2_figure_134 rfl rfl ?_
      exact ⟨⟨_, rfl⟩, rfl⟩
    · have c19 := i_ne (a := x18.toInt) (b := 0) rfl (by decide) c19
      refine ae_iconst (v := 1) (q := 130) dX2_figure_129 (by decide) rfl ?_
      refine ae_goto (q := 134) dX2_figure_130 (by decide) ?_
      refine ae_iret dX2_figure_134 rfl rfl ?_
      exact ⟨⟨_, rfl⟩, rfl⟩
set_option maxRecDepth 100000 in
set_option maxHeartbeats 4000000 in
theorem c_X2_answerOf {ox : List (Nat × (Nat → Int32))} {d N : Nat} {B H : am_H} {p0 : Nat} {p1 : Nat} {a2 : Int32}  (h : jc N B 320 H) (lp0 : p0 < 320) (tp0 : ty p0 = 5) (lp1 : p1 < 320) (tp1 : ty p1 = 8) (u_2 : 0 ≤ a2.toInt) (v_2 : a2.toInt ≤ 6) : am_DB 0 ox d yX2_answerOf mX2_answerOf [.ref p0, .ref p1, .int a2] H (fun o H1 => (∃ v : Int32, o = .inl (some (.int v))) ∧ H1 = H) := by
  refine ae_enter rfl rfl rfl rfl (Nat.le_of_ble_eq_true rfl) ?_
  show am_EB 0 ox d mX2_answerOf 0 [(0, .ref p0), (1, .ref p1), (2, .int a2)] [] H _
  refine ae_iload_n (q := 1) dX2_answerOf_0 rfl rfl rfl ?_
  have c1 : a2.toInt = 0 ∨ a2.toInt = 1 ∨ a2.toInt = 2 ∨ a2.toInt = 3 ∨ a2.toInt = 4 ∨ a2.toInt = 5 ∨ a2.toInt = 6 := by omega
  rcases c1 with c1 | c1 | c1 | c1 | c1 | c1 | c1
  · have j1 : a2 = 0 := Int32.toInt_inj.mp (by rw [c1]; decide)
    refine ae_tableIn (off := 39) (q := 40) dX2_answerOf_1 (by rw [j1]; decide) (by rw [j1]; decide) (by rw [j1]; decide) (by decide) ?_
    refine ae_aload_n (q := 41) dX2_answerOf_40 rfl rfl rfl ?_
    refine ae_getI (q := 44) dX2_answerOf_41 fl_X2_124 rfl (h.s lp1 tp1) (h.l lp1) rfl ?_
    obtain ⟨x2, e2, u2, v2⟩ := rdi (h.i lp1 tp1 (k := 7) (p := (0, 3)) rfl)
    refine ae_eqi e2 ?_
    refine ae_iret dX2_answerOf_44 rfl rfl ?_
    exact ⟨⟨_, rfl⟩, rfl⟩
  · have j1 : a2 = 1 := Int32.toInt_inj.mp (by rw [c1]; decide)
    refine ae_tableIn (off := 44) (q := 45) dX2_answerOf_1 (by rw [j1]; decide) (by rw [j1]; decide) (by rw [j1]; decide) (by decide) ?_
    refine ae_aload_n (q := 46) dX2_answerOf_45 rfl rfl rfl ?_
    refine ae_getI (q := 49) dX2_answerOf_46 fl_X2_180 rfl (h.s lp1 tp1) (h.l lp1) rfl ?_
    obtain ⟨x3, e3⟩ : ∃ x, am_gi H p1 5 = x := ⟨_, rfl⟩
    refine ae_eqi e3 ?_
    refine ae_iret dX2_answerOf_49 rfl rfl ?_
    exact ⟨⟨_, rfl⟩, rfl⟩
  · have j1 : a2 = 2 := Int32.toInt_inj.mp (by rw [c1]; decide)
    refine ae_tableIn (off := 49) (q := 50) dX2_answerOf_1 (by rw [j1]; decide) (by rw [j1]; decide) (by rw [j1]; decide) (by decide) ?_
    refine ae_aload_n (q := 51) dX2_answerOf_50 rfl rfl rfl ?_
    refine ae_getI (q := 54) dX2_answerOf_51 fl_X2_134 rfl (h.s lp1 tp1) (h.l lp1) rfl ?_
    obtain ⟨x4, e4, u4, v4⟩ := rdi (h.i lp1 tp1 (k := 6) (p := (0, 16 + ((N : Nat) : Int))) rfl)
    refine ae_eqi e4 ?_
    refine ae_iret dX2_answerOf_54 rfl rfl ?_
    exact ⟨⟨_, rfl⟩, rfl⟩
  · have j1 : a2 = 3 := Int32.toInt_inj.mp (by rw [c1]; decide)
    refine ae_tableIn (off := 54) (q := 55) dX2_answerOf_1 (by rw [j1]; decide) (by rw [j1]; decide) (by rw [j1]; decide) (by decide) ?_
    refine ae_aload_n (q := 56) dX2_answerOf_55 rfl rfl rfl ?_
    refine ae_getI (q := 59) dX2_answerOf_56 fl_X2_137 rfl (h.s lp1 tp1) (h.l lp1) rfl ?_
    obtain ⟨x5, e5, u5, v5⟩ := rdi (h.i lp1 tp1 (k := 4) (p := (0, 7)) rfl)
    refine ae_eqi e5 ?_
    refine ae_iret dX2_answerOf_59 rfl rfl ?_
    exact ⟨⟨_, rfl⟩, rfl⟩
  · have j1 : a2 = 4 := Int32.toInt_inj.mp (by rw [c1]; decide)
    refine ae_tableIn (off := 59) (q := 60) dX2_answerOf_1 (by rw [j1]; decide) (by rw [j1]; decide) (by rw [j1]; decide) (by decide) ?_
    refine ae_aload_n (q := 61) dX2_answerOf_60 rfl rfl rfl ?_
    refine ae_getI (q := 64) dX2_answerOf_61 fl_X2_231 rfl (h.s lp1 tp1) (h.l lp1) rfl ?_
    obtain ⟨x6, e6, u6, v6⟩ := rdi (h.i lp1 tp1 (k := 2) (p := (0, 3)) rfl)
    refine ae_eqi e6 ?_
    refine ae_iret dX2_answerOf_64 rfl rfl ?_
    exact ⟨⟨_, rfl⟩, rfl⟩
  · have j1 : a2 = 5 := Int32.toInt_inj.mp (by rw [c1]; decide)
    refine ae_tableIn (off := 64) (q := 65) dX2_answerOf_1 (by rw [j1]; decide) (by rw [j1]; decide) (by rw [j1]; decide) (by decide) ?_
    refine ae_aload_n (q := 66) dX2_answerOf_65 rfl rfl rfl ?_
    obtain ⟨b7, r7, l7, t7⟩ := h.r lp0 tp0 (k := 4) (T' := 10) rfl (by decide)
    refine ae_getR (q := 69) dX2_answerOf_66 fl_X2_33 rfl (h.s lp0 tp0) (h.l lp0) r7 rfl ?_
    refine ae_iconst (v := 0) (q := 70) dX2_answerOf_69 (by decide) rfl ?_
    obtain ⟨b8, r8, l8, t8⟩ := h.r l7 t7 (k := (0 : Int32).toNatClampNeg) (T' := 11) rfl (by decide)
    refine ae_aald (q := 71) dX2_answerOf_70 (show am_sh H b7 = (103 + 1, 2) from h.s l7 t7) (show am_kinds[4]? = some (103 + 1, .object RX1) from rfl) (h.l l7) (by unfold vp_in; decide) r8 rfl ?_
    obtain ⟨b9, r9, l9, t9⟩ := h.r l8 t8 (k := 1) (T' := 12) rfl (by decide)
    refine ae_getR (q := 74) dX2_answerOf_71 fl_X2_238 rfl (h.s l8 t8) (h.l l8) r9 rfl ?_
    refine ae_aload_n (q := 75) dX2_answerOf_74 rfl rfl rfl ?_
    refine ae_getI (q := 78) dX2_answerOf_75 fl_X2_222 rfl (h.s lp1 tp1) (h.l lp1) rfl ?_
    obtain ⟨x10, e10, u10, v10⟩ := rdi (h.i lp1 tp1 (k := 0) (p := (0, 47)) rfl)
    refine ae_eqi e10 ?_
    refine ae_iald (q := 79) dX2_answerOf_78 (h.s l9 t9) (h.l l9) (vin (by omega) (by omega)) rfl ?_
    obtain ⟨x11, e11⟩ : ∃ x, am_gi H b9 x10.toNatClampNeg = x := ⟨_, rfl⟩
    refine ae_eqi e11 ?_
    refine ae_iret dX2_answerOf_79 rfl rfl ?_
    exact ⟨⟨_, rfl⟩, rfl⟩
  · have j1 : a2 = 6 := Int32.toInt_inj.mp (by rw [c1]; decide)
    refine ae_tableOut (q := 80) dX2_answerOf_1 (by rw [j1]; decide) (by decide) ?_
    refine ae_aload_n (q := 81) dX2_answerOf_80 rfl rfl rfl ?_
    obtain ⟨b12, r12, l12, t12⟩ := h.r lp0 tp0 (k := 4) (T' := 10) rfl (by decide)
    refine ae_getR (q := 84) dX2_answerOf_81 fl_X2_33 rfl (h.s lp0 tp0) (h.l lp0) r12 rfl ?_
    refine ae_iconst (v := 1) (q := 85) dX2_answerOf_84 (by decide) rfl ?_
    obtain ⟨b13, r13, l13, t13⟩ := h.r l12 t12 (k := (1 : Int32).toNatClampNeg) (T' := 11) rfl (by decide)
    refine ae_aald (q := 86) dX2_answerOf_85 (show am_sh H b12 = (103 + 1, 2) from h.s l12 t12) (show am_kinds[4]? = some (103 + 1, .object RX1) from rfl) (h.l l12) (by unfold vp_in; decide) r13 rfl ?_
    obtain ⟨b14, r14, l14, t14⟩ := h.r l13 t13 (k := 1) (T' := 12) rfl (by decide)
    refine ae_getR (q := 89) dX2_answerOf_86 fl_X2_238 rfl (h.s l13 t13) (h.l l13) r14 rfl ?_
    refine ae_aload_n (q := 90) dX2_answerOf_89 rfl rfl rfl ?_
    refine ae_getI (q := 93) dX2_answerOf_90 fl_X2_222 rfl (h.s lp1 tp1) (h.l lp1) rfl ?_
    obtain ⟨x15, e15, u15, v15⟩ := rdi (h.i lp1 tp1 (k := 0) (p := (0, 47)) rfl)
    refine ae_eqi e15 ?_
    refine ae_iald (q := 94) dX2_answerOf_93 (h.s l14 t14) (h.l l14) (vin (by omega) (by omega)) rfl ?_
    obtain ⟨x16, e16⟩ : ∃ x, am_gi H b14 x15.toNatClampNeg = x := ⟨_, rfl⟩
    refine ae_eqi e16 ?_
    refine ae_iret dX2_answerOf_94 rfl rfl ?_
    exact ⟨⟨_, rfl⟩, rfl⟩
