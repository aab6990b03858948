/-! add: class and reference on fresh objects. -/
def ins (op a : Int32) : Prop := (0 ≤ op ∧ op ≤ 16) ∧ am_t1.getD op.toNatClampNeg 0 ≤ a ∧ a ≤ am_t2.getD op.toNatClampNeg 0
def oxt (ox : List (Nat × (Nat → Int32))) : Prop := ox[1]? = some (17, fun k => am_t1.getD k 0) ∧ ox[2]? = some (17, fun k => am_t2.getD k 0)
set_option maxRecDepth 100000 in
set_option maxHeartbeats 4000000 in
theorem e_X6_isInstruction {ox : List (Nat × (Nat → Int32))} {d : Nat} {H : am_H} {op a : Int32} (ho : oxt ox) : am_D ox (d + 1) yX6_isInstruction mX6_isInstruction [.int op, .int a] H (fun o H1 => (ins op a ∧ o = .inl (some (.int 1)) ∨ ¬ ins op a ∧ o = .inl (some (.int 0))) ∧ H1 = H) := by
  refine ae_enter rfl rfl rfl rfl (Nat.le_of_ble_eq_true rfl) ?_
  show am_E ox (d + 1) mX6_isInstruction 0 [(0, .int op), (1, .int a)] [] H _
  refine ae_iload_n (q := 1) dX6_isInstruction_0 rfl rfl rfl ?_
  refine ae_iconst (v := 0) (q := 2) dX6_isInstruction_1 (by decide) rfl ?_
  refine ae_bipush (v := 16) (q := 4) dX6_isInstruction_2 (by decide) rfl ?_
  refine ae_wX6 (q := 7) dX6_isInstruction_4 lk_X6_25 (Nat.le_of_ble_eq_true rfl) rfl (fun c1 => ?_) (fun c1 => ?_)
  · obtain ⟨b, hb, rfl⟩ := wn_of (N := 16) c1 rfl (by decide)
    refine ae_if_eq (t := 31) (q := 10) dX6_isInstruction_7 (by decide) rfl (fun h => absurd h (by decide)) (fun _ => ?_)
    refine ae_iload_n (q := 11) dX6_isInstruction_10 rfl rfl rfl ?_
    refine ae_gets (i := 1) (q := 14) dX6_isInstruction_11 (show ("PhaserYard", "LEAST_A", "[I", 1) ∈ am_sts by decide) aw_336 rfl ?_
    refine ae_iload_n (q := 15) dX6_isInstruction_14 rfl rfl rfl ?_
    refine ae_sld (i := 1) (q := 16) dX6_isInstruction_15 ho.1 (vp_in_nI hb (by decide)) rfl ?_
    refine ae_gets (i := 2) (q := 19) dX6_isInstruction_16 (show ("PhaserYard", "GREATEST_A", "[I", 2) ∈ am_sts by decide) aw_338 rfl ?_
    refine ae_iload_n (q := 20) dX6_isInstruction_19 rfl rfl rfl ?_
    refine ae_sld (i := 2) (q := 21) dX6_isInstruction_20 ho.2 (vp_in_nI hb (by decide)) rfl ?_
    refine ae_wX6 (q := 24) dX6_isInstruction_21 lk_X6_25 (Nat.le_of_ble_eq_true rfl) rfl (fun c2 => ?_) (fun c2 => ?_)
    · refine ae_if_eq (t := 31) (q := 27) dX6_isInstruction_24 (by decide) rfl (fun h => absurd h (by decide)) (fun _ => ?_)
      refine ae_iconst (v := 1) (q := 28) dX6_isInstruction_27 (by decide) rfl ?_
      refine ae_goto (q := 32) dX6_isInstruction_28 (by decide) ?_
      refine ae_iret dX6_isInstruction_32 rfl (by decide) ?_
      exact ⟨Or.inl ⟨⟨c1, c2⟩, rfl⟩, rfl⟩
    · refine ae_if_eq (t := 31) (q := 27) dX6_isInstruction_24 (by decide) rfl (fun _ => ?_) (fun h => absurd h (by decide))
      refine ae_iconst (v := 0) (q := 32) dX6_isInstruction_31 (by decide) rfl ?_
      refine ae_iret dX6_isInstruction_32 rfl (by decide) ?_
      exact ⟨Or.inr ⟨fun q => c2 q.2, rfl⟩, rfl⟩
  · refine ae_if_eq (t := 31) (q := 10) dX6_isInstruction_7 (by decide) rfl (fun _ => ?_) (fun h => absurd h (by decide))
    refine ae_iconst (v := 0) (q := 32) dX6_isInstruction_31 (by decide) rfl ?_
    refine ae_iret dX6_isInstruction_32 rfl (by decide) ?_
    exact ⟨Or.inr ⟨fun q => c1 q.1, rfl⟩, rfl⟩
theorem Int32_min_le (a : Int32) : (-2147483648 : Int32) ≤ a := by
  have h1 := Int32.le_toInt a
  have e : (-2147483648 : Int32).toInt = -2147483648 := by decide
  refine Int32.le_iff_toInt_le.mpr ?_
  rw [e]
  omega
theorem Int32_le_max (a : Int32) : a ≤ (2147483647 : Int32) := by
  have h1 := Int32.toInt_lt a
  have e : (2147483647 : Int32).toInt = 2147483647 := by decide
  refine Int32.le_iff_toInt_le.mpr ?_
  rw [e]
  omega
theorem ins_all (op a : Int32) (h : 0 ≤ op ∧ op ≤ 16) (h1 : am_t1.getD op.toNatClampNeg 0 = -2147483648) (h2 : am_t2.getD op.toNatClampNeg 0 = 2147483647) : ins op a := ⟨h, by rw [h1]; exact Int32_min_le a, by rw [h2]; exact Int32_le_max a⟩
theorem ins_low {op a : Int32} (ho : op.toInt < 2 ∨ 16 < op.toInt) (h : 0 ≤ op ∧ op ≤ 16) : ins op a := by
  have h1 : (0 : Int32).toInt ≤ op.toInt := Int32.le_iff_toInt_le.mp h.1
  have h2 : op.toInt ≤ (16 : Int32).toInt := Int32.le_iff_toInt_le.mp h.2
  have z0 : (0 : Int32).toInt = 0 := by decide
  have z16 : (16 : Int32).toInt = 16 := by decide
  have h3 : op = 0 ∨ op = 1 := by
    by_cases q : op.toInt = 0
    · exact Or.inl (Int32.toInt_inj.mp (q.trans (by decide)))
    · exact Or.inr (Int32.toInt_inj.mp ((show op.toInt = 1 by omega).trans (by decide)))
  rcases h3 with rfl | rfl
  · exact ins_all 0 a (by decide) (by decide) (by decide)
  · exact ins_all 1 a (by decide) (by decide) (by decide)
set_option maxRecDepth 100000 in
set_option maxHeartbeats 4000000 in
theorem e_X7_fits {ox : List (Nat × (Nat → Int32))} {d : Nat} {H : am_H} {op a : Int32} : am_D ox (d + 1) yX7_fits mX7_fits [.int op, .int a] H (fun o H1 => (ins op a ∧ o = .inl (some (.int 1)) ∨ ¬ ins op a ∧ o = .inl (some (.int 0))) ∧ H1 = H) := by
  refine ae_enter rfl rfl rfl rfl (Nat.le_of_ble_eq_true rfl) ?_
  show am_E ox (d + 1) mX7_fits 0 [(0, .int op), (1, .int a)] [] H _
  refine ae_iload_n (q := 1) dX7_fits_0 rfl rfl rfl ?_
  by_cases e2 : op = 2
  · subst e2
    refine ae_tableIn (off := 75) (q := 76) dX7_fits_1 (by decide) (by decide) (by decide) (by decide) ?_
    refine ae_iload_n (q := 77) dX7_fits_76 rfl rfl rfl ?_
    refine ae_iconst (v := 0) (q := 78) dX7_fits_77 (by decide) rfl ?_
    refine ae_bipush (v := 7) (q := 80) dX7_fits_78 (by decide) rfl ?_
    refine ae_wX7 (q := 83) dX7_fits_80 lk_X7_105 (Nat.le_of_ble_eq_true rfl) rfl (fun c => ?_) (fun c => ?_)
    · refine ae_iret dX7_fits_83 rfl (by decide) ?_
      exact ⟨Or.inl ⟨⟨by decide, c⟩, rfl⟩, rfl⟩
    · refine ae_iret dX7_fits_83 rfl (by decide) ?_
      exact ⟨Or.inr ⟨fun q => c q.2, rfl⟩, rfl⟩
  by_cases e3 : op = 3
  · subst e3
    refine ae_tableIn (off := 75) (q := 76) dX7_fits_1 (by decide) (by decide) (by decide) (by decide) ?_
    refine ae_iload_n (q := 77) dX7_fits_76 rfl rfl rfl ?_
    refine ae_iconst (v := 0) (q := 78) dX7_fits_77 (by decide) rfl ?_
    refine ae_bipush (v := 7) (q := 80) dX7_fits_78 (by decide) rfl ?_
    refine ae_wX7 (q := 83) dX7_fits_80 lk_X7_105 (Nat.le_of_ble_eq_true rfl) rfl (fun c => ?_) (fun c => ?_)
    · refine ae_iret dX7_fits_83 rfl (by decide) ?_
      exact ⟨Or.inl ⟨⟨by decide, c⟩, rfl⟩, rfl⟩
    · refine ae_iret dX7_fits_83 rfl (by decide) ?_
      exact ⟨Or.inr ⟨fun q => c q.2, rfl⟩, rfl⟩
  by_cases e4 : op = 4
  · subst e4
    refine ae_tableIn (off := 83) (q := 84) dX7_fits_1 (by decide) (by decide) (by decide) (by decide) ?_
    refine ae_iload_n (q := 85) dX7_fits_84 rfl rfl rfl ?_
    refine ae_iconst (v := 0) (q := 86) dX7_fits_85 (by decide) rfl ?_
    refine ae_bipush (v := 63) (q := 88) dX7_fits_86 (by decide) rfl ?_
    refine ae_wX7 (q := 91) dX7_fits_88 lk_X7_105 (Nat.le_of_ble_eq_true rfl) rfl (fun c => ?_) (fun c => ?_)
    · refine ae_iret dX7_fits_91 rfl (by decide) ?_
      exact ⟨Or.inl ⟨⟨by decide, c⟩, rfl⟩, rfl⟩
    · refine ae_iret dX7_fits_91 rfl (by decide) ?_
      exact ⟨Or.inr ⟨fun q => c q.2, rfl⟩, rfl⟩
  by_cases e5 : op = 5
  · subst e5
    refine ae_tableIn (off := 130) (q := 131) dX7_fits_1 (by decide) (by decide) (by decide) (by decide) ?_
    refine ae_iload_n (q := 132) dX7_fits_131 rfl rfl rfl ?_
    refine ae_iconst (v := 0) (q := 133) dX7_fits_132 (by decide) rfl ?_
    refine ae_bipush (v := 16) (q := 135) dX7_fits_133 (by decide) rfl ?_
    refine ae_wX7 (q := 138) dX7_fits_135 lk_X7_105 (Nat.le_of_ble_eq_true rfl) rfl (fun c => ?_) (fun c => ?_)
    · refine ae_iret dX7_fits_138 rfl (by decide) ?_
      exact ⟨Or.inl ⟨ins_all 5 a (by decide) (by decide) (by decide), rfl⟩, rfl⟩
    · refine ae_iret dX7_fits_138 rfl (by decide) ?_
      exact ⟨Or.inr ⟨fun q => c q.1, rfl⟩, rfl⟩
  by_cases e6 : op = 6
  · subst e6
    refine ae_tableIn (off := 130) (q := 131) dX7_fits_1 (by decide) (by decide) (by decide) (by decide) ?_
    refine ae_iload_n (q := 132) dX7_fits_131 rfl rfl rfl ?_
    refine ae_iconst (v := 0) (q := 133) dX7_fits_132 (by decide) rfl ?_
    refine ae_bipush (v := 16) (q := 135) dX7_fits_133 (by decide) rfl ?_
    refine ae_wX7 (q := 138) dX7_fits_135 lk_X7_105 (Nat.le_of_ble_eq_true rfl) rfl (fun c => ?_) (fun c => ?_)
    · refine ae_iret dX7_fits_138 rfl (by decide) ?_
      exact ⟨Or.inl ⟨ins_all 6 a (by decide) (by decide) (by decide), rfl⟩, rfl⟩
    · refine ae_iret dX7_fits_138 rfl (by decide) ?_
      exact ⟨Or.inr ⟨fun q => c q.1, rfl⟩, rfl⟩
  by_cases e7 : op = 7
  · subst e7
    refine ae_tableIn (off := 91) (q := 92) dX7_fits_1 (by decide) (by decide) (by decide) (by decide) ?_
    refine ae_iload_n (q := 93) dX7_fits_92 rfl rfl rfl ?_
    refine ae_iconst (v := 0) (q := 94) dX7_fits_93 (by decide) rfl ?_
    refine ae_iconst (v := 3) (q := 95) dX7_fits_94 (by decide) rfl ?_
    refine ae_wX7 (q := 98) dX7_fits_95 lk_X7_105 (Nat.le_of_ble_eq_true rfl) rfl (fun c => ?_) (fun c => ?_)
    · refine ae_iret dX7_fits_98 rfl (by decide) ?_
      exact ⟨Or.inl ⟨⟨by decide, c⟩, rfl⟩, rfl⟩
    · refine ae_iret dX7_fits_98 rfl (by decide) ?_
      exact ⟨Or.inr ⟨fun q => c q.2, rfl⟩, rfl⟩
  by_cases e8 : op = 8
  · subst e8
    refine ae_tableIn (off := 91) (q := 92) dX7_fits_1 (by decide) (by decide) (by decide) (by decide) ?_
    refine ae_iload_n (q := 93) dX7_fits_92 rfl rfl rfl ?_
    refine ae_iconst (v := 0) (q := 94) dX7_fits_93 (by decide) rfl ?_
    refine ae_iconst (v := 3) (q := 95) dX7_fits_94 (by decide) rfl ?_
    refine ae_wX7 (q := 98) dX7_fits_95 lk_X7_105 (Nat.le_of_ble_eq_true rfl) rfl (fun c => ?_) (fun c => ?_)
    · refine ae_iret dX7_fits_98 rfl (by decide) ?_
      exact ⟨Or.inl ⟨⟨by decide, c⟩, rfl⟩, rfl⟩
    · refine ae_iret dX7_fits_98 rfl (by decide) ?_
      exact ⟨Or.inr ⟨fun q => c q.2, rfl⟩, rfl⟩
  by_cases e9 : op = 9
  · subst e9
    refine ae_tableIn (off := 98) (q := 99) dX7_fits_1 (by decide) (by decide) (by decide) (by decide) ?_
    refine ae_iload_n (q := 100) dX7_fits_99 rfl rfl rfl ?_
    refine ae_iconst (v := 0) (q := 101) dX7_fits_100 (by decide) rfl ?_
    refine ae_bipush (v := 31) (q := 103) dX7_fits_101 (by decide) rfl ?_
    refine ae_wX7 (q := 106) dX7_fits_103 lk_X7_105 (Nat.le_of_ble_eq_true rfl) rfl (fun c => ?_) (fun c => ?_)
    · refine ae_iret dX7_fits_106 rfl (by decide) ?_
      exact ⟨Or.inl ⟨⟨by decide, c⟩, rfl⟩, rfl⟩
    · refine ae_iret dX7_fits_106 rfl (by decide) ?_
      exact ⟨Or.inr ⟨fun q => c q.2, rfl⟩, rfl⟩
  by_cases e10 : op = 10
  · subst e10
    refine ae_tableIn (off := 75) (q := 76) dX7_fits_1 (by decide) (by decide) (by decide) (by decide) ?_
    refine ae_iload_n (q := 77) dX7_fits_76 rfl rfl rfl ?_
    refine ae_iconst (v := 0) (q := 78) dX7_fits_77 (by decide) rfl ?_
    refine ae_bipush (v := 7) (q := 80) dX7_fits_78 (by decide) rfl ?_
    refine ae_wX7 (q := 83) dX7_fits_80 lk_X7_105 (Nat.le_of_ble_eq_true rfl) rfl (fun c => ?_) (fun c => ?_)
    · refine ae_iret dX7_fits_83 rfl (by decide) ?_
      exact ⟨Or.inl ⟨⟨by decide, c⟩, rfl⟩, rfl⟩
    · refine ae_iret dX7_fits_83 rfl (by decide) ?_
      exact ⟨Or.inr ⟨fun q => c q.2, rfl⟩, rfl⟩
  by_cases e11 : op = 11
  · subst e11
    refine ae_tableIn (off := 106) (q := 107) dX7_fits_1 (by decide) (by decide) (by decide) (by decide) ?_
    refine ae_iload_n (q := 108) dX7_fits_107 rfl rfl rfl ?_
    refine ae_iconst (v := 0) (q := 109) dX7_fits_108 (by decide) rfl ?_
    refine ae_iconst (v := 1) (q := 110) dX7_fits_109 (by decide) rfl ?_
    refine ae_wX7 (q := 113) dX7_fits_110 lk_X7_105 (Nat.le_of_ble_eq_true rfl) rfl (fun c => ?_) (fun c => ?_)
    · refine ae_iret dX7_fits_113 rfl (by decide) ?_
      exact ⟨Or.inl ⟨⟨by decide, c⟩, rfl⟩, rfl⟩
    · refine ae_iret dX7_fits_113 rfl (by decide) ?_
      exact ⟨Or.inr ⟨fun q => c q.2, rfl⟩, rfl⟩
  by_cases e12 : op = 12
  · subst e12
    refine ae_tableIn (off := 130) (q := 131) dX7_fits_1 (by decide) (by decide) (by decide) (by decide) ?_
    refine ae_iload_n (q := 132) dX7_fits_131 rfl rfl rfl ?_
    refine ae_iconst (v := 0) (q := 133) dX7_fits_132 (by decide) rfl ?_
    refine ae_bipush (v := 16) (q := 135) dX7_fits_133 (by decide) rfl ?_
    refine ae_wX7 (q := 138) dX7_fits_135 lk_X7_105 (Nat.le_of_ble_eq_true rfl) rfl (fun c => ?_) (fun c => ?_)
    · refine ae_iret dX7_fits_138 rfl (by decide) ?_
      exact ⟨Or.inl ⟨ins_all 12 a (by decide) (by decide) (by decide), rfl⟩, rfl⟩
    · refine ae_iret dX7_fits_138 rfl (by decide) ?_
      exact ⟨Or.inr ⟨fun q => c q.1, rfl⟩, rfl⟩
  by_cases e13 : op = 13
  · subst e13
    refine ae_tableIn (off := 113) (q := 114) dX7_fits_1 (by decide) (by decide) (by decide) (by decide) ?_
    refine ae_iload_n (q := 115) dX7_fits_114 rfl rfl rfl ?_
    refine ae_bipush (v := 10) (q := 117) dX7_fits_115 (by decide) rfl ?_
    refine ae_bipush (v := 99) (q := 119) dX7_fits_117 (by decide) rfl ?_
    refine ae_wX7 (q := 122) dX7_fits_119 lk_X7_105 (Nat.le_of_ble_eq_true rfl) rfl (fun c => ?_) (fun c => ?_)
    · refine ae_iret dX7_fits_122 rfl (by decide) ?_
      exact ⟨Or.inl ⟨⟨by decide, c⟩, rfl⟩, rfl⟩
    · refine ae_iret dX7_fits_122 rfl (by decide) ?_
      exact ⟨Or.inr ⟨fun q => c q.2, rfl⟩, rfl⟩
  by_cases e14 : op = 14
  · subst e14
    refine ae_tableIn (off := 130) (q := 131) dX7_fits_1 (by decide) (by decide) (by decide) (by decide) ?_
    refine ae_iload_n (q := 132) dX7_fits_131 rfl rfl rfl ?_
    refine ae_iconst (v := 0) (q := 133) dX7_fits_132 (by decide) rfl ?_
    refine ae_bipush (v := 16) (q := 135) dX7_fits_133 (by decide) rfl ?_
    refine ae_wX7 (q := 138) dX7_fits_135 lk_X7_105 (Nat.le_of_ble_eq_true rfl) rfl (fun c => ?_) (fun c => ?_)
    · refine ae_iret dX7_fits_138 rfl (by decide) ?_
      exact ⟨Or.inl ⟨ins_all 14 a (by decide) (by decide) (by decide), rfl⟩, rfl⟩
    · refine ae_iret dX7_fits_138 rfl (by decide) ?_
      exact ⟨Or.inr ⟨fun q => c q.1, rfl⟩, rfl⟩
  by_cases e15 : op = 15
  · subst e15
    refine ae_tableIn (off := 122) (q := 123) dX7_fits_1 (by decide) (by decide) (by decide) (by decide) ?_
    refine ae_iload_n (q := 124) dX7_fits_123 rfl rfl rfl ?_
    refine ae_iconst (v := 0) (q := 125) dX7_fits_124 (by decide) rfl ?_
    refine ae_bipush (v := 15) (q := 127) dX7_fits_125 (by decide) rfl ?_
    refine ae_wX7 (q := 130) dX7_fits_127 lk_X7_105 (Nat.le_of_ble_eq_true rfl) rfl (fun c => ?_) (fun c => ?_)
    · refine ae_iret dX7_fits_130 rfl (by decide) ?_
      exact ⟨Or.inl ⟨⟨by decide, c⟩, rfl⟩, rfl⟩
    · refine ae_iret dX7_fits_130 rfl (by decide) ?_
      exact ⟨Or.inr ⟨fun q => c q.2, rfl⟩, rfl⟩
  by_cases e16 : op = 16
  · subst e16
    refine ae_tableIn (off := 122) (q := 123) dX7_fits_1 (by decide) (by decide) (by decide) (by decide) ?_
    refine ae_iload_n (q := 124) dX7_fits_123 rfl rfl rfl ?_
    refine ae_iconst (v := 0) (q := 125) dX7_fits_124 (by decide) rfl ?_
    refine ae_bipush (v := 15) (q := 127) dX7_fits_125 (by decide) rfl ?_
    refine ae_wX7 (q := 130) dX7_fits_127 lk_X7_105 (Nat.le_of_ble_eq_true rfl) rfl (fun c => ?_) (fun c => ?_)
    · refine ae_iret dX7_fits_130 rfl (by decide) ?_
      exact ⟨Or.inl ⟨⟨by decide, c⟩, rfl⟩, rfl⟩
    · refine ae_iret dX7_fits_130 rfl (by decide) ?_
      exact ⟨Or.inr ⟨fun q => c q.2, rfl⟩, rfl⟩
  have hout : op.toInt < 2 ∨ 16 < op.toInt := by
    by_cases h1 : op.toInt < 2
    · exact Or.inl h1
    · refine Or.inr (Classical.byContradiction fun h2 => ?_)
      have f2 : op.toInt ≠ 2 := fun q => e2 (Int32.toInt_inj.mp (q.trans (by decide)))
      have f3 : op.toInt ≠ 3 := fun q => e3 (Int32.toInt_inj.mp (q.trans (by decide)))
      have f4 : op.toInt ≠ 4 := fun q => e4 (Int32.toInt_inj.mp (q.trans (by decide)))
      have f5 : op.toInt ≠ 5 := fun q => e5 (Int32.toInt_inj.mp (q.trans (by decide)))
      have f6 : op.toInt ≠ 6 := fun q => e6 (Int32.toInt_inj.mp (q.trans (by decide)))
      have f7 : op.toInt ≠ 7 := fun q => e7 (Int32.toInt_inj.mp (q.trans (by decide)))
      have f8 : op.toInt ≠ 8 := fun q => e8 (Int32.toInt_inj.mp (q.trans (by decide)))
      have f9 : op.toInt ≠ 9 := fun q => e9 (Int32.toInt_inj.mp (q.trans (by decide)))
      have f10 : op.toInt ≠ 10 := fun q => e10 (Int32.toInt_inj.mp (q.trans (by decide)))
      have f11 : op.toInt ≠ 11 := fun q => e11 (Int32.toInt_inj.mp (q.trans (by decide)))
      have f12 : op.toInt ≠ 12 := fun q => e12 (Int32.toInt_inj.mp (q.trans (by decide)))
      have f13 : op.toInt ≠ 13 := fun q => e13 (Int32.toInt_inj.mp (q.trans (by decide)))
      have f14 : op.toInt ≠ 14 := fun q => e14 (Int32.toInt_inj.mp (q.trans (by decide)))
      have f15 : op.toInt ≠ 15 := fun q => e15 (Int32.toInt_inj.mp (q.trans (by decide)))
      have f16 : op.toInt ≠ 16 := fun q => e16 (Int32.toInt_inj.mp (q.trans (by decide)))
      omega
  refine ae_tableOut (q := 131) dX7_fits_1 hout (by decide) ?_
  refine ae_iload_n (q := 132) dX7_fits_131 rfl rfl rfl ?_
  refine ae_iconst (v := 0) (q := 133) dX7_fits_132 (by decide) rfl ?_
  refine ae_bipush (v := 16) (q := 135) dX7_fits_133 (by decide) rfl ?_
  refine ae_wX7 (q := 138) dX7_fits_135 lk_X7_105 (Nat.le_of_ble_eq_true rfl) rfl (fun c => ?_) (fun c => ?_)
  · refine ae_iret dX7_fits_138 rfl (by decide) ?_
    exact ⟨Or.inl ⟨ins_low hout c, rfl⟩, rfl⟩
  · refine ae_iret dX7_fits_138 rfl (by decide) ?_
    exact ⟨Or.inr ⟨fun q => c q.1, rfl⟩, rfl⟩
section AMI
variable {c : Nat} {ox : List (Nat × (Nat → Int32))} {d : Nat} {M : am_M} {pc q : Nat} {lv : List (Nat × Value)} {st : List Value} {H : am_H} {P : Option Value ⊕ String → am_H → Prop}
theorem ae_iX6 {idx : Nat} {op a : Int32} (ho : oxt ox) (hd : decode M.2.1 pc = .ok (.invokestatic idx, 3)) (hlk : Cond.methodLink M.1 idx yX6_isInstruction ∈ am_words) (hc8 : (st.map fun v => v.category).sum ≤ 8) (hq : pc + 3 = q) (kt : ins op a → am_EB c ox (d + 2) M q lv (.int 1 :: st) H P) (kf : ¬ ins op a → am_EB c ox (d + 2) M q lv (.int 0 :: st) H P) : am_EB c ox (d + 2) M pc lv (.int a :: .int op :: st) H P := by
  refine ae_callS (as := [.int op, .int a]) hd (e_X6_isInstruction (d := d) ho) myX6_isInstruction hlk sm_X6_isInstruction rfl rfl hc8 hq (fun o H1 h => by rcases h.1 with h | h <;> exact ⟨_, h.2⟩) (fun v G h => ?_)
  obtain ⟨h1, rfl⟩ := h
  refine ⟨Or.inl rfl, ?_⟩
  rcases h1 with ⟨hc, h1⟩ | ⟨hc, h1⟩
  · cases h1; exact kt hc
  · cases h1; exact kf hc
theorem ae_fX7 {idx : Nat} {op a : Int32} (hd : decode M.2.1 pc = .ok (.invokestatic idx, 3)) (hlk : Cond.methodLink M.1 idx yX7_fits ∈ am_words) (hc8 : (st.map fun v => v.category).sum ≤ 8) (hq : pc + 3 = q) (kt : ins op a → am_EB c ox (d + 2) M q lv (.int 1 :: st) H P) (kf : ¬ ins op a → am_EB c ox (d + 2) M q lv (.int 0 :: st) H P) : am_EB c ox (d + 2) M pc lv (.int a :: .int op :: st) H P := by
  refine ae_callS (as := [.int op, .int a]) hd (e_X7_fits (d := d)) myX7_fits hlk sm_X7_fits rfl rfl hc8 hq (fun o H1 h => by rcases h.1 with h | h <;> exact ⟨_, h.2⟩) (fun v G h => ?_)
  obtain ⟨h1, rfl⟩ := h
  refine ⟨Or.inl rfl, ?_⟩
  rcases h1 with ⟨hc, h1⟩ | ⟨hc, h1⟩
  · cases h1; exact kt hc
  · cases h1; exact kf hc
end AMI
theorem ix16 {b : Nat} (hb : b < 8) : (16 * nI b + 0 : Int32) = nI (16 * b) := by
  have h : ∀ i : Fin 8, (16 * nI i.1 + 0 : Int32) = nI (16 * i.1) := by decide
  exact h ⟨b, hb⟩
set_option maxRecDepth 100000 in
set_option maxHeartbeats 4000000 in
theorem e_X0_append {ox : List (Nat × (Nat → Int32))} {d : Nat} {H : am_H} {a p q : Nat} {op x : Int32} (hs : am_sh H a = (0, am_Nf 0)) (hb : a < am_nx H) (hp : am_gr H a 0 = some p) (hq : am_gr H a 1 = some q) (sp : am_sh H p = (100, 16)) (sq : am_sh H q = (100, 16)) (bp : p < am_nx H) (bq : q < am_nx H) (hz : am_gi H a 2 = 0) (hap : a ≠ p) (haq : a ≠ q) : am_D ox d yX0_append mX0_append [.ref a, .int op, .int x] H (fun o H1 => o = .inl none ∧ H1 = am_si (am_si (am_si H p 0 op) q 0 x) a 2 (0 + 1)) := by
  refine ae_enter rfl rfl rfl rfl (Nat.le_of_ble_eq_true rfl) ?_
  show am_E ox d mX0_append 0 [(0, .ref a), (1, .int op), (2, .int x)] [] H _
  refine ae_aload_n (q := 1) dX0_append_0 rfl rfl rfl ?_
  refine ae_getI (q := 4) dX0_append_1 fl_X0_18 rfl hs hb rfl ?_
  refine ae_eqi (show am_gi H a 2 = 0 from hz) ?_
  refine ae_bipush (v := 16) (q := 6) dX0_append_4 (by decide) rfl ?_
  refine ae_icmp_ge (t := 39) (q := 9) dX0_append_6 (by decide) rfl (fun h => absurd h (by decide)) (fun _ => ?_)
  refine ae_aload_n (q := 10) dX0_append_9 rfl rfl rfl ?_
  refine ae_getR (q := 13) dX0_append_10 fl_X0_9 rfl hs hb hp rfl ?_
  refine ae_aload_n (q := 14) dX0_append_13 rfl rfl rfl ?_
  refine ae_getI (q := 17) dX0_append_14 fl_X0_18 rfl hs hb rfl ?_
  refine ae_eqi (show am_gi H a 2 = 0 from hz) ?_
  refine ae_iload_n (q := 18) dX0_append_17 rfl rfl rfl ?_
  refine ae_iast (q := 19) dX0_append_18 sp bp (by unfold vp_in; decide) rfl ?_
  refine ae_eqH (show am_si H p (0 : Int32).toNatClampNeg op = am_si H p 0 op from by rw [show (0 : Int32).toNatClampNeg = 0 from by decide]) ?_
  refine ae_aload_n (q := 20) dX0_append_19 rfl rfl rfl ?_
  refine ae_getR (q := 23) dX0_append_20 fl_X0_15 rfl hs hb hq rfl ?_
  refine ae_aload_n (q := 24) dX0_append_23 rfl rfl rfl ?_
  refine ae_getI (q := 27) dX0_append_24 fl_X0_18 rfl hs hb rfl ?_
  refine ae_eqi (show am_gi (am_si H p 0 op) a 2 = 0 from (gi_si hz (fun z => hap z.1))) ?_
  refine ae_iload_n (q := 28) dX0_append_27 rfl rfl rfl ?_
  refine ae_iast (q := 29) dX0_append_28 sq bq (by unfold vp_in; decide) rfl ?_
  refine ae_eqH (show am_si (am_si H p 0 op) q (0 : Int32).toNatClampNeg x = am_si (am_si H p 0 op) q 0 x from by rw [show (0 : Int32).toNatClampNeg = 0 from by decide]) ?_
  refine ae_aload_n (q := 30) dX0_append_29 rfl rfl rfl ?_
  refine ae_dup (q := 31) dX0_append_30 rfl rfl ?_
  refine ae_getI (q := 34) dX0_append_31 fl_X0_18 rfl hs hb rfl ?_
  refine ae_eqi (show am_gi (am_si (am_si H p 0 op) q 0 x) a 2 = 0 from (gi_si (gi_si hz (fun z => hap z.1)) (fun z => haq z.1))) ?_
  refine ae_iconst (v := 1) (q := 35) dX0_append_34 (by decide) rfl ?_
  refine ae_iadd (q := 36) dX0_append_35 rfl ?_
  refine ae_putI (q := 39) dX0_append_36 fl_X0_18 rfl rfl rfl hs hb rfl ?_
  refine ae_vret dX0_append_39 rfl ?_
  exact ⟨rfl, rfl⟩
set_option maxRecDepth 100000 in
set_option maxHeartbeats 4000000 in
theorem e_X6_add {ox : List (Nat × (Nat → Int32))} {d : Nat} {H : am_H} {x0 x1 x2 : Int32} (ho : oxt ox) (h : fz H) : am_DB 1 ox (d + 6) yX6_add mX6_add [.ref 0, .int x0, .int x1, .int x2] H (fun o H1 => (((0 ≤ x0 ∧ x0 ≤ 7) ∧ ins x1 x2) ∧ o = .inl (some (.int 1)) ∨ ¬ ((0 ≤ x0 ∧ x0 ≤ 7) ∧ ins x1 x2) ∧ o = .inr "java/lang/IllegalArgumentException") ∧ pz H H1) := by
  refine ae_enter rfl rfl rfl rfl (Nat.le_of_ble_eq_true rfl) ?_
  show am_EB 1 ox (d + 6) mX6_add 0 [(0, .ref 0), (1, .int x0), (2, .int x1), (3, .int x2)] [] H _
  refine ae_iload_n (q := 1) dX6_add_0 rfl rfl rfl ?_
  refine ae_iconst (v := 0) (q := 2) dX6_add_1 (by decide) rfl ?_
  refine ae_bipush (v := 7) (q := 4) dX6_add_2 (by decide) rfl ?_
  refine ae_wX6 (q := 7) dX6_add_4 lk_X6_25 (Nat.le_of_ble_eq_true rfl) rfl (fun c1 => ?_) (fun c1 => ?_)
  · obtain ⟨b, hb, rfl⟩ := wn_of (N := 7) c1 rfl (by decide)
    refine ae_if_eq (t := 18) (q := 10) dX6_add_7 (by decide) rfl (fun h => absurd h (by decide)) (fun _ => ?_)
    refine ae_iload_n (q := 11) dX6_add_10 rfl rfl rfl ?_
    refine ae_iload_n (q := 12) dX6_add_11 rfl rfl rfl ?_
    refine ae_iX6 ho (q := 15) dX6_add_12 lk_X6_40 (Nat.le_of_ble_eq_true rfl) rfl (fun c2 => ?_) (fun c2 => ?_)
    · refine ae_if_ne (t := 28) (q := 18) dX6_add_15 (by decide) rfl (fun _ => ?_) (fun h => absurd h (by decide))
      refine ae_aload_n (q := 29) dX6_add_28 rfl rfl rfl ?_
      refine ae_getR (q := 32) dX6_add_29 fl_X6_11 rfl h.s0 (h.lt (by decide)) h.r00 rfl ?_
      refine ae_iload_n (q := 33) dX6_add_32 rfl rfl rfl ?_
      refine ae_aald (q := 34) dX6_add_33 h.s1 (show am_kinds[3]? = some (103 + 0, .object RX0) from rfl) (h.lt (by decide)) (vp_in_nI hb (by decide)) (by rw [nI_clamp (show b < 2 ^ 31 by omega)]; exact h.r1 hb) rfl ?_
      refine ae_getI (q := 37) dX6_add_34 fl_X6_36 rfl (h.lb hb).1 (h.lt (by omega)) rfl ?_
      refine ae_eqi (show am_gi H (2 + 3 * b) 2 = 0 from (h.lb hb).2.2.2.1) ?_
      refine ae_bipush (v := 16) (q := 39) dX6_add_37 (by decide) rfl ?_
      refine ae_icmp_lt (t := 52) (q := 42) dX6_add_39 (by decide) rfl (fun _ => ?_) (fun h => absurd h (by decide))
      refine ae_aload_n (q := 53) dX6_add_52 rfl rfl rfl ?_
      refine ae_getR (q := 56) dX6_add_53 fl_X6_11 rfl h.s0 (h.lt (by decide)) h.r00 rfl ?_
      refine ae_iload_n (q := 57) dX6_add_56 rfl rfl rfl ?_
      refine ae_aald (q := 58) dX6_add_57 h.s1 (show am_kinds[3]? = some (103 + 0, .object RX0) from rfl) (h.lt (by decide)) (vp_in_nI hb (by decide)) (by rw [nI_clamp (show b < 2 ^ 31 by omega)]; exact h.r1 hb) rfl ?_
      refine ae_iload_n (q := 59) dX6_add_58 rfl rfl rfl ?_
      refine ae_iload_n (q := 60) dX6_add_59 rfl rfl rfl ?_
      obtain ⟨l1, l2, l3, l4, l5, l6, -⟩ := h.lb hb
      refine ae_callV (ci := 0) (as := [.int x1, .int x2]) (b := 2 + 3 * b) (st := []) (q := 63) dX6_add_60 (e_X0_append l1 (h.lt (by omega)) l2 l3 l5 l6 (h.lt (by omega)) (h.lt (by omega)) l4 (by omega) (by omega)) myX0_append lk_X6_51 im_X0_append se_X0_append rfl (by decide) l1 (h.lt (by omega)) rfl rfl (Nat.le_of_ble_eq_true rfl) rfl (fun o H1 h => ⟨_, h.1⟩) (fun v G hv => ?_)
      obtain ⟨hv1, hv2⟩ := hv
      subst hv2
      cases hv1
      refine ⟨Or.inl rfl, ?_⟩
      refine ae_aload_n (q := 64) dX6_add_63 rfl rfl rfl ?_
      refine ae_getR (q := 67) dX6_add_64 fl_X6_11 rfl h.s0 (h.lt (by decide)) h.r00 rfl ?_
      refine ae_iload_n (q := 68) dX6_add_67 rfl rfl rfl ?_
      refine ae_aald (q := 69) dX6_add_68 h.s1 (show am_kinds[3]? = some (103 + 0, .object RX0) from rfl) (h.lt (by decide)) (vp_in_nI hb (by decide)) (by rw [nI_clamp (show b < 2 ^ 31 by omega)]; exact h.r1 hb) rfl ?_
      refine ae_getI (q := 72) dX6_add_69 fl_X6_36 rfl (h.lb hb).1 (h.lt (by omega)) rfl ?_
      refine ae_eqi (show am_gi (am_si (am_si (am_si H (3 + 3 * b) 0 x1) (4 + 3 * b) 0 x2) (2 + 3 * b) 2 (0 + 1)) (2 + 3 * b) 2 = 0 + 1 from gi_set) ?_
      refine ae_iret dX6_add_72 rfl rfl ?_
      exact ⟨Or.inl ⟨⟨c1, c2⟩, congrArg (fun z => Sum.inl (some (Value.int z))) (show (0 + 1 : Int32) = 1 by decide)⟩, ((pz.rf.si (by omega)).si (by omega)).si (by omega)⟩
    · refine ae_if_ne (t := 28) (q := 18) dX6_add_15 (by decide) rfl (fun h => absurd h (by decide)) (fun _ => ?_)
      refine ae_throw (names := am_exn) (text := "no such body or instruction") dX6_add_18 dX6_add_21 dX6_add_22 dX6_add_24 dX6_add_27 (by decide +kernel) am_exf aw_255 aw_12 (by decide +kernel) tw_IAE (by decide) rfl (Nat.le_of_ble_eq_true rfl) (Nat.le_of_ble_eq_true rfl) (by decide) ?_
      exact ⟨Or.inr ⟨fun z => c2 z.2, rfl⟩, pz.ga⟩
  · refine ae_if_eq (t := 18) (q := 10) dX6_add_7 (by decide) rfl (fun _ => ?_) (fun h => absurd h (by decide))
    refine ae_throw (names := am_exn) (text := "no such body or instruction") dX6_add_18 dX6_add_21 dX6_add_22 dX6_add_24 dX6_add_27 (by decide +kernel) am_exf aw_255 aw_12 (by decide +kernel) tw_IAE (by decide) rfl (Nat.le_of_ble_eq_true rfl) (Nat.le_of_ble_eq_true rfl) (by decide) ?_
    exact ⟨Or.inr ⟨fun z => c1 z.1, rfl⟩, pz.ga⟩
set_option maxRecDepth 100000 in
set_option maxHeartbeats 4000000 in
theorem e_X7_add {ox : List (Nat × (Nat → Int32))} {d : Nat} {H : am_H} {x0 x1 x2 : Int32} (h : mz H) : am_D ox (d + 2) yX7_add mX7_add [.ref 288, .int x0, .int x1, .int x2] H (fun o H1 => ((0 ≤ x0 ∧ x0 ≤ 7) ∧ ins x1 x2) ∧ mr 0 1 H o H1 ∨ ¬ ((0 ≤ x0 ∧ x0 ≤ 7) ∧ ins x1 x2) ∧ mr 1 0 H o H1) := by
  refine ae_enter rfl rfl rfl rfl (Nat.le_of_ble_eq_true rfl) ?_
  show am_E ox (d + 2) mX7_add 0 [(0, .ref 288), (1, .int x0), (2, .int x1), (3, .int x2)] [] H _
  refine ae_iload_n (q := 1) dX7_add_0 rfl rfl rfl ?_
  refine ae_iconst (v := 0) (q := 2) dX7_add_1 (by decide) rfl ?_
  refine ae_bipush (v := 7) (q := 4) dX7_add_2 (by decide) rfl ?_
  refine ae_wX7 (q := 7) dX7_add_4 lk_X7_105 (Nat.le_of_ble_eq_true rfl) rfl (fun c1 => ?_) (fun c1 => ?_)
  · obtain ⟨b, hb, rfl⟩ := wn_of (N := 7) c1 rfl (by decide)
    refine ae_if_eq (t := 18) (q := 10) dX7_add_7 (by decide) rfl (fun h => absurd h (by decide)) (fun _ => ?_)
    refine ae_iload_n (q := 11) dX7_add_10 rfl rfl rfl ?_
    refine ae_iload_n (q := 12) dX7_add_11 rfl rfl rfl ?_
    refine ae_fX7 (q := 15) dX7_add_12 lk_X7_113 (Nat.le_of_ble_eq_true rfl) rfl (fun c2 => ?_) (fun c2 => ?_)
    · refine ae_if_ne (t := 24) (q := 18) dX7_add_15 (by decide) rfl (fun _ => ?_) (fun h => absurd h (by decide))
      refine ae_aload_n (q := 25) dX7_add_24 rfl rfl rfl ?_
      refine ae_getR (q := 28) dX7_add_25 fl_X7_7 rfl h.s (h.lt (by decide)) (h.r (i := 0) (by decide)) rfl ?_
      refine ae_iload_n (q := 29) dX7_add_28 rfl rfl rfl ?_
      refine ae_iald (q := 30) dX7_add_29 (show am_sh H 289 = (100, 8) from h.a (i := 0) (by decide)) (h.lt (by decide)) (vp_in_nI hb (by decide)) rfl ?_
      refine ae_eqi (show am_gi H 289 (nI b).toNatClampNeg = am_gi H 289 b from by rw [nI_clamp (show b < 2 ^ 31 by omega)]) ?_
      refine ae_eqi (show am_gi H 289 b = 0 from ((h.z (i := 0) (by decide)).2 b)) ?_
      refine ae_bipush (v := 16) (q := 32) dX7_add_30 (by decide) rfl ?_
      refine ae_icmp_ne (t := 41) (q := 35) dX7_add_32 (by decide) rfl (fun _ => ?_) (fun h => absurd h (by decide))
      refine ae_aload_n (q := 42) dX7_add_41 rfl rfl rfl ?_
      refine ae_iconst (v := 0) (q := 43) dX7_add_42 (by decide) rfl ?_
      refine ae_putI (q := 46) dX7_add_43 fl_X7_101 rfl rfl rfl h.s (h.lt (by decide)) rfl ?_
      refine ae_aload_n (q := 47) dX7_add_46 rfl rfl rfl ?_
      refine ae_getR (q := 50) dX7_add_47 fl_X7_13 rfl h.s (h.lt (by decide)) (h.r (i := 1) (by decide)) rfl ?_
      refine ae_bipush (v := 16) (q := 52) dX7_add_50 (by decide) rfl ?_
      refine ae_iload_n (q := 53) dX7_add_52 rfl rfl rfl ?_
      refine ae_imul (q := 54) dX7_add_53 rfl ?_
      refine ae_aload_n (q := 55) dX7_add_54 rfl rfl rfl ?_
      refine ae_getR (q := 58) dX7_add_55 fl_X7_7 rfl h.s (h.lt (by decide)) (h.r (i := 0) (by decide)) rfl ?_
      refine ae_iload_n (q := 59) dX7_add_58 rfl rfl rfl ?_
      refine ae_iald (q := 60) dX7_add_59 (show am_sh H 289 = (100, 8) from h.a (i := 0) (by decide)) (h.lt (by decide)) (vp_in_nI hb (by decide)) rfl ?_
      refine ae_eqi (show am_gi (am_si H 288 37 0) 289 (nI b).toNatClampNeg = am_gi (am_si H 288 37 0) 289 b from by rw [nI_clamp (show b < 2 ^ 31 by omega)]) ?_
      refine ae_eqi (show am_gi (am_si H 288 37 0) 289 b = 0 from (gi_si ((h.z (i := 0) (by decide)).2 b) (by omega))) ?_
      refine ae_iadd (q := 61) dX7_add_60 rfl ?_
      refine ae_iload_n (q := 62) dX7_add_61 rfl rfl rfl ?_
      refine ae_iast (q := 63) dX7_add_62 (show am_sh H 290 = (100, 128) from h.a (i := 1) (by decide)) (h.lt (by decide)) (by rw [ix16 hb]; exact vp_in_nI (by omega) (by decide)) rfl ?_
      refine ae_eqH (show am_si (am_si H 288 37 0) 290 ((16 * (nI b)) + 0).toNatClampNeg x1 = am_si (am_si H 288 37 0) 290 (16 * b) x1 from by rw [(show (16 * nI b + 0 : Int32).toNatClampNeg = 16 * b from (by rw [ix16 hb]; exact nI_clamp (by omega)))]) ?_
      refine ae_aload_n (q := 64) dX7_add_63 rfl rfl rfl ?_
      refine ae_getR (q := 67) dX7_add_64 fl_X7_16 rfl h.s (h.lt (by decide)) (h.r (i := 2) (by decide)) rfl ?_
      refine ae_bipush (v := 16) (q := 69) dX7_add_67 (by decide) rfl ?_
      refine ae_iload_n (q := 70) dX7_add_69 rfl rfl rfl ?_
      refine ae_imul (q := 71) dX7_add_70 rfl ?_
      refine ae_aload_n (q := 72) dX7_add_71 rfl rfl rfl ?_
      refine ae_getR (q := 75) dX7_add_72 fl_X7_7 rfl h.s (h.lt (by decide)) (h.r (i := 0) (by decide)) rfl ?_
      refine ae_iload_n (q := 76) dX7_add_75 rfl rfl rfl ?_
      refine ae_iald (q := 77) dX7_add_76 (show am_sh H 289 = (100, 8) from h.a (i := 0) (by decide)) (h.lt (by decide)) (vp_in_nI hb (by decide)) rfl ?_
      refine ae_eqi (show am_gi (am_si (am_si H 288 37 0) 290 (16 * b) x1) 289 (nI b).toNatClampNeg = am_gi (am_si (am_si H 288 37 0) 290 (16 * b) x1) 289 b from by rw [nI_clamp (show b < 2 ^ 31 by omega)]) ?_
      refine ae_eqi (show am_gi (am_si (am_si H 288 37 0) 290 (16 * b) x1) 289 b = 0 from (gi_si (gi_si ((h.z (i := 0) (by decide)).2 b) (by omega)) (by omega))) ?_
      refine ae_iadd (q := 78) dX7_add_77 rfl ?_
      refine ae_iload_n (q := 79) dX7_add_78 rfl rfl rfl ?_
      refine ae_iast (q := 80) dX7_add_79 (show am_sh H 291 = (100, 128) from h.a (i := 2) (by decide)) (h.lt (by decide)) (by rw [ix16 hb]; exact vp_in_nI (by omega) (by decide)) rfl ?_
      refine ae_eqH (show am_si (am_si (am_si H 288 37 0) 290 (16 * b) x1) 291 ((16 * (nI b)) + 0).toNatClampNeg x2 = am_si (am_si (am_si H 288 37 0) 290 (16 * b) x1) 291 (16 * b) x2 from by rw [(show (16 * nI b + 0 : Int32).toNatClampNeg = 16 * b from (by rw [ix16 hb]; exact nI_clamp (by omega)))]) ?_
      refine ae_aload_n (q := 81) dX7_add_80 rfl rfl rfl ?_
      refine ae_getR (q := 84) dX7_add_81 fl_X7_7 rfl h.s (h.lt (by decide)) (h.r (i := 0) (by decide)) rfl ?_
      refine ae_iload_n (q := 85) dX7_add_84 rfl rfl rfl ?_
      refine ae_dup2 (q := 86) dX7_add_85 rfl rfl rfl ?_
      refine ae_iald (q := 87) dX7_add_86 (show am_sh H 289 = (100, 8) from h.a (i := 0) (by decide)) (h.lt (by decide)) (vp_in_nI hb (by decide)) rfl ?_
      refine ae_eqi (show am_gi (am_si (am_si (am_si H 288 37 0) 290 (16 * b) x1) 291 (16 * b) x2) 289 (nI b).toNatClampNeg = am_gi (am_si (am_si (am_si H 288 37 0) 290 (16 * b) x1) 291 (16 * b) x2) 289 b from by rw [nI_clamp (show b < 2 ^ 31 by omega)]) ?_
      refine ae_eqi (show am_gi (am_si (am_si (am_si H 288 37 0) 290 (16 * b) x1) 291 (16 * b) x2) 289 b = 0 from (gi_si (gi_si (gi_si ((h.z (i := 0) (by decide)).2 b) (by omega)) (by omega)) (by omega))) ?_
      refine ae_iconst (v := 1) (q := 88) dX7_add_87 (by decide) rfl ?_
      refine ae_iadd (q := 89) dX7_add_88 rfl ?_
      refine ae_iast (q := 90) dX7_add_89 (show am_sh H 289 = (100, 8) from h.a (i := 0) (by decide)) (h.lt (by decide)) (vp_in_nI hb (by decide)) rfl ?_
      refine ae_eqH (show am_si (am_si (am_si (am_si H 288 37 0) 290 (16 * b) x1) 291 (16 * b) x2) 289 (nI b).toNatClampNeg (0 + 1) = am_si (am_si (am_si (am_si H 288 37 0) 290 (16 * b) x1) 291 (16 * b) x2) 289 b (0 + 1) from by rw [nI_clamp (show b < 2 ^ 31 by omega)]) ?_
      refine ae_aload_n (q := 91) dX7_add_90 rfl rfl rfl ?_
      refine ae_getR (q := 94) dX7_add_91 fl_X7_7 rfl h.s (h.lt (by decide)) (h.r (i := 0) (by decide)) rfl ?_
      refine ae_iload_n (q := 95) dX7_add_94 rfl rfl rfl ?_
      refine ae_iald (q := 96) dX7_add_95 (show am_sh H 289 = (100, 8) from h.a (i := 0) (by decide)) (h.lt (by decide)) (vp_in_nI hb (by decide)) rfl ?_
      refine ae_eqi (show am_gi (am_si (am_si (am_si (am_si H 288 37 0) 290 (16 * b) x1) 291 (16 * b) x2) 289 b (0 + 1)) 289 (nI b).toNatClampNeg = am_gi (am_si (am_si (am_si (am_si H 288 37 0) 290 (16 * b) x1) 291 (16 * b) x2) 289 b (0 + 1)) 289 b from by rw [nI_clamp (show b < 2 ^ 31 by omega)]) ?_
      refine ae_eqi (show am_gi (am_si (am_si (am_si (am_si H 288 37 0) 290 (16 * b) x1) 291 (16 * b) x2) 289 b (0 + 1)) 289 b = 0 + 1 from gi_set) ?_
      refine ae_iret dX7_add_96 rfl rfl ?_
      exact Or.inl ⟨⟨c1, c2⟩, ⟨_, rfl, fun _ => by decide⟩, gi_si (gi_si (gi_si gi_set (by omega)) (by omega)) (by omega), rfl, rfl, rfl⟩
    · refine ae_if_ne (t := 24) (q := 18) dX7_add_15 (by decide) rfl (fun h => absurd h (by decide)) (fun _ => ?_)
      refine ae_aload_n (q := 19) dX7_add_18 rfl rfl rfl ?_
      refine ae_iconst (v := 1) (q := 20) dX7_add_19 (by decide) rfl ?_
      refine ae_callV (ci := 7) (as := [.int 1]) (b := 288) (st := []) (q := 23) dX7_add_20 (e_X7_fail h.s (h.lt (by decide))) myX7_fail lk_X7_109 im_X7_fail se_X7_fail rfl (by decide) h.s (h.lt (by decide)) rfl rfl (Nat.le_of_ble_eq_true rfl) rfl (fun o H1 h => ⟨_, h.1⟩) (fun v G hv => ?_)
      obtain ⟨hv1, hv2⟩ := hv
      subst hv2
      cases hv1
      refine ⟨Or.inl rfl, ?_⟩
      refine ae_iret dX7_add_23 rfl rfl ?_
      exact Or.inr ⟨fun z => c2 z.2, ⟨_, rfl, fun q => absurd q (by decide)⟩, gi_set, rfl, rfl, rfl⟩
  · refine ae_if_eq (t := 18) (q := 10) dX7_add_7 (by decide) rfl (fun _ => ?_) (fun h => absurd h (by decide))
    refine ae_aload_n (q := 19) dX7_add_18 rfl rfl rfl ?_
    refine ae_iconst (v := 1) (q := 20) dX7_add_19 (by decide) rfl ?_
    refine ae_callV (ci := 7) (as := [.int 1]) (b := 288) (st := []) (q := 23) dX7_add_20 (e_X7_fail h.s (h.lt (by decide))) myX7_fail lk_X7_109 im_X7_fail se_X7_fail rfl (by decide) h.s (h.lt (by decide)) rfl rfl (Nat.le_of_ble_eq_true rfl) rfl (fun o H1 h => ⟨_, h.1⟩) (fun v G hv => ?_)
    obtain ⟨hv1, hv2⟩ := hv
    subst hv2
    cases hv1
    refine ⟨Or.inl rfl, ?_⟩
    refine ae_iret dX7_add_23 rfl rfl ?_
    exact Or.inr ⟨fun z => c1 z.1, ⟨_, rfl, fun q => absurd q (by decide)⟩, gi_set, rfl, rfl, rfl⟩
