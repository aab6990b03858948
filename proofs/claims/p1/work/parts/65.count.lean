/-! count: class and reference on fresh objects. -/
def rg (x l g : Int) : Prop := l ≤ x ∧ x ≤ g
def R_count (x k v : Int32) : Prop := rg x.toInt 0 10 ∧ k = 0 ∧ v = 0 ∨ rg x.toInt 20 22 ∧ k = 0 ∧ v = -1 ∨ rg x.toInt 30 32 ∧ k = 0 ∧ v = 0 ∨ rg x.toInt 40 87 ∧ k = 0 ∧ v = -1 ∨ rg x.toInt 100 147 ∧ k = 0 ∧ v = -1 ∨ (¬ rg x.toInt 0 10 ∧ ¬ rg x.toInt 20 22 ∧ ¬ rg x.toInt 30 32 ∧ ¬ rg x.toInt 40 87 ∧ ¬ rg x.toInt 100 147) ∧ k = 1 ∧ v = 0
theorem rg_of {x l g : Int32} {a b : Int} (hl : l.toInt = a) (hg : g.toInt = b) (h : l ≤ x ∧ x ≤ g) : rg x.toInt a b := ⟨by rw [← hl]; exact Int32.le_iff_toInt_le.mp h.1, by rw [← hg]; exact Int32.le_iff_toInt_le.mp h.2⟩
theorem rg_not {x l g : Int32} {a b : Int} (hl : l.toInt = a) (hg : g.toInt = b) (h : ¬ (l ≤ x ∧ x ≤ g)) : ¬ rg x.toInt a b := fun q => h ⟨Int32.le_iff_toInt_le.mpr (by rw [hl]; exact q.1), Int32.le_iff_toInt_le.mpr (by rw [hg]; exact q.2)⟩
theorem wn_sub {x l g : Int32} {a N : Nat} (hl : l.toInt = (a : Int)) (hg : g.toInt = (a : Int) + (N : Int)) (hN : a + N < 2 ^ 31) (h : l ≤ x ∧ x ≤ g) : ∃ b, b < N + 1 ∧ x - l = nI b := by
  have h1 := Int32.le_iff_toInt_le.mp h.1
  have h2 := Int32.le_iff_toInt_le.mp h.2
  rw [hl] at h1
  rw [hg] at h2
  refine ⟨(x.toInt - a).toNat, by omega, ?_⟩
  refine Int32.toInt_inj.mp ?_
  have e1 : (nI (x.toInt - a).toNat).toInt = ((x.toInt - a).toNat : Int) := Int32.toInt_ofNat_of_lt (by omega)
  rw [e1, Int32.toInt_sub, hl]
  have e2 : ((x.toInt - a).toNat : Int) = x.toInt - a := by omega
  rw [e2]
  exact Int.bmod_eq_of_le (by omega) (by omega)
set_option maxRecDepth 100000 in
set_option maxHeartbeats 4000000 in
theorem e_X5_taskAt {ox : List (Nat × (Nat → Int32))} {d : Nat} {H : am_H} {a : Nat} {x : Int32} (hs : am_sh H a = (5, am_Nf 5)) (hb : a < am_nx H) (hz : am_gi H a 1 = 0) : am_D ox d yX5_taskAt mX5_taskAt [.ref a, .int x] H (fun o H1 => o = .inl (some (.int (-1))) ∧ H1 = H) := by
  refine ae_enter rfl rfl rfl rfl (Nat.le_of_ble_eq_true rfl) ?_
  show am_E ox d mX5_taskAt 0 [(0, .ref a), (1, .int x)] [] H _
  refine ae_iload_n (q := 1) dX5_taskAt_0 rfl rfl rfl ?_
  refine ae_if_lt (t := 21) (q := 4) dX5_taskAt_1 (by decide) rfl (fun c1 => ?_) (fun c1 => ?_)
  · refine ae_iconst (v := (-1)) (q := 22) dX5_taskAt_21 (by decide) rfl ?_
    refine ae_iret dX5_taskAt_22 rfl rfl ?_
    exact ⟨rfl, rfl⟩
  · refine ae_iload_n (q := 5) dX5_taskAt_4 rfl rfl rfl ?_
    refine ae_aload_n (q := 6) dX5_taskAt_5 rfl rfl rfl ?_
    refine ae_getI (q := 9) dX5_taskAt_6 fl_X5_19 rfl hs hb rfl ?_
    refine ae_eqi (show am_gi H a 1 = 0 from hz) ?_
    refine ae_icmp_ge (t := 21) (q := 12) dX5_taskAt_9 (by decide) rfl (fun c2 => ?_) (fun c2 => absurd (Int32.not_lt.mp c1) c2)
    refine ae_iconst (v := (-1)) (q := 22) dX5_taskAt_21 (by decide) rfl ?_
    refine ae_iret dX5_taskAt_22 rfl rfl ?_
    exact ⟨rfl, rfl⟩
set_option maxRecDepth 100000 in
set_option maxHeartbeats 4000000 in
theorem e_X2_unfinishedTasks {ox : List (Nat × (Nat → Int32))} {d : Nat} {H : am_H} (h : fz H) : am_D ox d yX2_unfinishedTasks mX2_unfinishedTasks [.ref 26] H (fun o H1 => o = .inl (some (.int 0)) ∧ H1 = H) := by
  refine ae_enter rfl rfl rfl rfl (Nat.le_of_ble_eq_true rfl) ?_
  show am_E ox d mX2_unfinishedTasks 0 [(0, .ref 26)] [] H _
  refine ae_iconst (v := 0) (q := 1) dX2_unfinishedTasks_0 (by decide) rfl ?_
  refine ae_istore_n (lv' := [(1, .int 0), (0, .ref 26)]) (q := 2) dX2_unfinishedTasks_1 rfl (by decide) rfl rfl ?_
  refine ae_iconst (v := 0) (q := 3) dX2_unfinishedTasks_2 (by decide) rfl ?_
  refine ae_istore_n (lv' := [(2, .int 0), (1, .int 0), (0, .ref 26)]) (q := 4) dX2_unfinishedTasks_3 rfl (by decide) rfl rfl ?_
  refine ae_iload_n (q := 5) dX2_unfinishedTasks_4 rfl rfl rfl ?_
  refine ae_aload_n (q := 6) dX2_unfinishedTasks_5 rfl rfl rfl ?_
  refine ae_getI (q := 9) dX2_unfinishedTasks_6 fl_X2_64 rfl h.s26 (h.lt (by decide)) rfl ?_
  refine ae_eqi (show am_gi H 26 2 = 0 from (h.i26 2)) ?_
  refine ae_icmp_ge (t := 34) (q := 12) dX2_unfinishedTasks_9 (by decide) rfl (fun _ => ?_) (fun h => absurd h (by decide))
  refine ae_iload_n (q := 35) dX2_unfinishedTasks_34 rfl rfl rfl ?_
  refine ae_iret dX2_unfinishedTasks_35 rfl rfl ?_
  exact ⟨rfl, rfl⟩
set_option maxRecDepth 100000 in
set_option maxHeartbeats 4000000 in
theorem e_X2_figure {ox : List (Nat × (Nat → Int32))} {d : Nat} {H : am_H} {x : Int32} (h : fz H) : am_D ox (d + 2) yX2_figure mX2_figure [.ref 26, .int x] H (fun o H1 => o = .inl (some (.int 0)) ∧ H1 = H) := by
  refine ae_enter rfl rfl rfl rfl (Nat.le_of_ble_eq_true rfl) ?_
  show am_E ox (d + 2) mX2_figure 0 [(0, .ref 26), (1, .int x)] [] H _
  refine ae_iload_n (q := 1) dX2_figure_0 rfl rfl rfl ?_
  by_cases e0 : x = 0
  · subst e0
    refine ae_tableIn (off := 55) (q := 56) dX2_figure_1 (by decide) (by decide) (by decide) (by decide) ?_
    refine ae_aload_n (q := 57) dX2_figure_56 rfl rfl rfl ?_
    refine ae_getI (q := 60) dX2_figure_57 fl_X2_64 rfl h.s26 (h.lt (by decide)) rfl ?_
    refine ae_eqi (show am_gi H 26 2 = 0 from (h.i26 2)) ?_
    refine ae_iret dX2_figure_60 rfl rfl ?_
    exact ⟨rfl, rfl⟩
  by_cases e1 : x = 1
  · subst e1
    refine ae_tableIn (off := 60) (q := 61) dX2_figure_1 (by decide) (by decide) (by decide) (by decide) ?_
    refine ae_aload_n (q := 62) dX2_figure_61 rfl rfl rfl ?_
    refine ae_callV (ci := 2) (as := []) (b := 26) (st := []) (q := 65) dX2_figure_62 (e_X2_unfinishedTasks h) myX2_unfinishedTasks lk_X2_281 im_X2_unfinishedTasks se_X2_unfinishedTasks rfl (by decide) h.s26 (h.lt (by decide)) rfl rfl (Nat.le_of_ble_eq_true rfl) rfl (fun o H1 h => ⟨_, h.1⟩) (fun v G hv => ?_)
    obtain ⟨hv1, hv2⟩ := hv
    subst hv2
    cases hv1
    refine ⟨Or.inl rfl, ?_⟩
    refine ae_iret dX2_figure_65 rfl rfl ?_
    exact ⟨rfl, rfl⟩
  by_cases e2 : x = 2
  · subst e2
    refine ae_tableIn (off := 65) (q := 66) dX2_figure_1 (by decide) (by decide) (by decide) (by decide) ?_
    refine ae_aload_n (q := 67) dX2_figure_66 rfl rfl rfl ?_
    refine ae_getI (q := 70) dX2_figure_67 fl_X2_70 rfl h.s26 (h.lt (by decide)) rfl ?_
    refine ae_eqi (show am_gi H 26 12 = 0 from (h.i26 12)) ?_
    refine ae_iret dX2_figure_70 rfl rfl ?_
    exact ⟨rfl, rfl⟩
  by_cases e3 : x = 3
  · subst e3
    refine ae_tableIn (off := 70) (q := 71) dX2_figure_1 (by decide) (by decide) (by decide) (by decide) ?_
    refine ae_aload_n (q := 72) dX2_figure_71 rfl rfl rfl ?_
    refine ae_getI (q := 75) dX2_figure_72 fl_X2_73 rfl h.s26 (h.lt (by decide)) rfl ?_
    refine ae_eqi (show am_gi H 26 13 = 0 from (h.i26 13)) ?_
    refine ae_iret dX2_figure_75 rfl rfl ?_
    exact ⟨rfl, rfl⟩
  by_cases e4 : x = 4
  · subst e4
    refine ae_tableIn (off := 75) (q := 76) dX2_figure_1 (by decide) (by decide) (by decide) (by decide) ?_
    refine ae_aload_n (q := 77) dX2_figure_76 rfl rfl rfl ?_
    refine ae_getI (q := 80) dX2_figure_77 fl_X2_76 rfl h.s26 (h.lt (by decide)) rfl ?_
    refine ae_eqi (show am_gi H 26 14 = 0 from (h.i26 14)) ?_
    refine ae_iret dX2_figure_80 rfl rfl ?_
    exact ⟨rfl, rfl⟩
  by_cases e5 : x = 5
  · subst e5
    refine ae_tableIn (off := 80) (q := 81) dX2_figure_1 (by decide) (by decide) (by decide) (by decide) ?_
    refine ae_aload_n (q := 82) dX2_figure_81 rfl rfl rfl ?_
    refine ae_getI (q := 85) dX2_figure_82 fl_X2_67 rfl h.s26 (h.lt (by decide)) rfl ?_
    refine ae_eqi (show am_gi H 26 11 = 0 from (h.i26 11)) ?_
    refine ae_iret dX2_figure_85 rfl rfl ?_
    exact ⟨rfl, rfl⟩
  by_cases e6 : x = 6
  · subst e6
    refine ae_tableIn (off := 85) (q := 86) dX2_figure_1 (by decide) (by decide) (by decide) (by decide) ?_
    refine ae_aload_n (q := 87) dX2_figure_86 rfl rfl rfl ?_
    refine ae_getR (q := 90) dX2_figure_87 fl_X2_18 rfl h.s26 (h.lt (by decide)) h.r26_3 rfl ?_
    refine ae_getI (q := 93) dX2_figure_90 fl_X2_259 rfl h.s27 (h.lt (by decide)) rfl ?_
    refine ae_eqi (show am_gi H 27 4 = 0 from (h.z27.2 4)) ?_
    refine ae_iret dX2_figure_93 rfl rfl ?_
    exact ⟨rfl, rfl⟩
  by_cases e7 : x = 7
  · subst e7
    refine ae_tableIn (off := 93) (q := 94) dX2_figure_1 (by decide) (by decide) (by decide) (by decide) ?_
    refine ae_aload_n (q := 95) dX2_figure_94 rfl rfl rfl ?_
    refine ae_getR (q := 98) dX2_figure_95 fl_X2_18 rfl h.s26 (h.lt (by decide)) h.r26_3 rfl ?_
    refine ae_getI (q := 101) dX2_figure_98 fl_X2_269 rfl h.s27 (h.lt (by decide)) rfl ?_
    refine ae_eqi (show am_gi H 27 5 = 0 from (h.z27.2 5)) ?_
    refine ae_iret dX2_figure_101 rfl rfl ?_
    exact ⟨rfl, rfl⟩
  by_cases e8 : x = 8
  · subst e8
    refine ae_tableIn (off := 101) (q := 102) dX2_figure_1 (by decide) (by decide) (by decide) (by decide) ?_
    refine ae_aload_n (q := 103) dX2_figure_102 rfl rfl rfl ?_
    refine ae_getR (q := 106) dX2_figure_103 fl_X2_33 rfl h.s26 (h.lt (by decide)) h.r26_4 rfl ?_
    refine ae_iconst (v := 0) (q := 107) dX2_figure_106 (by decide) rfl ?_
    refine ae_aald (q := 108) dX2_figure_107 h.s269 (show am_kinds[4]? = some (103 + 1, .object RX1) from rfl) (h.lt (by decide)) (by unfold vp_in; decide) (h.r269 (t := 0) (by decide)) rfl ?_
    refine ae_getI (q := 111) dX2_figure_108 fl_X2_284 rfl (h.lP (t := 0) (by decide)).1 (h.lt (by decide)) rfl ?_
    refine ae_eqi (show am_gi H 270 0 = 0 from (h.lP (t := 0) (by decide)).2.1) ?_
    refine ae_iret dX2_figure_111 rfl rfl ?_
    exact ⟨rfl, rfl⟩
  by_cases e9 : x = 9
  · subst e9
    refine ae_tableIn (off := 111) (q := 112) dX2_figure_1 (by decide) (by decide) (by decide) (by decide) ?_
    refine ae_aload_n (q := 113) dX2_figure_112 rfl rfl rfl ?_
    refine ae_getR (q := 116) dX2_figure_113 fl_X2_33 rfl h.s26 (h.lt (by decide)) h.r26_4 rfl ?_
    refine ae_iconst (v := 1) (q := 117) dX2_figure_116 (by decide) rfl ?_
    refine ae_aald (q := 118) dX2_figure_117 h.s269 (show am_kinds[4]? = some (103 + 1, .object RX1) from rfl) (h.lt (by decide)) (by unfold vp_in; decide) (h.r269 (t := 1) (by decide)) rfl ?_
    refine ae_getI (q := 121) dX2_figure_118 fl_X2_284 rfl (h.lP (t := 1) (by decide)).1 (h.lt (by decide)) rfl ?_
    refine ae_eqi (show am_gi H 274 0 = 0 from (h.lP (t := 1) (by decide)).2.1) ?_
    refine ae_iret dX2_figure_121 rfl rfl ?_
    exact ⟨rfl, rfl⟩
  have hout : x.toInt < 0 ∨ 9 < x.toInt := by
    by_cases h1 : x.toInt < 0
    · exact Or.inl h1
    · refine Or.inr (Classical.byContradiction fun h2 => ?_)
      have f0 : x.toInt ≠ 0 := fun q => e0 (Int32.toInt_inj.mp (q.trans (by decide)))
      have f1 : x.toInt ≠ 1 := fun q => e1 (Int32.toInt_inj.mp (q.trans (by decide)))
      have f2 : x.toInt ≠ 2 := fun q => e2 (Int32.toInt_inj.mp (q.trans (by decide)))
      have f3 : x.toInt ≠ 3 := fun q => e3 (Int32.toInt_inj.mp (q.trans (by decide)))
      have f4 : x.toInt ≠ 4 := fun q => e4 (Int32.toInt_inj.mp (q.trans (by decide)))
      have f5 : x.toInt ≠ 5 := fun q => e5 (Int32.toInt_inj.mp (q.trans (by decide)))
      have f6 : x.toInt ≠ 6 := fun q => e6 (Int32.toInt_inj.mp (q.trans (by decide)))
      have f7 : x.toInt ≠ 7 := fun q => e7 (Int32.toInt_inj.mp (q.trans (by decide)))
      have f8 : x.toInt ≠ 8 := fun q => e8 (Int32.toInt_inj.mp (q.trans (by decide)))
      have f9 : x.toInt ≠ 9 := fun q => e9 (Int32.toInt_inj.mp (q.trans (by decide)))
      omega
  refine ae_tableOut (q := 122) dX2_figure_1 hout (by decide) ?_
  refine ae_aload_n (q := 123) dX2_figure_122 rfl rfl rfl ?_
  refine ae_callV (ci := 2) (as := []) (b := 26) (st := []) (q := 126) dX2_figure_123 (e_X2_isOver (d := d) h) myX2_isOver lk_X2_107 im_X2_isOver se_X2_isOver rfl (by decide) h.s26 (h.lt (by decide)) rfl rfl (Nat.le_of_ble_eq_true rfl) rfl (fun o H1 h => ⟨_, h.1⟩) (fun v G hv => ?_)
  obtain ⟨hv1, hv2⟩ := hv
  subst hv2
  cases hv1
  refine ⟨Or.inl rfl, ?_⟩
  refine ae_if_eq (t := 133) (q := 129) dX2_figure_126 (by decide) rfl (fun _ => ?_) (fun h => absurd h (by decide))
  refine ae_iconst (v := 0) (q := 134) dX2_figure_133 (by decide) rfl ?_
  refine ae_iret dX2_figure_134 rfl rfl ?_
  exact ⟨rfl, rfl⟩
set_option maxRecDepth 100000 in
set_option maxHeartbeats 4000000 in
theorem e_X6_count {ox : List (Nat × (Nat → Int32))} {d : Nat} {H : am_H} {x0 : Int32} (h : fz H) : am_DB 1 ox (d + 6) yX6_count mX6_count [.ref 0, .int x0] H (fun o H1 => (∃ k v, R_count x0 k v ∧ (k = 0 ∧ o = .inl (some (.int v)) ∨ k = 1 ∧ v = 0 ∧ o = .inr "java/lang/IllegalArgumentException")) ∧ pz H H1) := by
  refine ae_enter rfl rfl rfl rfl (Nat.le_of_ble_eq_true rfl) ?_
  show am_EB 1 ox (d + 6) mX6_count 0 [(0, .ref 0), (1, .int x0)] [] H _
  refine ae_iload_n (q := 1) dX6_count_0 rfl rfl rfl ?_
  refine ae_iconst (v := 0) (q := 2) dX6_count_1 (by decide) rfl ?_
  refine ae_bipush (v := 10) (q := 4) dX6_count_2 (by decide) rfl ?_
  refine ae_wX6 (q := 7) dX6_count_4 lk_X6_25 (Nat.le_of_ble_eq_true rfl) rfl (fun w4 => ?_) (fun w4 => ?_)
  · have g4 := rg_of (a := 0) (b := 10) (by decide) (by decide) w4
    refine ae_if_eq (t := 19) (q := 10) dX6_count_7 (by decide) rfl (fun h => absurd h (by decide)) (fun _ => ?_)
    refine ae_aload_n (q := 11) dX6_count_10 rfl rfl rfl ?_
    refine ae_getR (q := 14) dX6_count_11 fl_X6_21 rfl h.s0 (h.lt (by decide)) h.r01 rfl ?_
    refine ae_iload_n (q := 15) dX6_count_14 rfl rfl rfl ?_
    refine ae_callV (ci := 2) (as := [.int x0]) (b := 26) (st := []) (q := 18) dX6_count_15 (e_X2_figure (d := d + 3) h) myX2_figure lk_X6_154 im_X2_figure se_X2_figure rfl (by decide) h.s26 (h.lt (by decide)) rfl rfl (Nat.le_of_ble_eq_true rfl) rfl (fun o H1 h => ⟨_, h.1⟩) (fun v G hv => ?_)
    obtain ⟨hv1, hv2⟩ := hv
    subst hv2
    cases hv1
    refine ⟨Or.inl rfl, ?_⟩
    refine ae_iret dX6_count_18 rfl rfl ?_
    exact ⟨⟨0, 0, Or.inl ⟨g4, rfl, rfl⟩, Or.inl ⟨rfl, rfl⟩⟩, pz.rf⟩
  · have g4 := rg_not (a := 0) (b := 10) (by decide) (by decide) w4
    refine ae_if_eq (t := 19) (q := 10) dX6_count_7 (by decide) rfl (fun _ => ?_) (fun h => absurd h (by decide))
    refine ae_iload_n (q := 20) dX6_count_19 rfl rfl rfl ?_
    refine ae_bipush (v := 20) (q := 22) dX6_count_20 (by decide) rfl ?_
    refine ae_bipush (v := 22) (q := 24) dX6_count_22 (by decide) rfl ?_
    refine ae_wX6 (q := 27) dX6_count_24 lk_X6_25 (Nat.le_of_ble_eq_true rfl) rfl (fun w24 => ?_) (fun w24 => ?_)
    · have g24 := rg_of (a := 20) (b := 22) (by decide) (by decide) w24
      obtain ⟨b, hb, eb⟩ := wn_sub (a := 20) (N := 2) (by decide) (by decide) (by decide) w24
      refine ae_if_eq (t := 46) (q := 30) dX6_count_27 (by decide) rfl (fun h => absurd h (by decide)) (fun _ => ?_)
      refine ae_aload_n (q := 31) dX6_count_30 rfl rfl rfl ?_
      refine ae_getR (q := 34) dX6_count_31 fl_X6_21 rfl h.s0 (h.lt (by decide)) h.r01 rfl ?_
      refine ae_getR (q := 37) dX6_count_34 fl_X6_158 rfl h.s26 (h.lt (by decide)) h.r26_5 rfl ?_
      refine ae_iload_n (q := 38) dX6_count_37 rfl rfl rfl ?_
      refine ae_bipush (v := 20) (q := 40) dX6_count_38 (by decide) rfl ?_
      refine ae_isub (q := 41) dX6_count_40 rfl ?_
      refine ae_aald (q := 42) dX6_count_41 h.s278 (show am_kinds[7]? = some (103 + 5, .object RX5) from rfl) (h.lt (by decide)) (by rw [eb]; exact vp_in_nI hb (by decide)) (by rw [eb, nI_clamp (show b < 2 ^ 31 by omega)]; exact h.r278 hb) rfl ?_
      refine ae_getI (q := 45) dX6_count_42 fl_X6_162 rfl (h.lW hb).1 (h.lt (by omega)) rfl ?_
      refine ae_eqi (show am_gi H (279 + 2 * b) 2 = (-1) from (h.lW hb).2.2.2.1) ?_
      refine ae_iret dX6_count_45 rfl rfl ?_
      exact ⟨⟨0, (-1), Or.inr (Or.inl ⟨g24, rfl, rfl⟩), Or.inl ⟨rfl, rfl⟩⟩, pz.rf⟩
    · have g24 := rg_not (a := 20) (b := 22) (by decide) (by decide) w24
      refine ae_if_eq (t := 46) (q := 30) dX6_count_27 (by decide) rfl (fun _ => ?_) (fun h => absurd h (by decide))
      refine ae_iload_n (q := 47) dX6_count_46 rfl rfl rfl ?_
      refine ae_bipush (v := 30) (q := 49) dX6_count_47 (by decide) rfl ?_
      refine ae_bipush (v := 32) (q := 51) dX6_count_49 (by decide) rfl ?_
      refine ae_wX6 (q := 54) dX6_count_51 lk_X6_25 (Nat.le_of_ble_eq_true rfl) rfl (fun w51 => ?_) (fun w51 => ?_)
      · have g51 := rg_of (a := 30) (b := 32) (by decide) (by decide) w51
        obtain ⟨b, hb, eb⟩ := wn_sub (a := 30) (N := 2) (by decide) (by decide) (by decide) w51
        refine ae_if_eq (t := 73) (q := 57) dX6_count_54 (by decide) rfl (fun h => absurd h (by decide)) (fun _ => ?_)
        refine ae_aload_n (q := 58) dX6_count_57 rfl rfl rfl ?_
        refine ae_getR (q := 61) dX6_count_58 fl_X6_21 rfl h.s0 (h.lt (by decide)) h.r01 rfl ?_
        refine ae_getR (q := 64) dX6_count_61 fl_X6_158 rfl h.s26 (h.lt (by decide)) h.r26_5 rfl ?_
        refine ae_iload_n (q := 65) dX6_count_64 rfl rfl rfl ?_
        refine ae_bipush (v := 30) (q := 67) dX6_count_65 (by decide) rfl ?_
        refine ae_isub (q := 68) dX6_count_67 rfl ?_
        refine ae_aald (q := 69) dX6_count_68 h.s278 (show am_kinds[7]? = some (103 + 5, .object RX5) from rfl) (h.lt (by decide)) (by rw [eb]; exact vp_in_nI hb (by decide)) (by rw [eb, nI_clamp (show b < 2 ^ 31 by omega)]; exact h.r278 hb) rfl ?_
        refine ae_getI (q := 72) dX6_count_69 fl_X6_167 rfl (h.lW hb).1 (h.lt (by omega)) rfl ?_
        refine ae_eqi (show am_gi H (279 + 2 * b) 1 = 0 from (h.lW hb).2.2.1) ?_
        refine ae_iret dX6_count_72 rfl rfl ?_
        exact ⟨⟨0, 0, Or.inr (Or.inr (Or.inl ⟨g51, rfl, rfl⟩)), Or.inl ⟨rfl, rfl⟩⟩, pz.rf⟩
      · have g51 := rg_not (a := 30) (b := 32) (by decide) (by decide) w51
        refine ae_if_eq (t := 73) (q := 57) dX6_count_54 (by decide) rfl (fun _ => ?_) (fun h => absurd h (by decide))
        refine ae_iload_n (q := 74) dX6_count_73 rfl rfl rfl ?_
        refine ae_bipush (v := 40) (q := 76) dX6_count_74 (by decide) rfl ?_
        refine ae_bipush (v := 87) (q := 78) dX6_count_76 (by decide) rfl ?_
        refine ae_wX6 (q := 81) dX6_count_78 lk_X6_25 (Nat.le_of_ble_eq_true rfl) rfl (fun w78 => ?_) (fun w78 => ?_)
        · have g78 := rg_of (a := 40) (b := 87) (by decide) (by decide) w78
          refine ae_if_eq (t := 101) (q := 84) dX6_count_81 (by decide) rfl (fun h => absurd h (by decide)) (fun _ => ?_)
          refine ae_aload_n (q := 85) dX6_count_84 rfl rfl rfl ?_
          refine ae_getR (q := 88) dX6_count_85 fl_X6_21 rfl h.s0 (h.lt (by decide)) h.r01 rfl ?_
          refine ae_getR (q := 91) dX6_count_88 fl_X6_158 rfl h.s26 (h.lt (by decide)) h.r26_5 rfl ?_
          refine ae_iconst (v := 0) (q := 92) dX6_count_91 (by decide) rfl ?_
          refine ae_aald (q := 93) dX6_count_92 h.s278 (show am_kinds[7]? = some (103 + 5, .object RX5) from rfl) (h.lt (by decide)) (by unfold vp_in; decide) (h.r278 (t := 0) (by decide)) rfl ?_
          refine ae_iload_n (q := 94) dX6_count_93 rfl rfl rfl ?_
          refine ae_bipush (v := 40) (q := 96) dX6_count_94 (by decide) rfl ?_
          refine ae_isub (q := 97) dX6_count_96 rfl ?_
          refine ae_callV (ci := 5) (as := [.int (x0 - 40)]) (b := 279) (st := []) (q := 100) dX6_count_97 (e_X5_taskAt (h.lW (t := 0) (by decide)).1 (h.lt (by decide)) (h.lW (t := 0) (by decide)).2.2.1) myX5_taskAt lk_X6_168 im_X5_taskAt se_X5_taskAt rfl (by decide) (h.lW (t := 0) (by decide)).1 (h.lt (by decide)) rfl rfl (Nat.le_of_ble_eq_true rfl) rfl (fun o H1 h => ⟨_, h.1⟩) (fun v G hv => ?_)
          obtain ⟨hv1, hv2⟩ := hv
          subst hv2
          cases hv1
          refine ⟨Or.inl rfl, ?_⟩
          refine ae_iret dX6_count_100 rfl rfl ?_
          exact ⟨⟨0, (-1), Or.inr (Or.inr (Or.inr (Or.inl ⟨g78, rfl, rfl⟩))), Or.inl ⟨rfl, rfl⟩⟩, pz.rf⟩
        · have g78 := rg_not (a := 40) (b := 87) (by decide) (by decide) w78
          refine ae_if_eq (t := 101) (q := 84) dX6_count_81 (by decide) rfl (fun _ => ?_) (fun h => absurd h (by decide))
          refine ae_iload_n (q := 102) dX6_count_101 rfl rfl rfl ?_
          refine ae_bipush (v := 100) (q := 104) dX6_count_102 (by decide) rfl ?_
          refine ae_sipush (v := 147) (q := 107) dX6_count_104 (by decide) rfl ?_
          refine ae_wX6 (q := 110) dX6_count_107 lk_X6_25 (Nat.le_of_ble_eq_true rfl) rfl (fun w107 => ?_) (fun w107 => ?_)
          · have g107 := rg_of (a := 100) (b := 147) (by decide) (by decide) w107
            refine ae_if_eq (t := 130) (q := 113) dX6_count_110 (by decide) rfl (fun h => absurd h (by decide)) (fun _ => ?_)
            refine ae_aload_n (q := 114) dX6_count_113 rfl rfl rfl ?_
            refine ae_getR (q := 117) dX6_count_114 fl_X6_21 rfl h.s0 (h.lt (by decide)) h.r01 rfl ?_
            refine ae_getR (q := 120) dX6_count_117 fl_X6_158 rfl h.s26 (h.lt (by decide)) h.r26_5 rfl ?_
            refine ae_iconst (v := 1) (q := 121) dX6_count_120 (by decide) rfl ?_
            refine ae_aald (q := 122) dX6_count_121 h.s278 (show am_kinds[7]? = some (103 + 5, .object RX5) from rfl) (h.lt (by decide)) (by unfold vp_in; decide) (h.r278 (t := 1) (by decide)) rfl ?_
            refine ae_iload_n (q := 123) dX6_count_122 rfl rfl rfl ?_
            refine ae_bipush (v := 100) (q := 125) dX6_count_123 (by decide) rfl ?_
            refine ae_isub (q := 126) dX6_count_125 rfl ?_
            refine ae_callV (ci := 5) (as := [.int (x0 - 100)]) (b := 281) (st := []) (q := 129) dX6_count_126 (e_X5_taskAt (h.lW (t := 1) (by decide)).1 (h.lt (by decide)) (h.lW (t := 1) (by decide)).2.2.1) myX5_taskAt lk_X6_168 im_X5_taskAt se_X5_taskAt rfl (by decide) (h.lW (t := 1) (by decide)).1 (h.lt (by decide)) rfl rfl (Nat.le_of_ble_eq_true rfl) rfl (fun o H1 h => ⟨_, h.1⟩) (fun v G hv => ?_)
            obtain ⟨hv1, hv2⟩ := hv
            subst hv2
            cases hv1
            refine ⟨Or.inl rfl, ?_⟩
            refine ae_iret dX6_count_129 rfl rfl ?_
            exact ⟨⟨0, (-1), Or.inr (Or.inr (Or.inr (Or.inr (Or.inl ⟨g107, rfl, rfl⟩)))), Or.inl ⟨rfl, rfl⟩⟩, pz.rf⟩
          · have g107 := rg_not (a := 100) (b := 147) (by decide) (by decide) w107
            refine ae_if_eq (t := 130) (q := 113) dX6_count_110 (by decide) rfl (fun _ => ?_) (fun h => absurd h (by decide))
            refine ae_throw (names := am_exn) (text := "no such count") dX6_count_130 dX6_count_133 dX6_count_134 dX6_count_136 dX6_count_139 (by decide +kernel) am_exf aw_255 aw_12 (by decide +kernel) tw_IAE (by decide) rfl (Nat.le_of_ble_eq_true rfl) (Nat.le_of_ble_eq_true rfl) (by decide) ?_
            exact ⟨⟨1, 0, Or.inr (Or.inr (Or.inr (Or.inr (Or.inr ⟨⟨g4, g24, g51, g78, g107⟩, rfl, rfl⟩)))), Or.inr ⟨rfl, rfl, rfl⟩⟩, pz.ga⟩
