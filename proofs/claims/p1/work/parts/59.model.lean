/-! The reference as its constructor leaves it. -/
def mz (H : am_H) : Prop := 320 ≤ am_nx H ∧ am_sh H 288 = (7, am_Nf 7) ∧ (∀ i, i < 30 → am_gr H 288 i = some (289 + i) ∧ am_sh H (289 + i) = mk_tb7.getD i (0, 0) ∧ am_zr (289 + i) H) ∧ ∀ y, am_gi H 288 y = 0
theorem mz.lt {H : am_H} (h : mz H) {x : Nat} (hx : x < 320) : x < am_nx H := Nat.lt_of_lt_of_le hx h.1
theorem mz.s {H : am_H} (h : mz H) : am_sh H 288 = (7, am_Nf 7) := h.2.1
theorem mz.r {H : am_H} (h : mz H) {i : Nat} (hi : i < 30) : am_gr H 288 i = some (289 + i) := (h.2.2.1 i hi).1
theorem mz.a {H : am_H} (h : mz H) {i : Nat} (hi : i < 30) : am_sh H (289 + i) = mk_tb7.getD i (0, 0) := (h.2.2.1 i hi).2.1
theorem mz.z {H : am_H} (h : mz H) {i : Nat} (hi : i < 30) : am_zr (289 + i) H := (h.2.2.1 i hi).2.2
theorem mz.i {H : am_H} (h : mz H) (y : Nat) : am_gi H 288 y = 0 := h.2.2.2 y
theorem mz.kp {H : am_H} (h : mz H) {G : am_H} (k : am_Kp 288 320 H G) (hn : 320 ≤ am_nx G) : mz G := by
  obtain ⟨a1, a2, a3⟩ := k 288 (by omega) (by omega)
  refine ⟨hn, a1.trans h.s, fun i hi => ⟨by rw [a2]; exact h.r hi, (k (289 + i) (by omega) (by omega)).1.trans (h.a hi), (h.z hi).kp k (by omega) (by omega)⟩, fun y => by rw [a3]; exact h.i y⟩
def qz (H H1 : am_H) : Prop := am_nx H1 = am_nx H ∧ am_sh H1 = am_sh H ∧ am_gl H1 = am_gl H
/-- the reference answers what the document asks, and has kept the number of what it throws -/
def mr (k v : Int32) (H : am_H) (o : Option Value ⊕ String) (H1 : am_H) : Prop := (∃ w, o = .inl (some (.int w)) ∧ (k = 0 → w = v)) ∧ am_gi H1 288 37 = k ∧ qz H H1
set_option maxRecDepth 100000 in
set_option maxHeartbeats 4000000 in
theorem e_X7_body {ox : List (Nat × (Nat → Int32))} {d : Nat} {H : am_H} {x0 : Int32} (h : mz H) : am_D ox (d + 1) yX7_body mX7_body [.ref 288, .int x0] H (fun o H1 => (0 ≤ x0 ∧ x0 ≤ 7) ∧ mr 0 0 H o H1 ∨ ¬ (0 ≤ x0 ∧ x0 ≤ 7) ∧ mr 1 0 H o H1) := by
  refine ae_enter rfl rfl rfl rfl (Nat.le_of_ble_eq_true rfl) ?_
  show am_E ox (d + 1) mX7_body 0 [(0, .ref 288), (1, .int x0)] [] H _
  refine ae_iload_n (q := 1) dX7_body_0 rfl rfl rfl ?_
  refine ae_iconst (v := 0) (q := 2) dX7_body_1 (by decide) rfl ?_
  refine ae_bipush (v := 7) (q := 4) dX7_body_2 (by decide) rfl ?_
  refine ae_wX7 (q := 7) dX7_body_4 lk_X7_105 (Nat.le_of_ble_eq_true rfl) rfl (fun c1 => ?_) (fun c1 => ?_)
  · obtain ⟨b, hb, rfl⟩ := wn_of (N := 7) c1 rfl (by decide)
    refine ae_if_ne (t := 16) (q := 10) dX7_body_7 (by decide) rfl (fun _ => ?_) (fun h => absurd h (by decide))
    refine ae_aload_n (q := 17) dX7_body_16 rfl rfl rfl ?_
    refine ae_iconst (v := 0) (q := 18) dX7_body_17 (by decide) rfl ?_
    refine ae_putI (q := 21) dX7_body_18 fl_X7_101 rfl rfl rfl h.s (h.lt (by decide)) rfl ?_
    refine ae_aload_n (q := 22) dX7_body_21 rfl rfl rfl ?_
    refine ae_getR (q := 25) dX7_body_22 fl_X7_7 rfl h.s (h.lt (by decide)) (h.r (i := 0) (by decide)) rfl ?_
    refine ae_iload_n (q := 26) dX7_body_25 rfl rfl rfl ?_
    refine ae_iald (q := 27) dX7_body_26 (show am_sh H 289 = (100, 8) from h.a (i := 0) (by decide)) (h.lt (by decide)) (vp_in_nI hb (by decide)) rfl ?_
    refine ae_eqi (show am_gi (am_si H 288 37 0) 289 (nI b).toNatClampNeg = am_gi (am_si H 288 37 0) 289 b from by rw [nI_clamp (show b < 2 ^ 31 by omega)]) ?_
    refine ae_istore_n (lv' := [(2, .int (am_gi (am_si H 288 37 0) 289 b)), (0, .ref 288), (1, .int (nI b))]) (q := 28) dX7_body_27 rfl (by decide) rfl rfl ?_
    refine ae_aload_n (q := 29) dX7_body_28 rfl rfl rfl ?_
    refine ae_getR (q := 32) dX7_body_29 fl_X7_7 rfl h.s (h.lt (by decide)) (h.r (i := 0) (by decide)) rfl ?_
    refine ae_iload_n (q := 33) dX7_body_32 rfl rfl rfl ?_
    refine ae_iconst (v := 0) (q := 34) dX7_body_33 (by decide) rfl ?_
    refine ae_iast (q := 35) dX7_body_34 (show am_sh H 289 = (100, 8) from h.a (i := 0) (by decide)) (h.lt (by decide)) (vp_in_nI hb (by decide)) rfl ?_
    refine ae_eqH (show am_si (am_si H 288 37 0) 289 (nI b).toNatClampNeg 0 = am_si (am_si H 288 37 0) 289 b 0 from by rw [nI_clamp (show b < 2 ^ 31 by omega)]) ?_
    refine ae_iload_n (q := 36) dX7_body_35 rfl rfl rfl ?_
    refine ae_iret dX7_body_36 rfl rfl ?_
    exact Or.inl ⟨c1, ⟨_, rfl, fun _ => gi_si ((h.z (i := 0) (by decide)).2 b) (by omega)⟩, gi_si gi_set (by omega), rfl, rfl, rfl⟩
  · refine ae_if_ne (t := 16) (q := 10) dX7_body_7 (by decide) rfl (fun h => absurd h (by decide)) (fun _ => ?_)
    refine ae_aload_n (q := 11) dX7_body_10 rfl rfl rfl ?_
    refine ae_iconst (v := 1) (q := 12) dX7_body_11 (by decide) rfl ?_
    refine ae_callV (ci := 7) (as := [.int 1]) (b := 288) (st := []) (q := 15) dX7_body_12 (e_X7_fail h.s (h.lt (by decide))) myX7_fail lk_X7_109 im_X7_fail se_X7_fail rfl (by decide) h.s (h.lt (by decide)) rfl rfl (Nat.le_of_ble_eq_true rfl) rfl (fun o H1 h => ⟨_, h.1⟩) (fun v G hv => ?_)
    obtain ⟨hv1, hv2⟩ := hv
    subst hv2
    cases hv1
    refine ⟨Or.inl rfl, ?_⟩
    refine ae_iret dX7_body_15 rfl rfl ?_
    exact Or.inr ⟨c1, ⟨_, rfl, fun q => absurd q (by decide)⟩, gi_set, rfl, rfl, rfl⟩
set_option maxRecDepth 100000 in
set_option maxHeartbeats 4000000 in
theorem e_X7_run {ox : List (Nat × (Nat → Int32))} {d : Nat} {H : am_H} {x0 : Int32} (h : mz H) : am_D ox (d + 1) yX7_run mX7_run [.ref 288, .int x0] H (fun o H1 => (0 ≤ x0 ∧ x0 ≤ 200) ∧ mr 2 0 H o H1 ∨ ¬ (0 ≤ x0 ∧ x0 ≤ 200) ∧ mr 1 0 H o H1) := by
  refine ae_enter rfl rfl rfl rfl (Nat.le_of_ble_eq_true rfl) ?_
  show am_E ox (d + 1) mX7_run 0 [(0, .ref 288), (1, .int x0)] [] H _
  refine ae_iload_n (q := 1) dX7_run_0 rfl rfl rfl ?_
  refine ae_iconst (v := 0) (q := 2) dX7_run_1 (by decide) rfl ?_
  refine ae_sipush (v := 200) (q := 5) dX7_run_2 (by decide) rfl ?_
  refine ae_wX7 (q := 8) dX7_run_5 lk_X7_105 (Nat.le_of_ble_eq_true rfl) rfl (fun c1 => ?_) (fun c1 => ?_)
  · refine ae_if_ne (t := 17) (q := 11) dX7_run_8 (by decide) rfl (fun _ => ?_) (fun h => absurd h (by decide))
    refine ae_aload_n (q := 18) dX7_run_17 rfl rfl rfl ?_
    refine ae_getI (q := 21) dX7_run_18 fl_X7_122 rfl h.s (h.lt (by decide)) rfl ?_
    refine ae_if_ne (t := 30) (q := 24) dX7_run_21 (by decide) rfl (fun c2 => absurd (h.i 39) c2) (fun c2 => ?_)
    refine ae_aload_n (q := 25) dX7_run_24 rfl rfl rfl ?_
    refine ae_iconst (v := 2) (q := 26) dX7_run_25 (by decide) rfl ?_
    refine ae_callV (ci := 7) (as := [.int 2]) (b := 288) (st := []) (q := 29) dX7_run_26 (e_X7_fail h.s (h.lt (by decide))) myX7_fail lk_X7_109 im_X7_fail se_X7_fail rfl (by decide) h.s (h.lt (by decide)) rfl rfl (Nat.le_of_ble_eq_true rfl) rfl (fun o H1 h => ⟨_, h.1⟩) (fun v G hv => ?_)
    obtain ⟨hv1, hv2⟩ := hv
    subst hv2
    cases hv1
    refine ⟨Or.inl rfl, ?_⟩
    refine ae_iret dX7_run_29 rfl rfl ?_
    exact Or.inl ⟨c1, ⟨⟨_, rfl, fun q => absurd q (by decide)⟩, gi_set, rfl, rfl, rfl⟩⟩
  · refine ae_if_ne (t := 17) (q := 11) dX7_run_8 (by decide) rfl (fun h => absurd h (by decide)) (fun _ => ?_)
    refine ae_aload_n (q := 12) dX7_run_11 rfl rfl rfl ?_
    refine ae_iconst (v := 1) (q := 13) dX7_run_12 (by decide) rfl ?_
    refine ae_callV (ci := 7) (as := [.int 1]) (b := 288) (st := []) (q := 16) dX7_run_13 (e_X7_fail h.s (h.lt (by decide))) myX7_fail lk_X7_109 im_X7_fail se_X7_fail rfl (by decide) h.s (h.lt (by decide)) rfl rfl (Nat.le_of_ble_eq_true rfl) rfl (fun o H1 h => ⟨_, h.1⟩) (fun v G hv => ?_)
    obtain ⟨hv1, hv2⟩ := hv
    subst hv2
    cases hv1
    refine ⟨Or.inl rfl, ?_⟩
    refine ae_iret dX7_run_16 rfl rfl ?_
    exact Or.inr ⟨c1, ⟨⟨_, rfl, fun q => absurd q (by decide)⟩, gi_set, rfl, rfl, rfl⟩⟩
set_option maxRecDepth 100000 in
set_option maxHeartbeats 4000000 in
theorem e_X7_isOver {ox : List (Nat × (Nat → Int32))} {d : Nat} {H : am_H} (h : mz H) : am_D ox d yX7_isOver mX7_isOver [.ref 288] H (fun o H1 => o = .inl (some (.int 0)) ∧ H1 = H) := by
  refine ae_enter rfl rfl rfl rfl (Nat.le_of_ble_eq_true rfl) ?_
  show am_E ox d mX7_isOver 0 [(0, .ref 288)] [] H _
  refine ae_aload_n (q := 1) dX7_isOver_0 rfl rfl rfl ?_
  refine ae_getI (q := 4) dX7_isOver_1 fl_X7_122 rfl h.s (h.lt (by decide)) rfl ?_
  refine ae_if_eq (t := 22) (q := 7) dX7_isOver_4 (by decide) rfl (fun c1 => ?_) (fun c1 => absurd (h.i 39) c1)
  refine ae_iconst (v := 0) (q := 23) dX7_isOver_22 (by decide) rfl ?_
  refine ae_iret dX7_isOver_23 rfl (by decide) ?_
  exact ⟨rfl, rfl⟩
set_option maxRecDepth 100000 in
set_option maxHeartbeats 4000000 in
theorem e_X7_result {ox : List (Nat × (Nat → Int32))} {d : Nat} {H : am_H} (h : mz H) : am_D ox (d + 1) yX7_result mX7_result [.ref 288] H (fun o H1 => mr 1 0 H o H1) := by
  refine ae_enter rfl rfl rfl rfl (Nat.le_of_ble_eq_true rfl) ?_
  show am_E ox (d + 1) mX7_result 0 [(0, .ref 288)] [] H _
  refine ae_aload_n (q := 1) dX7_result_0 rfl rfl rfl ?_
  refine ae_callV (ci := 7) (as := []) (b := 288) (st := []) (q := 4) dX7_result_1 (e_X7_isOver h) myX7_isOver lk_X7_215 im_X7_isOver se_X7_isOver rfl (by decide) h.s (h.lt (by decide)) rfl rfl (Nat.le_of_ble_eq_true rfl) rfl (fun o H1 h => ⟨_, h.1⟩) (fun v G hv => ?_)
  obtain ⟨hv1, hv2⟩ := hv
  subst hv2
  cases hv1
  refine ⟨Or.inl rfl, ?_⟩
  refine ae_istore_n (lv' := [(1, .int 0), (0, .ref 288)]) (q := 5) dX7_result_4 rfl (by decide) rfl rfl ?_
  refine ae_iload_n (q := 6) dX7_result_5 rfl rfl rfl ?_
  refine ae_if_ne (t := 15) (q := 9) dX7_result_6 (by decide) rfl (fun h => absurd h (by decide)) (fun _ => ?_)
  refine ae_aload_n (q := 10) dX7_result_9 rfl rfl rfl ?_
  refine ae_iconst (v := 1) (q := 11) dX7_result_10 (by decide) rfl ?_
  refine ae_callV (ci := 7) (as := [.int 1]) (b := 288) (st := []) (q := 14) dX7_result_11 (e_X7_fail h.s (h.lt (by decide))) myX7_fail lk_X7_109 im_X7_fail se_X7_fail rfl (by decide) h.s (h.lt (by decide)) rfl rfl (Nat.le_of_ble_eq_true rfl) rfl (fun o H1 h => ⟨_, h.1⟩) (fun v G hv => ?_)
  obtain ⟨hv1, hv2⟩ := hv
  subst hv2
  cases hv1
  refine ⟨Or.inl rfl, ?_⟩
  refine ae_iret dX7_result_14 rfl rfl ?_
  exact ⟨⟨_, rfl, fun q => absurd q (by decide)⟩, gi_set, rfl, rfl, rfl⟩
set_option maxRecDepth 100000 in
set_option maxHeartbeats 4000000 in
theorem e_X7_said {ox : List (Nat × (Nat → Int32))} {d : Nat} {H : am_H} {x0 : Int32} (h : mz H) : am_D ox (d + 1) yX7_said mX7_said [.ref 288, .int x0] H (fun o H1 => mr 1 0 H o H1) := by
  refine ae_enter rfl rfl rfl rfl (Nat.le_of_ble_eq_true rfl) ?_
  show am_E ox (d + 1) mX7_said 0 [(0, .ref 288), (1, .int x0)] [] H _
  refine ae_aload_n (q := 1) dX7_said_0 rfl rfl rfl ?_
  refine ae_iload_n (q := 2) dX7_said_1 rfl rfl rfl ?_
  refine ae_iconst (v := 0) (q := 3) dX7_said_2 (by decide) rfl ?_
  refine ae_aload_n (q := 4) dX7_said_3 rfl rfl rfl ?_
  refine ae_getI (q := 7) dX7_said_4 fl_X7_135 rfl h.s (h.lt (by decide)) rfl ?_
  refine ae_bipush (v := 40) (q := 9) dX7_said_7 (by decide) rfl ?_
  refine ae_icmp_ge (t := 19) (q := 12) dX7_said_9 (by decide) rfl (fun c1 => absurd c1 (by rw [h.i]; decide)) (fun c1 => ?_)
  refine ae_aload_n (q := 13) dX7_said_12 rfl rfl rfl ?_
  refine ae_getI (q := 16) dX7_said_13 fl_X7_135 rfl h.s (h.lt (by decide)) rfl ?_
  refine ae_goto (q := 21) dX7_said_16 (by decide) ?_
  refine ae_iconst (v := 1) (q := 22) dX7_said_21 (by decide) rfl ?_
  refine ae_isub (q := 23) dX7_said_22 rfl ?_
  refine ae_wX7 (q := 26) dX7_said_23 lk_X7_105 (Nat.le_of_ble_eq_true rfl) rfl (fun c2 => absurd c2 (fun q : (0 : Int32) ≤ x0 ∧ x0 ≤ am_gi H 288 36 - 1 => no_one (h.i 36) q)) (fun c2 => ?_)
  refine ae_if_eq (t := 33) (q := 29) dX7_said_26 (by decide) rfl (fun _ => ?_) (fun h => absurd h (by decide))
  refine ae_iconst (v := 1) (q := 34) dX7_said_33 (by decide) rfl ?_
  refine ae_putI (q := 37) dX7_said_34 fl_X7_101 rfl rfl rfl h.s (h.lt (by decide)) rfl ?_
  refine ae_aload_n (q := 38) dX7_said_37 rfl rfl rfl ?_
  refine ae_getI (q := 41) dX7_said_38 fl_X7_101 rfl h.s (h.lt (by decide)) rfl ?_
  refine ae_eqi (show am_gi (am_si H 288 37 1) 288 37 = 1 from by simp [am_gi, am_si, am_u2]) ?_
  refine ae_if_le (t := 48) (q := 44) dX7_said_41 (by decide) rfl (fun h => absurd h (by decide)) (fun _ => ?_)
  refine ae_iconst (v := 0) (q := 45) dX7_said_44 (by decide) rfl ?_
  refine ae_goto (q := 54) dX7_said_45 (by decide) ?_
  refine ae_iret dX7_said_54 rfl rfl ?_
  exact ⟨⟨_, rfl, fun q => absurd q (by decide)⟩, gi_set, rfl, rfl, rfl⟩
set_option maxRecDepth 100000 in
set_option maxHeartbeats 4000000 in
theorem e_X7_task {ox : List (Nat × (Nat → Int32))} {d : Nat} {H : am_H} {x0 x1 : Int32} (h : mz H) : am_D ox (d + 1) yX7_task mX7_task [.ref 288, .int x0, .int x1] H (fun o H1 => (0 ≤ x1 ∧ x1 ≤ 6) ∧ mr 2 0 H o H1 ∨ ¬ (0 ≤ x1 ∧ x1 ≤ 6) ∧ mr 1 0 H o H1) := by
  refine ae_enter rfl rfl rfl rfl (Nat.le_of_ble_eq_true rfl) ?_
  show am_E ox (d + 1) mX7_task 0 [(0, .ref 288), (1, .int x0), (2, .int x1)] [] H _
  refine ae_iload_n (q := 1) dX7_task_0 rfl rfl rfl ?_
  refine ae_iconst (v := 0) (q := 2) dX7_task_1 (by decide) rfl ?_
  refine ae_bipush (v := 6) (q := 4) dX7_task_2 (by decide) rfl ?_
  refine ae_wX7 (q := 7) dX7_task_4 lk_X7_105 (Nat.le_of_ble_eq_true rfl) rfl (fun c1 => ?_) (fun c1 => ?_)
  · refine ae_if_ne (t := 16) (q := 10) dX7_task_7 (by decide) rfl (fun _ => ?_) (fun h => absurd h (by decide))
    refine ae_aload_n (q := 17) dX7_task_16 rfl rfl rfl ?_
    refine ae_getI (q := 20) dX7_task_17 fl_X7_122 rfl h.s (h.lt (by decide)) rfl ?_
    refine ae_if_eq (t := 37) (q := 23) dX7_task_20 (by decide) rfl (fun c2 => ?_) (fun c2 => absurd (h.i 39) c2)
    refine ae_aload_n (q := 38) dX7_task_37 rfl rfl rfl ?_
    refine ae_iconst (v := 2) (q := 39) dX7_task_38 (by decide) rfl ?_
    refine ae_callV (ci := 7) (as := [.int 2]) (b := 288) (st := []) (q := 42) dX7_task_39 (e_X7_fail h.s (h.lt (by decide))) myX7_fail lk_X7_109 im_X7_fail se_X7_fail rfl (by decide) h.s (h.lt (by decide)) rfl rfl (Nat.le_of_ble_eq_true rfl) rfl (fun o H1 h => ⟨_, h.1⟩) (fun v G hv => ?_)
    obtain ⟨hv1, hv2⟩ := hv
    subst hv2
    cases hv1
    refine ⟨Or.inl rfl, ?_⟩
    refine ae_iret dX7_task_42 rfl rfl ?_
    exact Or.inl ⟨c1, ⟨⟨_, rfl, fun q => absurd q (by decide)⟩, gi_set, rfl, rfl, rfl⟩⟩
  · refine ae_if_ne (t := 16) (q := 10) dX7_task_7 (by decide) rfl (fun h => absurd h (by decide)) (fun _ => ?_)
    refine ae_aload_n (q := 11) dX7_task_10 rfl rfl rfl ?_
    refine ae_iconst (v := 1) (q := 12) dX7_task_11 (by decide) rfl ?_
    refine ae_callV (ci := 7) (as := [.int 1]) (b := 288) (st := []) (q := 15) dX7_task_12 (e_X7_fail h.s (h.lt (by decide))) myX7_fail lk_X7_109 im_X7_fail se_X7_fail rfl (by decide) h.s (h.lt (by decide)) rfl rfl (Nat.le_of_ble_eq_true rfl) rfl (fun o H1 h => ⟨_, h.1⟩) (fun v G hv => ?_)
    obtain ⟨hv1, hv2⟩ := hv
    subst hv2
    cases hv1
    refine ⟨Or.inl rfl, ?_⟩
    refine ae_iret dX7_task_15 rfl rfl ?_
    exact Or.inr ⟨c1, ⟨⟨_, rfl, fun q => absurd q (by decide)⟩, gi_set, rfl, rfl, rfl⟩⟩
set_option maxRecDepth 100000 in
set_option maxHeartbeats 4000000 in
theorem e_X7_future {ox : List (Nat × (Nat → Int32))} {d : Nat} {H : am_H} {x0 : Int32} (h : mz H) : am_D ox (d + 1) yX7_future mX7_future [.ref 288, .int x0] H (fun o H1 => (0 ≤ x0 ∧ x0 ≤ 3) ∧ mr 2 0 H o H1 ∨ ¬ (0 ≤ x0 ∧ x0 ≤ 3) ∧ mr 1 0 H o H1) := by
  refine ae_enter rfl rfl rfl rfl (Nat.le_of_ble_eq_true rfl) ?_
  show am_E ox (d + 1) mX7_future 0 [(0, .ref 288), (1, .int x0)] [] H _
  refine ae_aload_n (q := 1) dX7_future_0 rfl rfl rfl ?_
  refine ae_iload_n (q := 2) dX7_future_1 rfl rfl rfl ?_
  refine ae_iconst (v := 0) (q := 3) dX7_future_2 (by decide) rfl ?_
  refine ae_iconst (v := 3) (q := 4) dX7_future_3 (by decide) rfl ?_
  refine ae_wX7 (q := 7) dX7_future_4 lk_X7_105 (Nat.le_of_ble_eq_true rfl) rfl (fun c1 => ?_) (fun c1 => ?_)
  · obtain ⟨b, hb, rfl⟩ := wn_of (N := 3) c1 rfl (by decide)
    refine ae_if_ne (t := 14) (q := 10) dX7_future_7 (by decide) rfl (fun _ => ?_) (fun h => absurd h (by decide))
    refine ae_aload_n (q := 15) dX7_future_14 rfl rfl rfl ?_
    refine ae_getR (q := 18) dX7_future_15 fl_X7_56 rfl h.s (h.lt (by decide)) (h.r (i := 15) (by decide)) rfl ?_
    refine ae_iload_n (q := 19) dX7_future_18 rfl rfl rfl ?_
    refine ae_zald (q := 20) dX7_future_19 (show am_sh H 304 = (101, 4) from h.a (i := 15) (by decide)) (h.lt (by decide)) (vp_in_nI hb (by decide)) rfl ?_
    refine ae_eqi (show am_gi H 304 (nI b).toNatClampNeg = am_gi H 304 b from by rw [nI_clamp (show b < 2 ^ 31 by omega)]) ?_
    refine ae_if_ne (t := 27) (q := 23) dX7_future_20 (by decide) rfl (fun c2 => absurd ((h.z (i := 15) (by decide)).2 b) c2) (fun c2 => ?_)
    refine ae_iconst (v := 2) (q := 24) dX7_future_23 (by decide) rfl ?_
    refine ae_goto (q := 28) dX7_future_24 (by decide) ?_
    refine ae_putI (q := 31) dX7_future_28 fl_X7_101 rfl rfl rfl h.s (h.lt (by decide)) rfl ?_
    refine ae_aload_n (q := 32) dX7_future_31 rfl rfl rfl ?_
    refine ae_getI (q := 35) dX7_future_32 fl_X7_101 rfl h.s (h.lt (by decide)) rfl ?_
    refine ae_eqi (show am_gi (am_si H 288 37 2) 288 37 = 2 from by simp [am_gi, am_si, am_u2]) ?_
    refine ae_if_le (t := 42) (q := 38) dX7_future_35 (by decide) rfl (fun h => absurd h (by decide)) (fun _ => ?_)
    refine ae_iconst (v := 0) (q := 39) dX7_future_38 (by decide) rfl ?_
    refine ae_goto (q := 48) dX7_future_39 (by decide) ?_
    refine ae_iret dX7_future_48 rfl rfl ?_
    exact Or.inl ⟨c1, ⟨⟨_, rfl, fun q => absurd q (by decide)⟩, gi_set, rfl, rfl, rfl⟩⟩
  · refine ae_if_ne (t := 14) (q := 10) dX7_future_7 (by decide) rfl (fun h => absurd h (by decide)) (fun _ => ?_)
    refine ae_iconst (v := 1) (q := 11) dX7_future_10 (by decide) rfl ?_
    refine ae_goto (q := 28) dX7_future_11 (by decide) ?_
    refine ae_putI (q := 31) dX7_future_28 fl_X7_101 rfl rfl rfl h.s (h.lt (by decide)) rfl ?_
    refine ae_aload_n (q := 32) dX7_future_31 rfl rfl rfl ?_
    refine ae_getI (q := 35) dX7_future_32 fl_X7_101 rfl h.s (h.lt (by decide)) rfl ?_
    refine ae_eqi (show am_gi (am_si H 288 37 1) 288 37 = 1 from by simp [am_gi, am_si, am_u2]) ?_
    refine ae_if_le (t := 42) (q := 38) dX7_future_35 (by decide) rfl (fun h => absurd h (by decide)) (fun _ => ?_)
    refine ae_iconst (v := 0) (q := 39) dX7_future_38 (by decide) rfl ?_
    refine ae_goto (q := 48) dX7_future_39 (by decide) ?_
    refine ae_iret dX7_future_48 rfl rfl ?_
    exact Or.inr ⟨c1, ⟨⟨_, rfl, fun q => absurd q (by decide)⟩, gi_set, rfl, rfl, rfl⟩⟩
