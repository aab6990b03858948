/-! The class's objects as its constructor leaves them. -/
def fz (H : am_H) : Prop := 288 ≤ am_nx H ∧ (am_sh H 0 = (6, am_Nf 6) ∧ am_gr H 0 0 = some 1 ∧ am_gr H 0 1 = some 26) ∧ (am_sh H 1 = (103 + 0, 8) ∧ (∀ i, i < 8 → am_gr H 1 i = some (2 + 3 * i)) ∧ ∀ i, i < 8 → ly_B i H) ∧ zD H H ∧ (am_gr H 26 8 = some 285 ∧ am_gr H 26 9 = some 286 ∧ am_gr H 26 10 = some 287) ∧ (am_sh H 285 = (100, 4) ∧ am_sh H 286 = (101, 4) ∧ am_sh H 287 = (100, 40)) ∧ am_zr 285 H ∧ am_zr 286 H ∧ am_zr 287 H
theorem fz.of {G H : am_H} (h : zY G) (k : am_Kp 0 288 G H) (hn : 288 ≤ am_nx H) : fz H := by
  obtain ⟨-, ⟨a1, a2, a3⟩, ⟨b1, b2, b3⟩, H0, -, hD, ⟨f1, f2, f3⟩, ⟨q1, q2, q3⟩, z1, z2, z3⟩ := h
  obtain ⟨k1, k2, -⟩ := k 0 (by omega) (by omega)
  obtain ⟨l1, l2, -⟩ := k 1 (by omega) (by omega)
  obtain ⟨-, m2, -⟩ := k 26 (by omega) (by omega)
  exact ⟨hn, ⟨k1.trans a1, by rw [k2]; exact a2, by rw [k2]; exact a3⟩, ⟨l1.trans b1, fun i hi => by rw [l2]; exact b2 i hi, fun i hi => (b3 i hi).kp (k.sub (by omega) (by omega))⟩, hD.re (k.sub (by omega) (by omega)), ⟨by rw [m2]; exact f1, by rw [m2]; exact f2, by rw [m2]; exact f3⟩, ⟨(k 285 (by omega) (by omega)).1.trans q1, (k 286 (by omega) (by omega)).1.trans q2, (k 287 (by omega) (by omega)).1.trans q3⟩, z1.kp k (by omega) (by omega), z2.kp k (by omega) (by omega), z3.kp k (by omega) (by omega)⟩
theorem fz.lt {H : am_H} (h : fz H) {x : Nat} (hx : x < 288) : x < am_nx H := Nat.lt_of_lt_of_le hx h.1
theorem fz.s0 {H : am_H} (h : fz H) : am_sh H 0 = (6, am_Nf 6) := h.2.1.1
theorem fz.r00 {H : am_H} (h : fz H) : am_gr H 0 0 = some 1 := h.2.1.2.1
theorem fz.r01 {H : am_H} (h : fz H) : am_gr H 0 1 = some 26 := h.2.1.2.2
theorem fz.s1 {H : am_H} (h : fz H) : am_sh H 1 = (103 + 0, 8) := h.2.2.1.1
theorem fz.r1 {H : am_H} (h : fz H) {i : Nat} (hi : i < 8) : am_gr H 1 i = some (2 + 3 * i) := h.2.2.1.2.1 i hi
theorem fz.lb {H : am_H} (h : fz H) {i : Nat} (hi : i < 8) : ly_B i H := h.2.2.1.2.2 i hi
theorem fz.zd {H : am_H} (h : fz H) : zD H H := h.2.2.2.1
theorem fz.s26 {H : am_H} (h : fz H) : am_sh H 26 = (2, am_Nf 2) := h.zd.1.1.1.1
theorem fz.r26_1 {H : am_H} (h : fz H) : am_gr H 26 1 = some 28 := h.zd.1.1.1.2.2.1
theorem fz.r26_3 {H : am_H} (h : fz H) : am_gr H 26 3 = some 27 := h.zd.1.1.1.2.2.2.1
theorem fz.i26 {H : am_H} (h : fz H) (y : Nat) : am_gi H 26 y = 0 := h.zd.1.1.1.2.2.2.2.1 y
theorem fz.s27 {H : am_H} (h : fz H) : am_sh H 27 = (3, am_Nf 3) := h.zd.1.1.1.2.2.2.2.2.1
theorem fz.z27 {H : am_H} (h : fz H) : am_zr 27 H := h.zd.1.1.1.2.2.2.2.2.2.1
theorem fz.s28 {H : am_H} (h : fz H) : am_sh H 28 = (103 + 4, 48) := h.zd.1.1.2.1
theorem fz.r28 {H : am_H} (h : fz H) {t : Nat} (ht : t < 48) : am_gr H 28 t = some (29 + 5 * t) := h.zd.1.1.2.2.1 t ht
theorem fz.lT {H : am_H} (h : fz H) {t : Nat} (ht : t < 48) : ly_T t H := h.zd.1.1.2.2.2 t ht
theorem fz.r26_4 {H : am_H} (h : fz H) : am_gr H 26 4 = some 269 := h.zd.1.2.1
theorem fz.s269 {H : am_H} (h : fz H) : am_sh H 269 = (103 + 1, 2) := h.zd.1.2.2.1
theorem fz.r269 {H : am_H} (h : fz H) {t : Nat} (ht : t < 2) : am_gr H 269 t = some (270 + 4 * t) := h.zd.1.2.2.2.1 t ht
theorem fz.lP {H : am_H} (h : fz H) {t : Nat} (ht : t < 2) : ly_P t H := h.zd.1.2.2.2.2 t ht
theorem fz.r26_5 {H : am_H} (h : fz H) : am_gr H 26 5 = some 278 := h.zd.2.1
theorem fz.s278 {H : am_H} (h : fz H) : am_sh H 278 = (103 + 5, 3) := h.zd.2.2.1
theorem fz.r278 {H : am_H} (h : fz H) {t : Nat} (ht : t < 3) : am_gr H 278 t = some (279 + 2 * t) := h.zd.2.2.2.1 t ht
theorem fz.lW {H : am_H} (h : fz H) {t : Nat} (ht : t < 3) : ly_W t H := h.zd.2.2.2.2 t ht
theorem fz.r26_8 {H : am_H} (h : fz H) : am_gr H 26 8 = some 285 := h.2.2.2.2.1.1
theorem fz.r26_9 {H : am_H} (h : fz H) : am_gr H 26 9 = some 286 := h.2.2.2.2.1.2.1
theorem fz.r26_10 {H : am_H} (h : fz H) : am_gr H 26 10 = some 287 := h.2.2.2.2.1.2.2
theorem fz.s285 {H : am_H} (h : fz H) : am_sh H 285 = (100, 4) := h.2.2.2.2.2.1.1
theorem fz.s286 {H : am_H} (h : fz H) : am_sh H 286 = (101, 4) := h.2.2.2.2.2.1.2.1
theorem fz.s287 {H : am_H} (h : fz H) : am_sh H 287 = (100, 40) := h.2.2.2.2.2.1.2.2
theorem fz.z285 {H : am_H} (h : fz H) : am_zr 285 H := h.2.2.2.2.2.2.1
theorem fz.z286 {H : am_H} (h : fz H) : am_zr 286 H := h.2.2.2.2.2.2.2.1
theorem fz.z287 {H : am_H} (h : fz H) : am_zr 287 H := h.2.2.2.2.2.2.2.2
/-- what a call of the class leaves as it was, for the reference and the law -/
def pz (H H1 : am_H) : Prop := am_nx H1 = am_nx H ∧ am_Kp 288 320 H H1 ∧ ∀ x, 288 ≤ x → am_gl H1 x = am_gl H x
theorem pz.rf {H : am_H} : pz H H := ⟨rfl, am_Kp.rf, fun _ _ => rfl⟩
theorem pz.ga {H : am_H} : pz H (am_ga H 1 6) := ⟨rfl, fun _ _ _ => ⟨rfl, rfl, rfl⟩, fun _ _ => rfl⟩
theorem pz.si {H H1 : am_H} {a k : Nat} {v : Int32} (h : pz H H1) (ha : a < 288) : pz H (am_si H1 a k v) := ⟨h.1, h.2.1.trans (am_Kp.si (by omega)), h.2.2⟩
theorem pz.sr {H H1 : am_H} {a k : Nat} {v : Option Nat} (h : pz H H1) (ha : a < 288) : pz H (am_sr H1 a k v) := ⟨h.1, h.2.1.trans (am_Kp.sr (by omega)), h.2.2⟩
theorem wn_of {x g : Int32} {N : Nat} (h : 0 ≤ x ∧ x ≤ g) (hg : g = nI N) (hN : N < 2 ^ 31) : ∃ b, b < N + 1 ∧ x = nI b := by
  subst hg
  refine ⟨x.toNatClampNeg, ?_, (Int32.ofNat_toNatClampNeg x h.1).symm⟩
  have h2 := Int32.le_iff_toInt_le.mp h.2
  have h3 : (nI N).toInt = (N : Int) := Int32.toInt_ofNat_of_lt hN
  rw [h3] at h2
  have h4 : x.toNatClampNeg = x.toInt.toNat := rfl
  rw [h4]
  omega
theorem no_one {x z : Int32} (hz : z = 0) (q : (0 : Int32) ≤ x ∧ x ≤ z - 1) : False := by
  subst hz
  have h1 := Int32.le_trans q.1 q.2
  exact absurd h1 (by decide)
theorem cd_mmin : Cond.code Lib.Math.min.name Lib.Math.min.code 2 (some .int) ∈ am_words := aw_523
set_option maxRecDepth 100000 in
set_option maxHeartbeats 4000000 in
theorem e_X6_body {ox : List (Nat × (Nat → Int32))} {d : Nat} {H : am_H} {x0 : Int32} (h : fz H) : am_DB 1 ox (d + 6) yX6_body mX6_body [.ref 0, .int x0] H (fun o H1 => ((0 ≤ x0 ∧ x0 ≤ 7) ∧ o = .inl (some (.int 0)) ∨ ¬ (0 ≤ x0 ∧ x0 ≤ 7) ∧ o = .inr "java/lang/IllegalArgumentException") ∧ pz H H1) := by
  refine ae_enter rfl rfl rfl rfl (Nat.le_of_ble_eq_true rfl) ?_
  show am_EB 1 ox (d + 6) mX6_body 0 [(0, .ref 0), (1, .int x0)] [] H _
  refine ae_iload_n (q := 1) dX6_body_0 rfl rfl rfl ?_
  refine ae_iconst (v := 0) (q := 2) dX6_body_1 (by decide) rfl ?_
  refine ae_bipush (v := 7) (q := 4) dX6_body_2 (by decide) rfl ?_
  refine ae_wX6 (q := 7) dX6_body_4 lk_X6_25 (Nat.le_of_ble_eq_true rfl) rfl (fun c1 => ?_) (fun c1 => ?_)
  · obtain ⟨b, hb, rfl⟩ := wn_of (N := 7) c1 rfl (by decide)
    refine ae_if_ne (t := 20) (q := 10) dX6_body_7 (by decide) rfl (fun _ => ?_) (fun h => absurd h (by decide))
    refine ae_aload_n (q := 21) dX6_body_20 rfl rfl rfl ?_
    refine ae_getR (q := 24) dX6_body_21 fl_X6_11 rfl h.s0 (h.lt (by decide)) h.r00 rfl ?_
    refine ae_iload_n (q := 25) dX6_body_24 rfl rfl rfl ?_
    refine ae_aald (q := 26) dX6_body_25 h.s1 (show am_kinds[3]? = some (103 + 0, .object RX0) from rfl) (h.lt (by decide)) (vp_in_nI hb (by decide)) (by rw [nI_clamp (show b < 2 ^ 31 by omega)]; exact h.r1 hb) rfl ?_
    refine ae_getI (q := 29) dX6_body_26 fl_X6_36 rfl (h.lb hb).1 (h.lt (by omega)) rfl ?_
    refine ae_istore_n (lv' := [(2, .int (am_gi H (2 + 3 * b) 2)), (0, .ref 0), (1, .int (nI b))]) (q := 30) dX6_body_29 rfl (by decide) rfl rfl ?_
    refine ae_aload_n (q := 31) dX6_body_30 rfl rfl rfl ?_
    refine ae_getR (q := 34) dX6_body_31 fl_X6_11 rfl h.s0 (h.lt (by decide)) h.r00 rfl ?_
    refine ae_iload_n (q := 35) dX6_body_34 rfl rfl rfl ?_
    refine ae_aald (q := 36) dX6_body_35 h.s1 (show am_kinds[3]? = some (103 + 0, .object RX0) from rfl) (h.lt (by decide)) (vp_in_nI hb (by decide)) (by rw [nI_clamp (show b < 2 ^ 31 by omega)]; exact h.r1 hb) rfl ?_
    refine ae_iconst (v := 0) (q := 37) dX6_body_36 (by decide) rfl ?_
    refine ae_putI (q := 40) dX6_body_37 fl_X6_36 rfl rfl rfl (h.lb hb).1 (h.lt (by omega)) rfl ?_
    refine ae_iload_n (q := 41) dX6_body_40 rfl rfl rfl ?_
    refine ae_iret dX6_body_41 rfl rfl ?_
    exact ⟨Or.inl ⟨c1, by rw [(h.lb hb).2.2.2.1]⟩, pz.rf.si (by omega)⟩
  · refine ae_if_ne (t := 20) (q := 10) dX6_body_7 (by decide) rfl (fun h => absurd h (by decide)) (fun _ => ?_)
    refine ae_throw (names := am_exn) (text := "no such body") dX6_body_10 dX6_body_13 dX6_body_14 dX6_body_16 dX6_body_19 (by decide +kernel) am_exf aw_255 aw_12 (by decide +kernel) tw_IAE (by decide) rfl (Nat.le_of_ble_eq_true rfl) (Nat.le_of_ble_eq_true rfl) (by decide) ?_
    exact ⟨Or.inr ⟨c1, rfl⟩, pz.ga⟩
set_option maxRecDepth 100000 in
set_option maxHeartbeats 4000000 in
theorem e_X2_isBegun {ox : List (Nat × (Nat → Int32))} {d : Nat} {H : am_H} (h : fz H) : am_D ox d yX2_isBegun mX2_isBegun [.ref 26] H (fun o H1 => o = .inl (some (.int 0)) ∧ H1 = H) := by
  refine ae_enter rfl rfl rfl rfl (Nat.le_of_ble_eq_true rfl) ?_
  show am_E ox d mX2_isBegun 0 [(0, .ref 26)] [] H _
  refine ae_aload_n (q := 1) dX2_isBegun_0 rfl rfl rfl ?_
  refine ae_getI (q := 4) dX2_isBegun_1 fl_X2_64 rfl h.s26 (h.lt (by decide)) rfl ?_
  refine ae_if_le (t := 11) (q := 7) dX2_isBegun_4 (by decide) rfl (fun c1 => ?_) (fun c1 => absurd (by rw [h.i26]; decide) c1)
  refine ae_iconst (v := 0) (q := 12) dX2_isBegun_11 (by decide) rfl ?_
  refine ae_iret dX2_isBegun_12 rfl (by decide) ?_
  exact ⟨rfl, rfl⟩
set_option maxRecDepth 100000 in
set_option maxHeartbeats 4000000 in
theorem e_X2_isOver {ox : List (Nat × (Nat → Int32))} {d : Nat} {H : am_H} (h : fz H) : am_D ox (d + 1) yX2_isOver mX2_isOver [.ref 26] H (fun o H1 => o = .inl (some (.int 0)) ∧ H1 = H) := by
  refine ae_enter rfl rfl rfl rfl (Nat.le_of_ble_eq_true rfl) ?_
  show am_E ox (d + 1) mX2_isOver 0 [(0, .ref 26)] [] H _
  refine ae_aload_n (q := 1) dX2_isOver_0 rfl rfl rfl ?_
  refine ae_callV (ci := 2) (as := []) (b := 26) (st := []) (q := 4) dX2_isOver_1 (e_X2_isBegun h) myX2_isBegun lk_X2_97 im_X2_isBegun se_X2_isBegun rfl (by decide) h.s26 (h.lt (by decide)) rfl rfl (Nat.le_of_ble_eq_true rfl) rfl (fun o H1 h => ⟨_, h.1⟩) (fun v G hv => ?_)
  obtain ⟨hv1, hv2⟩ := hv
  subst hv2
  cases hv1
  refine ⟨Or.inl rfl, ?_⟩
  refine ae_if_eq (t := 21) (q := 7) dX2_isOver_4 (by decide) rfl (fun _ => ?_) (fun h => absurd h (by decide))
  refine ae_iconst (v := 0) (q := 22) dX2_isOver_21 (by decide) rfl ?_
  refine ae_iret dX2_isOver_22 rfl (by decide) ?_
  exact ⟨rfl, rfl⟩
set_option maxRecDepth 100000 in
set_option maxHeartbeats 4000000 in
theorem e_X6_run {ox : List (Nat × (Nat → Int32))} {d : Nat} {H : am_H} {x0 : Int32} (h : fz H) : am_DB 1 ox (d + 6) yX6_run mX6_run [.ref 0, .int x0] H (fun o H1 => ((0 ≤ x0 ∧ x0 ≤ 200) ∧ o = .inr "java/lang/IllegalStateException" ∨ ¬ (0 ≤ x0 ∧ x0 ≤ 200) ∧ o = .inr "java/lang/IllegalArgumentException") ∧ pz H H1) := by
  refine ae_enter rfl rfl rfl rfl (Nat.le_of_ble_eq_true rfl) ?_
  show am_EB 1 ox (d + 6) mX6_run 0 [(0, .ref 0), (1, .int x0)] [] H _
  refine ae_iload_n (q := 1) dX6_run_0 rfl rfl rfl ?_
  refine ae_iconst (v := 0) (q := 2) dX6_run_1 (by decide) rfl ?_
  refine ae_sipush (v := 200) (q := 5) dX6_run_2 (by decide) rfl ?_
  refine ae_wX6 (q := 8) dX6_run_5 lk_X6_25 (Nat.le_of_ble_eq_true rfl) rfl (fun c1 => ?_) (fun c1 => ?_)
  · refine ae_if_ne (t := 21) (q := 11) dX6_run_8 (by decide) rfl (fun _ => ?_) (fun h => absurd h (by decide))
    refine ae_aload_n (q := 22) dX6_run_21 rfl rfl rfl ?_
    refine ae_getR (q := 25) dX6_run_22 fl_X6_21 rfl h.s0 (h.lt (by decide)) h.r01 rfl ?_
    refine ae_callV (ci := 2) (as := []) (b := 26) (st := []) (q := 28) dX6_run_25 (e_X2_isBegun h) myX2_isBegun lk_X6_66 im_X2_isBegun se_X2_isBegun rfl (by decide) h.s26 (h.lt (by decide)) rfl rfl (Nat.le_of_ble_eq_true rfl) rfl (fun o H1 h => ⟨_, h.1⟩) (fun v G hv => ?_)
    obtain ⟨hv1, hv2⟩ := hv
    subst hv2
    cases hv1
    refine ⟨Or.inl rfl, ?_⟩
    refine ae_if_ne (t := 41) (q := 31) dX6_run_28 (by decide) rfl (fun h => absurd h (by decide)) (fun _ => ?_)
    refine ae_throw (names := am_exn) (text := "nothing was begun") dX6_run_31 dX6_run_34 dX6_run_35 dX6_run_37 dX6_run_40 (by decide +kernel) am_exf aw_341 aw_13 (by decide +kernel) tw_ISE (by decide) rfl (Nat.le_of_ble_eq_true rfl) (Nat.le_of_ble_eq_true rfl) (by decide) ?_
    exact ⟨Or.inl ⟨c1, rfl⟩, pz.ga⟩
  · refine ae_if_ne (t := 21) (q := 11) dX6_run_8 (by decide) rfl (fun h => absurd h (by decide)) (fun _ => ?_)
    refine ae_throw (names := am_exn) (text := "too few or too many ticks") dX6_run_11 dX6_run_14 dX6_run_15 dX6_run_17 dX6_run_20 (by decide +kernel) am_exf aw_255 aw_12 (by decide +kernel) tw_IAE (by decide) rfl (Nat.le_of_ble_eq_true rfl) (Nat.le_of_ble_eq_true rfl) (by decide) ?_
    exact ⟨Or.inr ⟨c1, rfl⟩, pz.ga⟩
set_option maxRecDepth 100000 in
set_option maxHeartbeats 4000000 in
theorem e_X6_result {ox : List (Nat × (Nat → Int32))} {d : Nat} {H : am_H} (h : fz H) : am_DB 1 ox (d + 6) yX6_result mX6_result [.ref 0] H (fun o H1 => o = .inr "java/lang/IllegalStateException" ∧ pz H H1) := by
  refine ae_enter rfl rfl rfl rfl (Nat.le_of_ble_eq_true rfl) ?_
  show am_EB 1 ox (d + 6) mX6_result 0 [(0, .ref 0)] [] H _
  refine ae_aload_n (q := 1) dX6_result_0 rfl rfl rfl ?_
  refine ae_getR (q := 4) dX6_result_1 fl_X6_21 rfl h.s0 (h.lt (by decide)) h.r01 rfl ?_
  refine ae_callV (ci := 2) (as := []) (b := 26) (st := []) (q := 7) dX6_result_4 (e_X2_isOver h) myX2_isOver lk_X6_72 im_X2_isOver se_X2_isOver rfl (by decide) h.s26 (h.lt (by decide)) rfl rfl (Nat.le_of_ble_eq_true rfl) rfl (fun o H1 h => ⟨_, h.1⟩) (fun v G hv => ?_)
  obtain ⟨hv1, hv2⟩ := hv
  subst hv2
  cases hv1
  refine ⟨Or.inl rfl, ?_⟩
  refine ae_if_ne (t := 20) (q := 10) dX6_result_7 (by decide) rfl (fun h => absurd h (by decide)) (fun _ => ?_)
  refine ae_throw (names := am_exn) (text := "the run is not over") dX6_result_10 dX6_result_13 dX6_result_14 dX6_result_16 dX6_result_19 (by decide +kernel) am_exf aw_341 aw_13 (by decide +kernel) tw_ISE (by decide) rfl (Nat.le_of_ble_eq_true rfl) (Nat.le_of_ble_eq_true rfl) (by decide) ?_
  exact ⟨rfl, pz.ga⟩
set_option maxRecDepth 100000 in
set_option maxHeartbeats 4000000 in
theorem e_X6_task {ox : List (Nat × (Nat → Int32))} {d : Nat} {H : am_H} {x0 x1 : Int32} (h : fz H) : am_DB 1 ox (d + 6) yX6_task mX6_task [.ref 0, .int x0, .int x1] H (fun o H1 => ((0 ≤ x1 ∧ x1 ≤ 6) ∧ o = .inr "java/lang/IndexOutOfBoundsException" ∨ ¬ (0 ≤ x1 ∧ x1 ≤ 6) ∧ o = .inr "java/lang/IllegalArgumentException") ∧ pz H H1) := by
  refine ae_enter rfl rfl rfl rfl (Nat.le_of_ble_eq_true rfl) ?_
  show am_EB 1 ox (d + 6) mX6_task 0 [(0, .ref 0), (1, .int x0), (2, .int x1)] [] H _
  refine ae_iload_n (q := 1) dX6_task_0 rfl rfl rfl ?_
  refine ae_iconst (v := 0) (q := 2) dX6_task_1 (by decide) rfl ?_
  refine ae_bipush (v := 6) (q := 4) dX6_task_2 (by decide) rfl ?_
  refine ae_wX6 (q := 7) dX6_task_4 lk_X6_25 (Nat.le_of_ble_eq_true rfl) rfl (fun c1 => ?_) (fun c1 => ?_)
  · refine ae_if_ne (t := 20) (q := 10) dX6_task_7 (by decide) rfl (fun _ => ?_) (fun h => absurd h (by decide))
    refine ae_iload_n (q := 21) dX6_task_20 rfl rfl rfl ?_
    refine ae_iconst (v := 0) (q := 22) dX6_task_21 (by decide) rfl ?_
    refine ae_aload_n (q := 23) dX6_task_22 rfl rfl rfl ?_
    refine ae_getR (q := 26) dX6_task_23 fl_X6_21 rfl h.s0 (h.lt (by decide)) h.r01 rfl ?_
    refine ae_getI (q := 29) dX6_task_26 fl_X6_134 rfl h.s26 (h.lt (by decide)) rfl ?_
    refine ae_iconst (v := 1) (q := 30) dX6_task_29 (by decide) rfl ?_
    refine ae_isub (q := 31) dX6_task_30 rfl ?_
    refine ae_wX6 (q := 34) dX6_task_31 lk_X6_25 (Nat.le_of_ble_eq_true rfl) rfl (fun c2 => absurd c2 (fun q : (0 : Int32) ≤ x0 ∧ x0 ≤ am_gi H 26 2 - 1 => no_one (h.i26 2) q)) (fun c2 => ?_)
    refine ae_if_ne (t := 47) (q := 37) dX6_task_34 (by decide) rfl (fun h => absurd h (by decide)) (fun _ => ?_)
    refine ae_throw (names := am_exn) (text := "no such task") dX6_task_37 dX6_task_40 dX6_task_41 dX6_task_43 dX6_task_46 (by decide +kernel) am_exf aw_637 aw_19 (by decide +kernel) tw_IOE (by decide) rfl (Nat.le_of_ble_eq_true rfl) (Nat.le_of_ble_eq_true rfl) (by decide) ?_
    exact ⟨Or.inl ⟨c1, rfl⟩, pz.ga⟩
  · refine ae_if_ne (t := 20) (q := 10) dX6_task_7 (by decide) rfl (fun h => absurd h (by decide)) (fun _ => ?_)
    refine ae_throw (names := am_exn) (text := "no such question of a task") dX6_task_10 dX6_task_13 dX6_task_14 dX6_task_16 dX6_task_19 (by decide +kernel) am_exf aw_255 aw_12 (by decide +kernel) tw_IAE (by decide) rfl (Nat.le_of_ble_eq_true rfl) (Nat.le_of_ble_eq_true rfl) (by decide) ?_
    exact ⟨Or.inr ⟨c1, rfl⟩, pz.ga⟩
set_option maxRecDepth 100000 in
set_option maxHeartbeats 4000000 in
theorem e_X6_future {ox : List (Nat × (Nat → Int32))} {d : Nat} {H : am_H} {x0 : Int32} (h : fz H) : am_DB 1 ox (d + 6) yX6_future mX6_future [.ref 0, .int x0] H (fun o H1 => ((0 ≤ x0 ∧ x0 ≤ 3) ∧ o = .inr "java/lang/IllegalStateException" ∨ ¬ (0 ≤ x0 ∧ x0 ≤ 3) ∧ o = .inr "java/lang/IllegalArgumentException") ∧ pz H H1) := by
  refine ae_enter rfl rfl rfl rfl (Nat.le_of_ble_eq_true rfl) ?_
  show am_EB 1 ox (d + 6) mX6_future 0 [(0, .ref 0), (1, .int x0)] [] H _
  refine ae_iload_n (q := 1) dX6_future_0 rfl rfl rfl ?_
  refine ae_iconst (v := 0) (q := 2) dX6_future_1 (by decide) rfl ?_
  refine ae_iconst (v := 3) (q := 3) dX6_future_2 (by decide) rfl ?_
  refine ae_wX6 (q := 6) dX6_future_3 lk_X6_25 (Nat.le_of_ble_eq_true rfl) rfl (fun c1 => ?_) (fun c1 => ?_)
  · obtain ⟨b, hb, rfl⟩ := wn_of (N := 3) c1 rfl (by decide)
    refine ae_if_ne (t := 19) (q := 9) dX6_future_6 (by decide) rfl (fun _ => ?_) (fun h => absurd h (by decide))
    refine ae_aload_n (q := 20) dX6_future_19 rfl rfl rfl ?_
    refine ae_getR (q := 23) dX6_future_20 fl_X6_21 rfl h.s0 (h.lt (by decide)) h.r01 rfl ?_
    refine ae_getR (q := 26) dX6_future_23 fl_X6_145 rfl h.s26 (h.lt (by decide)) h.r26_9 rfl ?_
    refine ae_iload_n (q := 27) dX6_future_26 rfl rfl rfl ?_
    refine ae_zald (q := 28) dX6_future_27 h.s286 (h.lt (by decide)) (vp_in_nI hb (by decide)) rfl ?_
    refine ae_eqi (show am_gi H 286 (nI b).toNatClampNeg = am_gi H 286 b from by rw [nI_clamp (show b < 2 ^ 31 by omega)]) ?_
    refine ae_if_ne (t := 41) (q := 31) dX6_future_28 (by decide) rfl (fun c2 => absurd (h.z286.2 b) c2) (fun c2 => ?_)
    refine ae_throw (names := am_exn) (text := "the future was not put") dX6_future_31 dX6_future_34 dX6_future_35 dX6_future_37 dX6_future_40 (by decide +kernel) am_exf aw_341 aw_13 (by decide +kernel) tw_ISE (by decide) rfl (Nat.le_of_ble_eq_true rfl) (Nat.le_of_ble_eq_true rfl) (by decide) ?_
    exact ⟨Or.inl ⟨c1, rfl⟩, pz.ga⟩
  · refine ae_if_ne (t := 19) (q := 9) dX6_future_6 (by decide) rfl (fun h => absurd h (by decide)) (fun _ => ?_)
    refine ae_throw (names := am_exn) (text := "no such future") dX6_future_9 dX6_future_12 dX6_future_13 dX6_future_15 dX6_future_18 (by decide +kernel) am_exf aw_255 aw_12 (by decide +kernel) tw_IAE (by decide) rfl (Nat.le_of_ble_eq_true rfl) (Nat.le_of_ble_eq_true rfl) (by decide) ?_
    exact ⟨Or.inr ⟨c1, rfl⟩, pz.ga⟩
set_option maxRecDepth 100000 in
set_option maxHeartbeats 4000000 in
theorem e_X6_said {ox : List (Nat × (Nat → Int32))} {d : Nat} {H : am_H} {x0 : Int32} (h : fz H) : am_DB 1 ox (d + 6) yX6_said mX6_said [.ref 0, .int x0] H (fun o H1 => o = .inr "java/lang/IndexOutOfBoundsException" ∧ pz H H1) := by
  refine ae_enter rfl rfl rfl rfl (Nat.le_of_ble_eq_true rfl) ?_
  show am_EB 1 ox (d + 6) mX6_said 0 [(0, .ref 0), (1, .int x0)] [] H _
  refine ae_iload_n (q := 1) dX6_said_0 rfl rfl rfl ?_
  refine ae_iconst (v := 0) (q := 2) dX6_said_1 (by decide) rfl ?_
  refine ae_aload_n (q := 3) dX6_said_2 rfl rfl rfl ?_
  refine ae_getR (q := 6) dX6_said_3 fl_X6_21 rfl h.s0 (h.lt (by decide)) h.r01 rfl ?_
  refine ae_getI (q := 9) dX6_said_6 fl_X6_114 rfl h.s26 (h.lt (by decide)) rfl ?_
  refine ae_bipush (v := 40) (q := 11) dX6_said_9 (by decide) rfl ?_
  refine ae_mmin (q := 14) dX6_said_11 (Nat.succ_le_succ (Nat.zero_le _)) aw_636 aw_522 aw_16 cd_mmin (Nat.le_of_ble_eq_true rfl) rfl ?_
  refine ae_eqi (show (if (40 : Int32) < am_gi H 26 11 then (40 : Int32) else am_gi H 26 11) = 0 by rw [h.i26]; decide) ?_
  refine ae_iconst (v := 1) (q := 15) dX6_said_14 (by decide) rfl ?_
  refine ae_isub (q := 16) dX6_said_15 rfl ?_
  refine ae_wX6 (q := 19) dX6_said_16 lk_X6_25 (Nat.le_of_ble_eq_true rfl) rfl (fun c1 => absurd c1 (fun q : (0 : Int32) ≤ x0 ∧ x0 ≤ 0 - 1 => no_one rfl q)) (fun c1 => ?_)
  refine ae_if_ne (t := 32) (q := 22) dX6_said_19 (by decide) rfl (fun h => absurd h (by decide)) (fun _ => ?_)
  refine ae_throw (names := am_exn) (text := "no such number is kept") dX6_said_22 dX6_said_25 dX6_said_26 dX6_said_28 dX6_said_31 (by decide +kernel) am_exf aw_637 aw_19 (by decide +kernel) tw_IOE (by decide) rfl (Nat.le_of_ble_eq_true rfl) (Nat.le_of_ble_eq_true rfl) (by decide) ?_
  exact ⟨rfl, pz.ga⟩
