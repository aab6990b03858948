/-! body and add with exact ends. -/
theorem s_0 {N : Nat} {H : am_H} (h : wt N H) : am_sh H 0 = (6, am_Nf 6) := h.s (a := 0) (T := 0) (by decide) rfl
theorem s_1 {N : Nat} {H : am_H} (h : wt N H) : am_sh H 1 = (103 + 0, 8) := h.s (a := 1) (T := 1) (by decide) rfl
theorem s_b {N b : Nat} {H : am_H} (h : wt N H) (hb : b < 8) : am_sh H (2 + 3 * b) = (0, am_Nf 0) := h.s (a := 2 + 3 * b) (T := 2) (by omega) (ty_b hb).1
theorem s_o {N b : Nat} {H : am_H} (h : wt N H) (hb : b < 8) : am_sh H (3 + 3 * b) = (100, 16) := h.s (a := 3 + 3 * b) (T := 3) (by omega) (ty_b hb).2.1
theorem s_g {N b : Nat} {H : am_H} (h : wt N H) (hb : b < 8) : am_sh H (4 + 3 * b) = (100, 16) := h.s (a := 4 + 3 * b) (T := 4) (by omega) (ty_b hb).2.2
theorem s_m {N : Nat} {H : am_H} (h : wt N H) : am_sh H 288 = (7, am_Nf 7) := h.s (a := 288) (T := 19) (by decide) rfl
theorem r_m {N k b : Nat} {H : am_H} (h : wt N H) (hk : k < 30) (e : 289 + k = b) : am_gr H 288 k = some b := by
  obtain ⟨c, h1, h2, h3⟩ := h.r (a := 288) (k := k) (T := 19) (T' := 20 + k) (by decide) rfl (if_pos hk) (by omega)
  rw [h1, ty_m h2 h3, e]
theorem sz_b {N b : Nat} {H : am_H} (h : wt N H) (hb : b < 8) : 0 ≤ (am_gi H (2 + 3 * b) 2).toInt ∧ (am_gi H (2 + 3 * b) 2).toInt ≤ 16 := h.i (a := 2 + 3 * b) (T := 2) (k := 2) (p := (0, 16)) (by omega) (ty_b hb).1 rfl

set_option maxRecDepth 100000 in
set_option maxHeartbeats 4000000 in
theorem b_X6_body {ox : List (Nat × (Nat → Int32))} {d N : Nat} {H : am_H} {x0 : Int32} (h : wt N H) (f : FB H) : am_DB 1 ox (d + 6) yX6_body mX6_body [.ref 0, .int x0] H (fun o H1 => (∃ b, b < 8 ∧ x0 = nI b ∧ o = .inl (some (.int (am_gi H (2 + 3 * b) 2))) ∧ H1 = am_si H (2 + 3 * b) 2 0) ∨ ¬ (0 ≤ x0 ∧ x0 ≤ 7) ∧ o = .inr "java/lang/IllegalArgumentException" ∧ H1 = am_ga H 1 6) := by
  refine ae_enter rfl rfl rfl rfl (Nat.le_of_ble_eq_true rfl) ?_
  show am_EB 1 ox (d + 6) mX6_body 0 [(0, .ref 0), (1, .int x0)] [] H _
  refine ae_iload_n (q := 1) dX6_body_0 rfl rfl rfl ?_
  refine ae_iconst (v := 0) (q := 2) dX6_body_1 (by decide) rfl ?_
  refine ae_bipush (v := 7) (q := 4) dX6_body_2 (by decide) rfl ?_
  refine ae_wX6 (q := 7) dX6_body_4 lk_X6_25 (Nat.le_of_ble_eq_true rfl) rfl (fun c1 => ?_) (fun c1 => ?_)
  · obtain ⟨b, hb, rfl⟩ := wn_of (N := 7) c1 rfl (by decide)
    refine ae_if_ne (t := 20) (q := 10) dX6_body_7 (by decide) rfl (fun _ => ?_) (fun h => absurd h (by decide))
    refine ae_aload_n (q := 21) dX6_body_20 rfl rfl rfl ?_
    refine ae_getR (q := 24) dX6_body_21 fl_X6_11 rfl (s_0 h) (h.l (by decide)) f.1 rfl ?_
    refine ae_iload_n (q := 25) dX6_body_24 rfl rfl rfl ?_
    refine ae_aald (q := 26) dX6_body_25 (s_1 h) (show am_kinds[3]? = some (103 + 0, .object RX0) from rfl) (h.l (by decide)) (vp_in_nI hb (by decide)) (by rw [nI_clamp (show b < 2 ^ 31 by omega)]; exact (f.2 b hb).1) rfl ?_
    refine ae_getI (q := 29) dX6_body_26 fl_X6_36 rfl (s_b h hb) (h.l (by omega)) rfl ?_
    refine ae_istore_n (lv' := [(2, .int (am_gi H (2 + 3 * b) 2)), (0, .ref 0), (1, .int (nI b))]) (q := 30) dX6_body_29 rfl (by decide) rfl rfl ?_
    refine ae_aload_n (q := 31) dX6_body_30 rfl rfl rfl ?_
    refine ae_getR (q := 34) dX6_body_31 fl_X6_11 rfl (s_0 h) (h.l (by decide)) f.1 rfl ?_
    refine ae_iload_n (q := 35) dX6_body_34 rfl rfl rfl ?_
    refine ae_aald (q := 36) dX6_body_35 (s_1 h) (show am_kinds[3]? = some (103 + 0, .object RX0) from rfl) (h.l (by decide)) (vp_in_nI hb (by decide)) (by rw [nI_clamp (show b < 2 ^ 31 by omega)]; exact (f.2 b hb).1) rfl ?_
    refine ae_iconst (v := 0) (q := 37) dX6_body_36 (by decide) rfl ?_
    refine ae_putI (q := 40) dX6_body_37 fl_X6_36 rfl rfl rfl (s_b h hb) (h.l (by omega)) rfl ?_
    refine ae_iload_n (q := 41) dX6_body_40 rfl rfl rfl ?_
    refine ae_iret dX6_body_41 rfl rfl ?_
    exact Or.inl ⟨b, hb, rfl, rfl, rfl⟩
  · refine ae_if_ne (t := 20) (q := 10) dX6_body_7 (by decide) rfl (fun h => absurd h (by decide)) (fun _ => ?_)
    refine ae_throw (names := am_exn) (text := "no such body") dX6_body_10 dX6_body_13 dX6_body_14 dX6_body_16 dX6_body_19 (by decide +kernel) am_exf aw_255 aw_12 (by decide +kernel) tw_IAE (by decide) rfl (Nat.le_of_ble_eq_true rfl) (Nat.le_of_ble_eq_true rfl) (by decide) ?_
    exact Or.inr ⟨c1, rfl, rfl⟩
set_option maxRecDepth 100000 in
set_option maxHeartbeats 4000000 in
theorem b_X7_fail {ox : List (Nat × (Nat → Int32))} {d N : Nat} {H : am_H} {x : Int32} (h : wt N H) : am_D ox d yX7_fail mX7_fail [.ref 288, .int x] H (fun o H1 => o = .inl (some (.int 0)) ∧ H1 = am_si H 288 37 x) := by
  refine ae_enter rfl rfl rfl rfl (Nat.le_of_ble_eq_true rfl) ?_
  show am_E ox d mX7_fail 0 [(0, .ref 288), (1, .int x)] [] H _
  refine ae_aload_n (q := 1) dX7_fail_0 rfl rfl rfl ?_
  refine ae_iload_n (q := 2) dX7_fail_1 rfl rfl rfl ?_
  refine ae_putI (q := 5) dX7_fail_2 fl_X7_101 rfl rfl rfl (s_m h) (h.l (by decide)) rfl ?_
  refine ae_iconst (v := 0) (q := 6) dX7_fail_5 (by decide) rfl ?_
  refine ae_iret dX7_fail_6 rfl rfl ?_
  exact ⟨rfl, rfl⟩
set_option maxRecDepth 100000 in
set_option maxHeartbeats 4000000 in
theorem b_X7_body {ox : List (Nat × (Nat → Int32))} {d N : Nat} {H : am_H} {x0 : Int32} (h : wt N H) : am_D ox (d + 1) yX7_body mX7_body [.ref 288, .int x0] H (fun o H1 => (∃ b, b < 8 ∧ x0 = nI b ∧ o = .inl (some (.int (am_gi H 289 b))) ∧ H1 = am_si (am_si H 288 37 0) 289 b 0) ∨ ¬ (0 ≤ x0 ∧ x0 ≤ 7) ∧ o = .inl (some (.int 0)) ∧ H1 = am_si H 288 37 1) := by
  refine ae_enter rfl rfl rfl rfl (Nat.le_of_ble_eq_true rfl) ?_
  show am_E ox (d + 1) mX7_body 0 [(0, .ref 288), (1, .int x0)] [] H _
  refine ae_iload_n (q := 1) dX7_body_0 rfl rfl rfl ?_
  refine ae_iconst (v := 0) (q := 2) dX7_body_1 (by decide) rfl ?_
  refine ae_bipush (v := 7) (q := 4) dX7_body_2 (by decide) rfl ?_
  refine ae_wX7 (q := 7) dX7_body_4 lk_X7_105 (Nat.le_of_ble_eq_true rfl) rfl (fun c1 => ?_) (fun c1 => ?_)
  · obtain ⟨b, hb, rfl⟩ := wn_of (N := 7) c1 rfl (by decide)
    refine ae_if_ne (t := 16) (q := 10) dX7_body_7 (by decide) rfl (fun _ => ?_) (fun h => absurd h (by decide))
    refine ae_aload_n (q := 17) dX7_body_16 rfl rfl rfl ?_
    refine ae_iconst (v := 0) (q := 18) dX7_body_17 (by decide) rfl ?_
    refine ae_putI (q := 21) dX7_body_18 fl_X7_101 rfl rfl rfl (s_m h) (h.l (by decide)) rfl ?_
    have h2 : wt N (am_si H 288 37 0) := h.si (T := 19) rfl inr_any
    refine ae_aload_n (q := 22) dX7_body_21 rfl rfl rfl ?_
    refine ae_getR (q := 25) dX7_body_22 fl_X7_7 rfl (s_m h2) (h2.l (by decide)) (r_m h2 (k := 0) (b := 289) (by decide) rfl) rfl ?_
    refine ae_iload_n (q := 26) dX7_body_25 rfl rfl rfl ?_
    refine ae_iald (q := 27) dX7_body_26 (show am_sh H 289 = (100, 8) from h.s (a := 289) (T := 20) (by decide) rfl) (h2.l (by decide)) (vp_in_nI hb (by decide)) rfl ?_
    refine ae_eqi (show am_gi (am_si H 288 37 0) 289 (nI b).toNatClampNeg = am_gi H 289 b from by rw [nI_clamp (show b < 2 ^ 31 by omega)]; exact gi_si rfl (by simp)) ?_
    refine ae_istore_n (lv' := [(2, .int (am_gi H 289 b)), (0, .ref 288), (1, .int (nI b))]) (q := 28) dX7_body_27 rfl (by decide) rfl rfl ?_
    refine ae_aload_n (q := 29) dX7_body_28 rfl rfl rfl ?_
    refine ae_getR (q := 32) dX7_body_29 fl_X7_7 rfl (s_m h2) (h2.l (by decide)) (r_m h2 (k := 0) (b := 289) (by decide) rfl) rfl ?_
    refine ae_iload_n (q := 33) dX7_body_32 rfl rfl rfl ?_
    refine ae_iconst (v := 0) (q := 34) dX7_body_33 (by decide) rfl ?_
    refine ae_iast (q := 35) dX7_body_34 (show am_sh H 289 = (100, 8) from h.s (a := 289) (T := 20) (by decide) rfl) (h2.l (by decide)) (vp_in_nI hb (by decide)) rfl ?_
    refine ae_eqH (show am_si (am_si H 288 37 0) 289 (nI b).toNatClampNeg 0 = am_si (am_si H 288 37 0) 289 b 0 from by rw [nI_clamp (show b < 2 ^ 31 by omega)]) ?_
    refine ae_iload_n (q := 36) dX7_body_35 rfl rfl rfl ?_
    refine ae_iret dX7_body_36 rfl rfl ?_
    exact Or.inl ⟨b, hb, rfl, rfl, rfl⟩
  · refine ae_if_ne (t := 16) (q := 10) dX7_body_7 (by decide) rfl (fun h => absurd h (by decide)) (fun _ => ?_)
    refine ae_aload_n (q := 11) dX7_body_10 rfl rfl rfl ?_
    refine ae_iconst (v := 1) (q := 12) dX7_body_11 (by decide) rfl ?_
    refine ae_callV (ci := 7) (as := [.int 1]) (b := 288) (st := []) (q := 15) dX7_body_12 (b_X7_fail h) myX7_fail lk_X7_109 im_X7_fail se_X7_fail rfl (by decide) (s_m h) (h.l (by decide)) rfl rfl (Nat.le_of_ble_eq_true rfl) rfl (fun o H1 hh => ⟨_, hh.1⟩) (fun v G hv => ?_)
    obtain ⟨hv1, hv2⟩ := hv
    cases hv1
    subst hv2
    refine ⟨Or.inl rfl, ?_⟩
    refine ae_iret dX7_body_15 rfl rfl ?_
    exact Or.inr ⟨c1, rfl, rfl⟩
set_option maxRecDepth 100000 in
set_option maxHeartbeats 4000000 in
theorem b_X0_append {ox : List (Nat × (Nat → Int32))} {d N b : Nat} {H : am_H} {op x s : Int32} (h : wt N H) (f : FB H) (hb : b < 8) (es : am_gi H (2 + 3 * b) 2 = s) (us : 0 ≤ s.toInt) (vs : s.toInt < 16) : am_D ox d yX0_append mX0_append [.ref (2 + 3 * b), .int op, .int x] H (fun o H1 => o = .inl none ∧ H1 = am_si (am_si (am_si H (3 + 3 * b) s.toNatClampNeg op) (4 + 3 * b) s.toNatClampNeg x) (2 + 3 * b) 2 (s + 1)) := by
  refine ae_enter rfl rfl rfl rfl (Nat.le_of_ble_eq_true rfl) ?_
  show am_E ox d mX0_append 0 [(0, .ref (2 + 3 * b)), (1, .int op), (2, .int x)] [] H _
  refine ae_aload_n (q := 1) dX0_append_0 rfl rfl rfl ?_
  refine ae_getI (q := 4) dX0_append_1 fl_X0_18 rfl (s_b h hb) (h.l (by omega)) rfl ?_
  refine ae_eqi es ?_
  refine ae_bipush (v := 16) (q := 6) dX0_append_4 (by decide) rfl ?_
  refine ae_icmp_ge (t := 39) (q := 9) dX0_append_6 (by decide) rfl (fun c => absurd (i_le (a := 16) (b := s.toInt) (by decide) rfl c) (by omega)) (fun _ => ?_)
  refine ae_aload_n (q := 10) dX0_append_9 rfl rfl rfl ?_
  refine ae_getR (q := 13) dX0_append_10 fl_X0_9 rfl (s_b h hb) (h.l (by omega)) (f.2 b hb).2.1 rfl ?_
  refine ae_aload_n (q := 14) dX0_append_13 rfl rfl rfl ?_
  refine ae_getI (q := 17) dX0_append_14 fl_X0_18 rfl (s_b h hb) (h.l (by omega)) rfl ?_
  refine ae_eqi es ?_
  refine ae_iload_n (q := 18) dX0_append_17 rfl rfl rfl ?_
  refine ae_iast (q := 19) dX0_append_18 (s_o h hb) (h.l (by omega)) (vin us (by omega)) rfl ?_
  refine ae_gen (fun G1 e1 => ?_)
  have n1 : am_nx G1 = am_nx H := by rw [e1]; rfl
  have s1 : am_sh G1 = am_sh H := by rw [e1]; rfl
  have r1 : am_gr G1 = am_gr H := by rw [e1]; rfl
  have q1 : am_gi G1 (2 + 3 * b) 2 = s := by rw [e1]; exact gi_si es (fun q => by have := q.1; omega)
  refine ae_aload_n (q := 20) dX0_append_19 rfl rfl rfl ?_
  refine ae_getR (q := 23) dX0_append_20 fl_X0_15 rfl (by rw [s1]; exact s_b h hb) (by rw [n1]; exact h.l (by omega)) (by rw [r1]; exact (f.2 b hb).2.2) rfl ?_
  refine ae_aload_n (q := 24) dX0_append_23 rfl rfl rfl ?_
  refine ae_getI (q := 27) dX0_append_24 fl_X0_18 rfl (by rw [s1]; exact s_b h hb) (by rw [n1]; exact h.l (by omega)) rfl ?_
  refine ae_eqi q1 ?_
  refine ae_iload_n (q := 28) dX0_append_27 rfl rfl rfl ?_
  refine ae_iast (q := 29) dX0_append_28 (by rw [s1]; exact s_g h hb) (by rw [n1]; exact h.l (by omega)) (vin us (by omega)) rfl ?_
  refine ae_gen (fun G2 e2 => ?_)
  have n2 : am_nx G2 = am_nx H := by rw [e2]; exact n1
  have s2 : am_sh G2 = am_sh H := by rw [e2]; exact s1
  have q2 : am_gi G2 (2 + 3 * b) 2 = s := by rw [e2]; exact gi_si q1 (fun q => by have := q.1; omega)
  refine ae_aload_n (q := 30) dX0_append_29 rfl rfl rfl ?_
  refine ae_dup (q := 31) dX0_append_30 rfl rfl ?_
  refine ae_getI (q := 34) dX0_append_31 fl_X0_18 rfl (by rw [s2]; exact s_b h hb) (by rw [n2]; exact h.l (by omega)) rfl ?_
  refine ae_eqi q2 ?_
  refine ae_iconst (v := 1) (q := 35) dX0_append_34 (by decide) rfl ?_
  refine ae_iadd (q := 36) dX0_append_35 rfl ?_
  refine ae_putI (q := 39) dX0_append_36 fl_X0_18 rfl rfl rfl (by rw [s2]; exact s_b h hb) (by rw [n2]; exact h.l (by omega)) rfl ?_
  refine ae_vret dX0_append_39 rfl ?_
  exact ⟨rfl, by rw [e2, e1]⟩
set_option maxRecDepth 100000 in
set_option maxHeartbeats 4000000 in
theorem b_X6_add {ox : List (Nat × (Nat → Int32))} {d N : Nat} {H : am_H} {x0 x1 x2 : Int32} (ho : oxt ox) (h : wt N H) (f : FB H) : am_DB 1 ox (d + 6) yX6_add mX6_add [.ref 0, .int x0, .int x1, .int x2] H (fun o H1 => (∃ b, b < 8 ∧ x0 = nI b ∧ ins x1 x2 ∧ ((am_gi H (2 + 3 * b) 2).toInt < 16 ∧ o = .inl (some (.int ((am_gi H (2 + 3 * b) 2) + 1))) ∧ H1 = am_si (am_si (am_si H (3 + 3 * b) (am_gi H (2 + 3 * b) 2).toNatClampNeg x1) (4 + 3 * b) (am_gi H (2 + 3 * b) 2).toNatClampNeg x2) (2 + 3 * b) 2 ((am_gi H (2 + 3 * b) 2) + 1) ∨ 16 ≤ (am_gi H (2 + 3 * b) 2).toInt ∧ o = .inr "java/lang/IllegalStateException" ∧ H1 = am_ga H 1 6)) ∨ ¬ ((0 ≤ x0 ∧ x0 ≤ 7) ∧ ins x1 x2) ∧ o = .inr "java/lang/IllegalArgumentException" ∧ H1 = am_ga H 1 6) := by
  refine ae_enter rfl rfl rfl rfl (Nat.le_of_ble_eq_true rfl) ?_
  show am_EB 1 ox (d + 6) mX6_add 0 [(0, .ref 0), (1, .int x0), (2, .int x1), (3, .int x2)] [] H _
  refine ae_iload_n (q := 1) dX6_add_0 rfl rfl rfl ?_
  refine ae_iconst (v := 0) (q := 2) dX6_add_1 (by decide) rfl ?_
  refine ae_bipush (v := 7) (q := 4) dX6_add_2 (by decide) rfl ?_
  refine ae_wX6 (q := 7) dX6_add_4 lk_X6_25 (Nat.le_of_ble_eq_true rfl) rfl (fun c1 => ?_) (fun c1 => ?_)
  · refine ae_if_eq (t := 18) (q := 10) dX6_add_7 (by decide) rfl (fun h => absurd h (by decide)) (fun _ => ?_)
    refine ae_iload_n (q := 11) dX6_add_10 rfl rfl rfl ?_
    refine ae_iload_n (q := 12) dX6_add_11 rfl rfl rfl ?_
    refine ae_iX6 ho (q := 15) dX6_add_12 lk_X6_40 (Nat.le_of_ble_eq_true rfl) rfl (fun c2 => ?_) (fun c2 => ?_)
    · refine ae_if_ne (t := 28) (q := 18) dX6_add_15 (by decide) rfl (fun _ => ?_) (fun h => absurd h (by decide))
      obtain ⟨b, hb, rfl⟩ := wn_of (N := 7) c1 rfl (by decide)
      refine ae_aload_n (q := 29) dX6_add_28 rfl rfl rfl ?_
      refine ae_getR (q := 32) dX6_add_29 fl_X6_11 rfl (s_0 h) (h.l (by decide)) f.1 rfl ?_
      refine ae_iload_n (q := 33) dX6_add_32 rfl rfl rfl ?_
      refine ae_aald (q := 34) dX6_add_33 (s_1 h) (show am_kinds[3]? = some (103 + 0, .object RX0) from rfl) (h.l (by decide)) (vp_in_nI hb (by decide)) (by rw [nI_clamp (show b < 2 ^ 31 by omega)]; exact (f.2 b hb).1) rfl ?_
      refine ae_getI (q := 37) dX6_add_34 fl_X6_36 rfl (s_b h hb) (h.l (by omega)) rfl ?_
      refine ae_bipush (v := 16) (q := 39) dX6_add_37 (by decide) rfl ?_
      refine ae_icmp_lt (t := 52) (q := 42) dX6_add_39 (by decide) rfl (fun c3 => ?_) (fun c3 => ?_)
      · have c3 := i_lt (a := (am_gi H (2 + 3 * b) 2).toInt) (b := 16) rfl (by decide) c3
        refine ae_aload_n (q := 53) dX6_add_52 rfl rfl rfl ?_
        refine ae_getR (q := 56) dX6_add_53 fl_X6_11 rfl (s_0 h) (h.l (by decide)) f.1 rfl ?_
        refine ae_iload_n (q := 57) dX6_add_56 rfl rfl rfl ?_
        refine ae_aald (q := 58) dX6_add_57 (s_1 h) (show am_kinds[3]? = some (103 + 0, .object RX0) from rfl) (h.l (by decide)) (vp_in_nI hb (by decide)) (by rw [nI_clamp (show b < 2 ^ 31 by omega)]; exact (f.2 b hb).1) rfl ?_
        refine ae_iload_n (q := 59) dX6_add_58 rfl rfl rfl ?_
        refine ae_iload_n (q := 60) dX6_add_59 rfl rfl rfl ?_
        refine ae_callV (ci := 0) (as := [.int x1, .int x2]) (b := (2 + 3 * b)) (st := []) (q := 63) dX6_add_60 (b_X0_append h f hb rfl (sz_b h hb).1 c3) myX0_append lk_X6_51 im_X0_append se_X0_append rfl (by decide) (s_b h hb) (h.l (by omega)) rfl rfl (Nat.le_of_ble_eq_true rfl) rfl (fun o H1 hh => ⟨_, hh.1⟩) (fun v G hv => ?_)
        obtain ⟨hv1, hv2⟩ := hv
        cases hv1
        have nG : am_nx G = am_nx H := by rw [hv2]; rfl
        have sG : am_sh G = am_sh H := by rw [hv2]; rfl
        have rG : am_gr G = am_gr H := by rw [hv2]; rfl
        have qG : am_gi G (2 + 3 * b) 2 = (am_gi H (2 + 3 * b) 2) + 1 := by rw [hv2]; exact gi_set
        refine ⟨Or.inl nG, ?_⟩
        refine ae_aload_n (q := 64) dX6_add_63 rfl rfl rfl ?_
        refine ae_getR (q := 67) dX6_add_64 fl_X6_11 rfl (by rw [sG]; exact s_0 h) (by rw [nG]; exact h.l (by decide)) (by rw [rG]; exact f.1) rfl ?_
        refine ae_iload_n (q := 68) dX6_add_67 rfl rfl rfl ?_
        refine ae_aald (q := 69) dX6_add_68 (by rw [sG]; exact s_1 h) (show am_kinds[3]? = some (103 + 0, .object RX0) from rfl) (by rw [nG]; exact h.l (by decide)) (vp_in_nI hb (by decide)) (by rw [nI_clamp (show b < 2 ^ 31 by omega), rG]; exact (f.2 b hb).1) rfl ?_
        refine ae_getI (q := 72) dX6_add_69 fl_X6_36 rfl (by rw [sG]; exact s_b h hb) (by rw [nG]; exact h.l (by omega)) rfl ?_
        refine ae_eqi qG ?_
        refine ae_iret dX6_add_72 rfl rfl ?_
        exact Or.inl ⟨b, hb, rfl, c2, Or.inl ⟨c3, rfl, hv2⟩⟩
      · have c3 := i_nlt (a := (am_gi H (2 + 3 * b) 2).toInt) (b := 16) rfl (by decide) c3
        refine ae_throw (names := am_exn) (text := "the body is full") dX6_add_42 dX6_add_45 dX6_add_46 dX6_add_48 dX6_add_51 (by decide +kernel) am_exf aw_341 aw_13 (by decide +kernel) tw_ISE (by decide) rfl (Nat.le_of_ble_eq_true rfl) (Nat.le_of_ble_eq_true rfl) (by decide) ?_
        exact Or.inl ⟨b, hb, rfl, c2, Or.inr ⟨c3, rfl, rfl⟩⟩
    · refine ae_if_ne (t := 28) (q := 18) dX6_add_15 (by decide) rfl (fun h => absurd h (by decide)) (fun _ => ?_)
      refine ae_throw (names := am_exn) (text := "no such body or instruction") dX6_add_18 dX6_add_21 dX6_add_22 dX6_add_24 dX6_add_27 (by decide +kernel) am_exf aw_255 aw_12 (by decide +kernel) tw_IAE (by decide) rfl (Nat.le_of_ble_eq_true rfl) (Nat.le_of_ble_eq_true rfl) (by decide) ?_
      exact Or.inr ⟨fun q => c2 q.2, rfl, rfl⟩
  · refine ae_if_eq (t := 18) (q := 10) dX6_add_7 (by decide) rfl (fun _ => ?_) (fun h => absurd rfl h)
    refine ae_throw (names := am_exn) (text := "no such body or instruction") dX6_add_18 dX6_add_21 dX6_add_22 dX6_add_24 dX6_add_27 (by decide +kernel) am_exf aw_255 aw_12 (by decide +kernel) tw_IAE (by decide) rfl (Nat.le_of_ble_eq_true rfl) (Nat.le_of_ble_eq_true rfl) (by decide) ?_
    exact Or.inr ⟨fun q => c1 q.1, rfl, rfl⟩
set_option maxRecDepth 100000 in
set_option maxHeartbeats 4000000 in
theorem b_X7_add {ox : List (Nat × (Nat → Int32))} {d N : Nat} {H : am_H} {x0 x1 x2 : Int32} (h : wt N H) : am_D ox (d + 2) yX7_add mX7_add [.ref 288, .int x0, .int x1, .int x2] H (fun o H1 => (∃ b, b < 8 ∧ x0 = nI b ∧ ins x1 x2 ∧ ((am_gi H 289 b).toInt < 16 ∧ o = .inl (some (.int ((am_gi H 289 b) + 1))) ∧ H1 = am_si (am_si (am_si (am_si H 288 37 0) 290 (16 * b + (am_gi H 289 b).toNatClampNeg) x1) 291 (16 * b + (am_gi H 289 b).toNatClampNeg) x2) 289 b ((am_gi H 289 b) + 1) ∨ (am_gi H 289 b).toInt = 16 ∧ o = .inl (some (.int 0)) ∧ H1 = am_si H 288 37 2)) ∨ ¬ ((0 ≤ x0 ∧ x0 ≤ 7) ∧ ins x1 x2) ∧ o = .inl (some (.int 0)) ∧ H1 = am_si H 288 37 1) := by
  refine ae_enter rfl rfl rfl rfl (Nat.le_of_ble_eq_true rfl) ?_
  show am_E ox (d + 2) mX7_add 0 [(0, .ref 288), (1, .int x0), (2, .int x1), (3, .int x2)] [] H _
  refine ae_iload_n (q := 1) dX7_add_0 rfl rfl rfl ?_
  refine ae_iconst (v := 0) (q := 2) dX7_add_1 (by decide) rfl ?_
  refine ae_bipush (v := 7) (q := 4) dX7_add_2 (by decide) rfl ?_
  refine ae_wX7 (q := 7) dX7_add_4 lk_X7_105 (Nat.le_of_ble_eq_true rfl) rfl (fun c1 => ?_) (fun c1 => ?_)
  · refine ae_if_eq (t := 18) (q := 10) dX7_add_7 (by decide) rfl (fun h => absurd h (by decide)) (fun _ => ?_)
    refine ae_iload_n (q := 11) dX7_add_10 rfl rfl rfl ?_
    refine ae_iload_n (q := 12) dX7_add_11 rfl rfl rfl ?_
    refine ae_fX7 (q := 15) dX7_add_12 lk_X7_113 (Nat.le_of_ble_eq_true rfl) rfl (fun c2 => ?_) (fun c2 => ?_)
    · refine ae_if_ne (t := 24) (q := 18) dX7_add_15 (by decide) rfl (fun _ => ?_) (fun h => absurd h (by decide))
      obtain ⟨b, hb, rfl⟩ := wn_of (N := 7) c1 rfl (by decide)
      have bd := (h.i (a := 289) (T := 20) (k := b) (p := (0, 16)) (by decide) rfl rfl : inr (0, 16) (am_gi H 289 b))
      have b1 : 0 ≤ (am_gi H 289 b).toInt := bd.1
      have b2 : (am_gi H 289 b).toInt ≤ 16 := bd.2
      refine ae_aload_n (q := 25) dX7_add_24 rfl rfl rfl ?_
      refine ae_getR (q := 28) dX7_add_25 fl_X7_7 rfl (s_m h) (h.l (by decide)) (r_m h (k := 0) (b := 289) (by decide) rfl) rfl ?_
      refine ae_iload_n (q := 29) dX7_add_28 rfl rfl rfl ?_
      refine ae_iald (q := 30) dX7_add_29 (n := 8) ((h.s (a := 289) (T := 20) (by decide) rfl : am_sh H 289 = (100, 8))) (h.l (by decide)) (vp_in_nI hb (by decide)) rfl ?_
      refine ae_eqi (show _ = (am_gi H 289 b) from by rw [nI_clamp (show b < 2 ^ 31 by omega)] ) ?_
      refine ae_bipush (v := 16) (q := 32) dX7_add_30 (by decide) rfl ?_
      refine ae_icmp_ne (t := 41) (q := 35) dX7_add_32 (by decide) rfl (fun c3 => ?_) (fun c3 => ?_)
      · have c3 := i_ne (a := (am_gi H 289 b).toInt) (b := 16) rfl (by decide) c3
        have tb : (nI b).toInt = (b : Int) := Int32.toInt_ofNat_of_lt (by omega)
        have t1 : (16 * nI b : Int32).toInt = 16 * (b : Int) := i_mul (a := 16) (b := (b : Int)) (by decide) tb (by omega) (by omega)
        obtain ⟨j, ej⟩ : ∃ j, 16 * nI b + (am_gi H 289 b) = j := ⟨_, rfl⟩
        have tj : j.toInt = 16 * (b : Int) + (am_gi H 289 b).toInt := by rw [← ej]; exact i_add t1 rfl (by omega) (by omega)
        have nj : j.toNatClampNeg = (16 * b + (am_gi H 289 b).toNatClampNeg) := by
          have z1 : j.toNatClampNeg = j.toInt.toNat := rfl
          have z2 : (am_gi H 289 b).toNatClampNeg = (am_gi H 289 b).toInt.toNat := rfl
          omega
        have vj : vp_in j 128 := vin (by omega) (by omega)
        refine ae_aload_n (q := 42) dX7_add_41 rfl rfl rfl ?_
        refine ae_iconst (v := 0) (q := 43) dX7_add_42 (by decide) rfl ?_
        refine ae_putI (q := 46) dX7_add_43 fl_X7_101 rfl rfl rfl (s_m h) (h.l (by decide)) rfl ?_
        refine ae_gen (fun G0 e0 => ?_)
        have n0 : am_nx G0 = am_nx H := by rw [e0]; rfl
        have s0 : am_sh G0 = am_sh H := by rw [e0]; rfl
        have r0 : am_gr G0 = am_gr H := by rw [e0]; rfl
        have m0 : am_gi G0 289 b = (am_gi H 289 b) := by rw [e0]; exact gi_si rfl (by simp)
        refine ae_aload_n (q := 47) dX7_add_46 rfl rfl rfl ?_
        refine ae_getR (q := 50) dX7_add_47 fl_X7_13 rfl (by rw [s0]; exact s_m h) (by rw [n0]; exact h.l (by decide)) (by rw [r0]; exact r_m h (k := 1) (b := 290) (by decide) rfl) rfl ?_
        refine ae_bipush (v := 16) (q := 52) dX7_add_50 (by decide) rfl ?_
        refine ae_iload_n (q := 53) dX7_add_52 rfl rfl rfl ?_
        refine ae_imul (q := 54) dX7_add_53 rfl ?_
        refine ae_aload_n (q := 55) dX7_add_54 rfl rfl rfl ?_
        refine ae_getR (q := 58) dX7_add_55 fl_X7_7 rfl (by rw [s0]; exact s_m h) (by rw [n0]; exact h.l (by decide)) (by rw [r0]; exact r_m h (k := 0) (b := 289) (by decide) rfl) rfl ?_
        refine ae_iload_n (q := 59) dX7_add_58 rfl rfl rfl ?_
        refine ae_iald (q := 60) dX7_add_59 (n := 8) (by rw [s0]; exact (h.s (a := 289) (T := 20) (by decide) rfl : am_sh H 289 = (100, 8))) (by rw [n0]; exact h.l (by decide)) (vp_in_nI hb (by decide)) rfl ?_
        refine ae_eqi (show _ = (am_gi H 289 b) from by rw [nI_clamp (show b < 2 ^ 31 by omega)]; exact m0) ?_
        refine ae_iadd (q := 61) dX7_add_60 rfl ?_
        refine ae_eqi ej ?_
        refine ae_iload_n (q := 62) dX7_add_61 rfl rfl rfl ?_
        refine ae_iast (q := 63) dX7_add_62 (n := 128) (by rw [s0]; exact (h.s (a := 290) (T := 21) (by decide) rfl : am_sh H 290 = (100, 128))) (by rw [n0]; exact h.l (by decide)) vj rfl ?_
        refine ae_gen (fun G1 e1 => ?_)
        have n1 : am_nx G1 = am_nx H := by rw [e1]; exact n0
        have s1 : am_sh G1 = am_sh H := by rw [e1]; exact s0
        have r1 : am_gr G1 = am_gr H := by rw [e1]; exact r0
        have m1 : am_gi G1 289 b = (am_gi H 289 b) := by rw [e1]; exact gi_si m0 (by simp)
        refine ae_aload_n (q := 64) dX7_add_63 rfl rfl rfl ?_
        refine ae_getR (q := 67) dX7_add_64 fl_X7_16 rfl (by rw [s1]; exact s_m h) (by rw [n1]; exact h.l (by decide)) (by rw [r1]; exact r_m h (k := 2) (b := 291) (by decide) rfl) rfl ?_
        refine ae_bipush (v := 16) (q := 69) dX7_add_67 (by decide) rfl ?_
        refine ae_iload_n (q := 70) dX7_add_69 rfl rfl rfl ?_
        refine ae_imul (q := 71) dX7_add_70 rfl ?_
        refine ae_aload_n (q := 72) dX7_add_71 rfl rfl rfl ?_
        refine ae_getR (q := 75) dX7_add_72 fl_X7_7 rfl (by rw [s1]; exact s_m h) (by rw [n1]; exact h.l (by decide)) (by rw [r1]; exact r_m h (k := 0) (b := 289) (by decide) rfl) rfl ?_
        refine ae_iload_n (q := 76) dX7_add_75 rfl rfl rfl ?_
        refine ae_iald (q := 77) dX7_add_76 (n := 8) (by rw [s1]; exact (h.s (a := 289) (T := 20) (by decide) rfl : am_sh H 289 = (100, 8))) (by rw [n1]; exact h.l (by decide)) (vp_in_nI hb (by decide)) rfl ?_
        refine ae_eqi (show _ = (am_gi H 289 b) from by rw [nI_clamp (show b < 2 ^ 31 by omega)]; exact m1) ?_
        refine ae_iadd (q := 78) dX7_add_77 rfl ?_
        refine ae_eqi ej ?_
        refine ae_iload_n (q := 79) dX7_add_78 rfl rfl rfl ?_
        refine ae_iast (q := 80) dX7_add_79 (n := 128) (by rw [s1]; exact (h.s (a := 291) (T := 22) (by decide) rfl : am_sh H 291 = (100, 128))) (by rw [n1]; exact h.l (by decide)) vj rfl ?_
        refine ae_gen (fun G2 e2 => ?_)
        have n2 : am_nx G2 = am_nx H := by rw [e2]; exact n1
        have s2 : am_sh G2 = am_sh H := by rw [e2]; exact s1
        have r2 : am_gr G2 = am_gr H := by rw [e2]; exact r1
        have m2 : am_gi G2 289 b = (am_gi H 289 b) := by rw [e2]; exact gi_si m1 (by simp)
        refine ae_aload_n (q := 81) dX7_add_80 rfl rfl rfl ?_
        refine ae_getR (q := 84) dX7_add_81 fl_X7_7 rfl (by rw [s2]; exact s_m h) (by rw [n2]; exact h.l (by decide)) (by rw [r2]; exact r_m h (k := 0) (b := 289) (by decide) rfl) rfl ?_
        refine ae_iload_n (q := 85) dX7_add_84 rfl rfl rfl ?_
        refine ae_dup2 (q := 86) dX7_add_85 rfl rfl rfl ?_
        refine ae_iald (q := 87) dX7_add_86 (n := 8) (by rw [s2]; exact (h.s (a := 289) (T := 20) (by decide) rfl : am_sh H 289 = (100, 8))) (by rw [n2]; exact h.l (by decide)) (vp_in_nI hb (by decide)) rfl ?_
        refine ae_eqi (show _ = (am_gi H 289 b) from by rw [nI_clamp (show b < 2 ^ 31 by omega)]; exact m2) ?_
        refine ae_iconst (v := 1) (q := 88) dX7_add_87 (by decide) rfl ?_
        refine ae_iadd (q := 89) dX7_add_88 rfl ?_
        refine ae_iast (q := 90) dX7_add_89 (n := 8) (by rw [s2]; exact (h.s (a := 289) (T := 20) (by decide) rfl : am_sh H 289 = (100, 8))) (by rw [n2]; exact h.l (by decide)) (vp_in_nI hb (by decide)) rfl ?_
        refine ae_eqH (show _ = am_si G2 289 b ((am_gi H 289 b) + 1) from by rw [nI_clamp (show b < 2 ^ 31 by omega)]) ?_
        refine ae_gen (fun G3 e3 => ?_)
        have n3 : am_nx G3 = am_nx H := by rw [e3]; exact n2
        have s3 : am_sh G3 = am_sh H := by rw [e3]; exact s2
        have r3 : am_gr G3 = am_gr H := by rw [e3]; exact r2
        have m3 : am_gi G3 289 b = (am_gi H 289 b) + 1 := by rw [e3]; exact gi_set
        refine ae_aload_n (q := 91) dX7_add_90 rfl rfl rfl ?_
        refine ae_getR (q := 94) dX7_add_91 fl_X7_7 rfl (by rw [s3]; exact s_m h) (by rw [n3]; exact h.l (by decide)) (by rw [r3]; exact r_m h (k := 0) (b := 289) (by decide) rfl) rfl ?_
        refine ae_iload_n (q := 95) dX7_add_94 rfl rfl rfl ?_
        refine ae_iald (q := 96) dX7_add_95 (n := 8) (by rw [s3]; exact (h.s (a := 289) (T := 20) (by decide) rfl : am_sh H 289 = (100, 8))) (by rw [n3]; exact h.l (by decide)) (vp_in_nI hb (by decide)) rfl ?_
        refine ae_eqi (show _ = (am_gi H 289 b) + 1 from by rw [nI_clamp (show b < 2 ^ 31 by omega)]; exact m3) ?_
        refine ae_iret dX7_add_96 rfl rfl ?_
        exact Or.inl ⟨b, hb, rfl, c2, Or.inl ⟨by omega, rfl, by rw [e3, e2, e1, e0, nj]⟩⟩
      · have c3 := i_eq (a := (am_gi H 289 b).toInt) (b := 16) rfl (by decide) c3
        refine ae_aload_n (q := 36) dX7_add_35 rfl rfl rfl ?_
        refine ae_iconst (v := 2) (q := 37) dX7_add_36 (by decide) rfl ?_
        refine ae_callV (ci := 7) (as := [.int 2]) (b := 288) (st := []) (q := 40) dX7_add_37 (b_X7_fail h) myX7_fail lk_X7_109 im_X7_fail se_X7_fail rfl (by decide) (s_m h) (h.l (by decide)) rfl rfl (Nat.le_of_ble_eq_true rfl) rfl (fun o H1 hh => ⟨_, hh.1⟩) (fun v G hv => ?_)
        obtain ⟨hv1, hv2⟩ := hv
        cases hv1
        subst hv2
        refine ⟨Or.inl rfl, ?_⟩
        refine ae_iret dX7_add_40 rfl rfl ?_
        exact Or.inl ⟨b, hb, rfl, c2, Or.inr ⟨c3, rfl, rfl⟩⟩
    · refine ae_if_ne (t := 24) (q := 18) dX7_add_15 (by decide) rfl (fun h => absurd h (by decide)) (fun _ => ?_)
      refine ae_aload_n (q := 19) dX7_add_18 rfl rfl rfl ?_
      refine ae_iconst (v := 1) (q := 20) dX7_add_19 (by decide) rfl ?_
      refine ae_callV (ci := 7) (as := [.int 1]) (b := 288) (st := []) (q := 23) dX7_add_20 (b_X7_fail h) myX7_fail lk_X7_109 im_X7_fail se_X7_fail rfl (by decide) (s_m h) (h.l (by decide)) rfl rfl (Nat.le_of_ble_eq_true rfl) rfl (fun o H1 hh => ⟨_, hh.1⟩) (fun v G hv => ?_)
      obtain ⟨hv1, hv2⟩ := hv
      cases hv1
      subst hv2
      refine ⟨Or.inl rfl, ?_⟩
      refine ae_iret dX7_add_23 rfl rfl ?_
      exact Or.inr ⟨fun q => c2 q.2, rfl, rfl⟩
  · refine ae_if_eq (t := 18) (q := 10) dX7_add_7 (by decide) rfl (fun _ => ?_) (fun h => absurd rfl h)
    refine ae_aload_n (q := 19) dX7_add_18 rfl rfl rfl ?_
    refine ae_iconst (v := 1) (q := 20) dX7_add_19 (by decide) rfl ?_
    refine ae_callV (ci := 7) (as := [.int 1]) (b := 288) (st := []) (q := 23) dX7_add_20 (b_X7_fail h) myX7_fail lk_X7_109 im_X7_fail se_X7_fail rfl (by decide) (s_m h) (h.l (by decide)) rfl rfl (Nat.le_of_ble_eq_true rfl) rfl (fun o H1 hh => ⟨_, hh.1⟩) (fun v G hv => ?_)
    obtain ⟨hv1, hv2⟩ := hv
    cases hv1
    subst hv2
    refine ⟨Or.inl rfl, ?_⟩
    refine ae_iret dX7_add_23 rfl rfl ?_
    exact Or.inr ⟨fun q => c1 q.1, rfl, rfl⟩
