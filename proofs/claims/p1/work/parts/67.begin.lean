/-! begin: the class on fresh objects. -/
/-- only ints of the class's objects, and the first task's references, have changed -/
def kz (H G : am_H) : Prop := am_nx G = am_nx H ∧ am_sh G = am_sh H ∧ (∀ x, x ≠ 29 → am_gr G x = am_gr H x) ∧ (∀ x, 288 ≤ x → am_gi G x = am_gi H x) ∧ ∀ x, am_gl G x = am_gl H x
theorem kz.rf {H : am_H} : kz H H := ⟨rfl, rfl, fun _ _ => rfl, fun _ _ => rfl, fun _ => rfl⟩
theorem kz.trans {H G K : am_H} (h : kz H G) (k : kz G K) : kz H K := ⟨k.1.trans h.1, k.2.1.trans h.2.1, fun x hx => (k.2.2.1 x hx).trans (h.2.2.1 x hx), fun x hx => (k.2.2.2.1 x hx).trans (h.2.2.2.1 x hx), fun x => (k.2.2.2.2 x).trans (h.2.2.2.2 x)⟩
theorem kz.si {H G : am_H} {a k : Nat} {v : Int32} (h : kz H G) (ha : a < 288) : kz H (am_si G a k v) := ⟨h.1, h.2.1, h.2.2.1, fun x hx => (funext fun y => if_neg (fun q => by have := q.1; omega) : am_gi (am_si G a k v) x = am_gi G x).trans (h.2.2.2.1 x hx), h.2.2.2.2⟩
theorem kz.sr {H G : am_H} {k : Nat} {v : Option Nat} (h : kz H G) : kz H (am_sr G 29 k v) := ⟨h.1, h.2.1, fun x hx => (funext fun y => if_neg (fun q => hx q.1) : am_gr (am_sr G 29 k v) x = am_gr G x).trans (h.2.2.1 x hx), h.2.2.2.1, h.2.2.2.2⟩
theorem kz.s {H G : am_H} {x : Nat} {z : Nat × Nat} (h : kz H G) (e : am_sh H x = z) : am_sh G x = z := by rw [h.2.1]; exact e
theorem kz.r {H G : am_H} {x y : Nat} {z : Option Nat} (h : kz H G) (e : am_gr H x y = z) (hx : x ≠ 29) : am_gr G x y = z := by rw [h.2.2.1 x hx]; exact e
theorem kz.l {H G : am_H} {x : Nat} (h : kz H G) (e : x < am_nx H) : x < am_nx G := by rw [h.1]; exact e
theorem kz.pz {H G : am_H} (h : kz H G) : pz H G := ⟨h.1, fun x h1 h2 => ⟨by rw [h.2.1], h.2.2.1 x (by omega), h.2.2.2.1 x h1⟩, fun x _ => h.2.2.2.2 x⟩
def yFill : MethodName := ⟨"java/util/Arrays", "fill", "([II)V"⟩
abbrev mFill : am_M := ("java/util/Arrays", prog_21_method_103_code, 4, (Option.none : Option Jvm.ClassFile.FieldType), "fill", [])
theorem myFill : am_My yFill mFill 2 := ⟨aw_385, aw_14, by decide +kernel, by decide⟩
theorem dFill_0 : decode prog_21_method_103_code 0 = .ok (.iconst 0, 1) := by decide +kernel
theorem dFill_1 : decode prog_21_method_103_code 1 = .ok (.istore_n 2, 1) := by decide +kernel
theorem dFill_2 : decode prog_21_method_103_code 2 = .ok (.aload_n 0, 1) := by decide +kernel
theorem dFill_3 : decode prog_21_method_103_code 3 = .ok (.arraylength, 1) := by decide +kernel
theorem dFill_4 : decode prog_21_method_103_code 4 = .ok (.istore_n 3, 1) := by decide +kernel
theorem dFill_5 : decode prog_21_method_103_code 5 = .ok (.iload_n 2, 1) := by decide +kernel
theorem dFill_6 : decode prog_21_method_103_code 6 = .ok (.iload_n 3, 1) := by decide +kernel
theorem dFill_7 : decode prog_21_method_103_code 7 = .ok (.if_icmp .ge 13, 3) := by decide +kernel
theorem dFill_10 : decode prog_21_method_103_code 10 = .ok (.aload_n 0, 1) := by decide +kernel
theorem dFill_11 : decode prog_21_method_103_code 11 = .ok (.iload_n 2, 1) := by decide +kernel
theorem dFill_12 : decode prog_21_method_103_code 12 = .ok (.iload_n 1, 1) := by decide +kernel
theorem dFill_13 : decode prog_21_method_103_code 13 = .ok (.iastore, 1) := by decide +kernel
theorem dFill_14 : decode prog_21_method_103_code 14 = .ok (.iinc 2 1, 3) := by decide +kernel
theorem dFill_17 : decode prog_21_method_103_code 17 = .ok (.goto (-12), 3) := by decide +kernel
theorem dFill_20 : decode prog_21_method_103_code 20 = .ok (.return_, 1) := by decide +kernel
set_option maxRecDepth 100000 in
set_option maxHeartbeats 4000000 in
theorem lp_fill {ox : List (Nat × (Nat → Int32))} {d a n : Nat} {x : Int32} {H0 : am_H} (hn : n < 2 ^ 31) (ha : a < 288) : ∀ (k b : Nat) (H : am_H), b + k = n → kz H0 H → am_sh H a = (100, n) → a < am_nx H → am_E ox d mFill 5 [(2, .int (nI b)), (3, .int (nI n)), (0, .ref a), (1, .int x)] [] H (fun o H1 => o = .inl none ∧ kz H0 H1) := by
  intro k
  induction k with
  | zero =>
    intro b H hb hk hs hl
    obtain rfl : b = n := by omega
    refine ae_iload_n (q := 6) dFill_5 rfl rfl rfl ?_
    refine ae_iload_n (q := 7) dFill_6 rfl rfl rfl ?_
    refine ae_icmp_ge (t := 20) (q := 10) dFill_7 (by decide) rfl (fun _ => ?_) (fun c => absurd (nI_le (Nat.le_refl _) hn) c)
    refine ae_vret dFill_20 rfl ?_
    exact ⟨rfl, hk⟩
  | succ k ih =>
    intro b H hb hk hs hl
    have hbn : b < n := by omega
    refine ae_iload_n (q := 6) dFill_5 rfl rfl rfl ?_
    refine ae_iload_n (q := 7) dFill_6 rfl rfl rfl ?_
    refine ae_icmp_ge (t := 20) (q := 10) dFill_7 (by decide) rfl (fun c => absurd c (nI_ge hbn hn)) (fun _ => ?_)
    refine ae_aload_n (q := 11) dFill_10 rfl rfl rfl ?_
    refine ae_iload_n (q := 12) dFill_11 rfl rfl rfl ?_
    refine ae_iload_n (q := 13) dFill_12 rfl rfl rfl ?_
    refine ae_iast (q := 14) dFill_13 hs hl (vp_in_nI hbn hn) rfl ?_
    refine ae_iinc (v := nI (b + 1)) (lv' := [(2, .int (nI (b + 1))), (3, .int (nI n)), (0, .ref a), (1, .int x)]) (q := 17) dFill_14 rfl (nI_1 b) (by decide) rfl rfl ?_
    refine ae_goto (q := 5) dFill_17 (by decide) ?_
    exact ih (b + 1) _ (by omega) (hk.si ha) hs hl
theorem e_fill {ox : List (Nat × (Nat → Int32))} {d a n : Nat} {x : Int32} {H : am_H} (h0 : 0 < n) (hn : n < 2 ^ 31) (ha : a < 288) (hs : am_sh H a = (100, n)) (hl : a < am_nx H) : am_D ox d yFill mFill [.ref a, .int x] H (fun o H1 => o = .inl none ∧ kz H H1) := by
  refine ae_enter rfl rfl rfl rfl (Nat.le_of_ble_eq_true rfl) ?_
  show am_E ox d mFill 0 [(0, .ref a), (1, .int x)] [] H _
  refine ae_iconst (v := 0) (q := 1) dFill_0 (by decide) rfl ?_
  refine ae_istore_n (lv' := [(2, .int (nI 0)), (0, .ref a), (1, .int x)]) (q := 2) dFill_1 rfl (by decide) rfl rfl ?_
  refine ae_aload_n (q := 3) dFill_2 rfl rfl rfl ?_
  refine ae_alen (v := nI n) (t := 0) (q := 4) dFill_3 hs (by decide) rfl hl rfl rfl ?_
  refine ae_istore_n (lv' := [(3, .int (nI n)), (2, .int (nI 0)), (0, .ref a), (1, .int x)]) (q := 5) dFill_4 rfl (by decide) rfl rfl ?_
  refine ae_iload_n (q := 6) dFill_5 rfl rfl rfl ?_
  refine ae_iload_n (q := 7) dFill_6 rfl rfl rfl ?_
  refine ae_icmp_ge (t := 20) (q := 10) dFill_7 (by decide) rfl (fun c => absurd c (nI_ge h0 hn)) (fun _ => ?_)
  refine ae_aload_n (q := 11) dFill_10 rfl rfl rfl ?_
  refine ae_iload_n (q := 12) dFill_11 rfl rfl rfl ?_
  refine ae_iload_n (q := 13) dFill_12 rfl rfl rfl ?_
  refine ae_iast (q := 14) dFill_13 hs hl (vp_in_nI h0 hn) rfl ?_
  refine ae_iinc (v := nI (0 + 1)) (lv' := [(2, .int (nI (0 + 1))), (3, .int (nI n)), (0, .ref a), (1, .int x)]) (q := 17) dFill_14 rfl (nI_1 0) (by decide) rfl rfl ?_
  refine ae_goto (q := 5) dFill_17 (by decide) ?_
  exact lp_fill hn ha (n - 1) (0 + 1) _ (by omega) (kz.rf.si ha) hs hl
set_option maxRecDepth 100000 in
set_option maxHeartbeats 4000000 in
theorem e_X1_reset {ox : List (Nat × (Nat → Int32))} {d : Nat} {H : am_H} {a p : Nat} (ha : a < 288) (hp : p < 288) (hs : am_sh H a = (1, am_Nf 1)) (hb : a < am_nx H) (hr : am_gr H a 1 = some p) (sp : am_sh H p = (100, 48)) (bp : p < am_nx H) : am_D ox (d + 1) yX1_reset mX1_reset [.ref a] H (fun o H1 => o = .inl none ∧ kz H H1) := by
  refine ae_enter rfl rfl rfl rfl (Nat.le_of_ble_eq_true rfl) ?_
  show am_E ox (d + 1) mX1_reset 0 [(0, .ref a)] [] H _
  have hk : kz H H := kz.rf
  refine ae_aload_n (q := 1) dX1_reset_0 rfl rfl rfl ?_
  refine ae_iconst (v := 0) (q := 2) dX1_reset_1 (by decide) rfl ?_
  refine ae_putI (q := 5) dX1_reset_2 fl_X1_21 rfl rfl rfl hs hb rfl ?_
  refine ae_aload_n (q := 6) dX1_reset_5 rfl rfl rfl ?_
  refine ae_getR (q := 9) dX1_reset_6 fl_X1_9 rfl hs hb hr rfl ?_
  refine ae_iconst (v := 0) (q := 10) dX1_reset_9 (by decide) rfl ?_
  refine ae_callS (as := [.ref p, .int 0]) (st := []) (q := 13) dX1_reset_10 (e_fill (by decide) (by decide) hp sp bp) myFill aw_383 aw_384 rfl rfl (Nat.le_of_ble_eq_true rfl) rfl (fun o H1 h => ⟨_, h.1⟩) (fun v G1 hv => ?_)
  obtain ⟨hv1, hv2⟩ := hv
  cases hv1
  refine ⟨Or.inl hv2.1, ?_⟩
  have hk := (hk.si (k := 0) (v := 0) ha).trans hv2
  refine ae_vret dX1_reset_13 rfl ?_
  exact ⟨rfl, hk⟩
set_option maxRecDepth 100000 in
set_option maxHeartbeats 4000000 in
theorem e_X5_reset {ox : List (Nat × (Nat → Int32))} {d a : Nat} {H : am_H} (ha : a < 288) (hs : am_sh H a = (5, am_Nf 5)) (hb : a < am_nx H) : am_D ox d yX5_reset mX5_reset [.ref a] H (fun o H1 => o = .inl none ∧ (kz H H1 ∧ am_gi H1 a 1 = 0)) := by
  refine ae_enter rfl rfl rfl rfl (Nat.le_of_ble_eq_true rfl) ?_
  show am_E ox d mX5_reset 0 [(0, .ref a)] [] H _
  refine ae_aload_n (q := 1) dX5_reset_0 rfl rfl rfl ?_
  refine ae_iconst (v := 0) (q := 2) dX5_reset_1 (by decide) rfl ?_
  refine ae_putI (q := 5) dX5_reset_2 fl_X5_19 rfl rfl rfl hs hb rfl ?_
  refine ae_aload_n (q := 6) dX5_reset_5 rfl rfl rfl ?_
  refine ae_iconst (v := (-1)) (q := 7) dX5_reset_6 (by decide) rfl ?_
  refine ae_putI (q := 10) dX5_reset_7 fl_X5_15 rfl rfl rfl hs hb rfl ?_
  refine ae_vret dX5_reset_10 rfl ?_
  exact ⟨rfl, (kz.rf.si ha).si ha, gi_si gi_set (by omega)⟩
set_option maxRecDepth 100000 in
set_option maxHeartbeats 4000000 in
theorem e_X3_open {ox : List (Nat × (Nat → Int32))} {d : Nat} {H : am_H} {a : Nat} (ho3 : ox[3]? = some (4, fun k => am_t3.getD k 0)) (ha : a < 288) (hs : am_sh H a = (3, am_Nf 3)) (hb : a < am_nx H) : am_D ox d yX3_open mX3_open [.ref a, .int 0, .int 0] H (fun o H1 => o = .inl none ∧ kz H H1) := by
  refine ae_enter rfl rfl rfl rfl (Nat.le_of_ble_eq_true rfl) ?_
  show am_E ox d mX3_open 0 [(0, .ref a), (1, .int 0), (2, .int 0)] [] H _
  have hk : kz H H := kz.rf
  refine ae_aload_n (q := 1) dX3_open_0 rfl rfl rfl ?_
  refine ae_iload_n (q := 2) dX3_open_1 rfl rfl rfl ?_
  refine ae_putI (q := 5) dX3_open_2 fl_X3_9 rfl rfl rfl hs hb rfl ?_
  refine ae_aload_n (q := 6) dX3_open_5 rfl rfl rfl ?_
  refine ae_iload_n (q := 7) dX3_open_6 rfl rfl rfl ?_
  refine ae_putI (q := 10) dX3_open_7 fl_X3_15 rfl rfl rfl hs hb rfl ?_
  refine ae_aload_n (q := 11) dX3_open_10 rfl rfl rfl ?_
  refine ae_iconst (v := 0) (q := 12) dX3_open_11 (by decide) rfl ?_
  refine ae_putI (q := 15) dX3_open_12 fl_X3_18 rfl rfl rfl hs hb rfl ?_
  refine ae_aload_n (q := 16) dX3_open_15 rfl rfl rfl ?_
  refine ae_getsN (i := 3) (q := 19) dX3_open_16 (show ("PhaserYard", "TOTAL_OF_NOTHING", "[I", 3) ∈ am_sts by decide) (show Cond.fieldLinkNest RX3 21 "PhaserYard" "TOTAL_OF_NOTHING" "[I" "PhaserYard" ∈ am_nst by decide +kernel) rfl ?_
  refine ae_iload_n (q := 20) dX3_open_19 rfl rfl rfl ?_
  refine ae_sld (i := 3) (q := 21) dX3_open_20 ho3 (by unfold vp_in; decide) rfl ?_
  refine ae_eqi (show am_t3.getD (0 : Int32).toNatClampNeg 0 = 0 by decide) ?_
  refine ae_putI (q := 24) dX3_open_21 fl_X3_25 rfl rfl rfl hs hb rfl ?_
  refine ae_aload_n (q := 25) dX3_open_24 rfl rfl rfl ?_
  refine ae_iconst (v := 0) (q := 26) dX3_open_25 (by decide) rfl ?_
  refine ae_putI (q := 29) dX3_open_26 fl_X3_28 rfl rfl rfl hs hb rfl ?_
  refine ae_aload_n (q := 30) dX3_open_29 rfl rfl rfl ?_
  refine ae_iconst (v := 0) (q := 31) dX3_open_30 (by decide) rfl ?_
  refine ae_putI (q := 34) dX3_open_31 fl_X3_31 rfl rfl rfl hs hb rfl ?_
  refine ae_vret dX3_open_34 rfl ?_
  exact ⟨rfl, (((((hk.si ha).si ha).si ha).si ha).si ha).si ha⟩
