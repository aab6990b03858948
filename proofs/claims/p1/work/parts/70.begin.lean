/-! begin: the reference on fresh objects. -/
def jz (H G : am_H) : Prop := am_nx G = am_nx H ∧ am_sh G = am_sh H ∧ am_gr G = am_gr H ∧ am_gl G = am_gl H
theorem jz.rf {H : am_H} : jz H H := ⟨rfl, rfl, rfl, rfl⟩
theorem jz.trans {H G K : am_H} (h : jz H G) (k : jz G K) : jz H K := ⟨k.1.trans h.1, k.2.1.trans h.2.1, k.2.2.1.trans h.2.2.1, k.2.2.2.trans h.2.2.2⟩
theorem jz.si {H G : am_H} {a k : Nat} {v : Int32} (h : jz H G) : jz H (am_si G a k v) := h
theorem jz.s {H G : am_H} {x : Nat} {z : Nat × Nat} (h : jz H G) (e : am_sh H x = z) : am_sh G x = z := by rw [h.2.1]; exact e
theorem jz.r {H G : am_H} {x y : Nat} {z : Option Nat} (h : jz H G) (e : am_gr H x y = z) : am_gr G x y = z := by rw [h.2.2.1]; exact e
theorem jz.l {H G : am_H} {x : Nat} (h : jz H G) (e : x < am_nx H) : x < am_nx G := by rw [h.1]; exact e
theorem jz.qz {H G : am_H} (h : jz H G) : qz H G := ⟨h.1, h.2.1, h.2.2.2⟩
theorem gi_row {G : am_H} {a k x : Nat} {v : Int32} {z : Nat → Int32} (e : am_gi G x = z) (h : x ≠ a) : am_gi (am_si G a k v) x = z := (funext fun y => if_neg (fun q => h q.1) : am_gi (am_si G a k v) x = am_gi G x).trans e
set_option maxRecDepth 100000 in
set_option maxHeartbeats 4000000 in
theorem e_X7_openScope {ox : List (Nat × (Nat → Int32))} {d : Nat} {H0 H : am_H} (h : mz H0) (hj : jz H0 H) : am_D ox d yX7_openScope mX7_openScope [.ref 288, .int 144, .int 0, .int 0] H (fun o H1 => o = .inl none ∧ jz H0 H1 ∧ am_gi H1 288 = am_gi H 288 ∧ am_gi H1 316 = am_gi H 316) := by
  refine ae_enter rfl rfl rfl rfl (Nat.le_of_ble_eq_true rfl) ?_
  show am_E ox d mX7_openScope 0 [(0, .ref 288), (1, .int 144), (2, .int 0), (3, .int 0)] [] H _
  have h1 : am_gi H 288 = am_gi H 288 := rfl
  have h2 : am_gi H 316 = am_gi H 316 := rfl
  refine ae_aload_n (q := 1) dX7_openScope_0 rfl rfl rfl ?_
  refine ae_getR (q := 4) dX7_openScope_1 fl_X7_71 rfl (hj.s h.s) (hj.l (h.lt (by decide))) (hj.r (h.r (i := 20) (by decide))) rfl ?_
  refine ae_iload_n (q := 5) dX7_openScope_4 rfl rfl rfl ?_
  refine ae_iconst (v := 0) (q := 6) dX7_openScope_5 (by decide) rfl ?_
  refine ae_iast (q := 7) dX7_openScope_6 (hj.s (show am_sh H0 309 = (100, 145) from h.a (i := 20) (by decide))) (hj.l (h.lt (by decide))) (by unfold vp_in; decide) rfl ?_
  refine ae_eqH (show am_si H 309 (144 : Int32).toNatClampNeg 0 = am_si H 309 144 0 from by rw [show (144 : Int32).toNatClampNeg = 144 from by decide]) ?_
  refine ae_gen (fun G1 eG1 => ?_)
  have hj : jz H0 G1 := by rw [eG1]; exact hj.si
  have h1 : am_gi G1 288 = am_gi H 288 := by rw [eG1]; exact gi_row h1 (by decide)
  have h2 : am_gi G1 316 = am_gi H 316 := by rw [eG1]; exact gi_row h2 (by decide)
  clear eG1
  refine ae_aload_n (q := 8) dX7_openScope_7 rfl rfl rfl ?_
  refine ae_getR (q := 11) dX7_openScope_8 fl_X7_77 rfl (hj.s h.s) (hj.l (h.lt (by decide))) (hj.r (h.r (i := 22) (by decide))) rfl ?_
  refine ae_iload_n (q := 12) dX7_openScope_11 rfl rfl rfl ?_
  refine ae_iload_n (q := 13) dX7_openScope_12 rfl rfl rfl ?_
  refine ae_iast (q := 14) dX7_openScope_13 (hj.s (show am_sh H0 311 = (100, 145) from h.a (i := 22) (by decide))) (hj.l (h.lt (by decide))) (by unfold vp_in; decide) rfl ?_
  refine ae_eqH (show am_si G1 311 (144 : Int32).toNatClampNeg 0 = am_si G1 311 144 0 from by rw [show (144 : Int32).toNatClampNeg = 144 from by decide]) ?_
  refine ae_gen (fun G2 eG2 => ?_)
  have hj : jz H0 G2 := by rw [eG2]; exact hj.si
  have h1 : am_gi G2 288 = am_gi H 288 := by rw [eG2]; exact gi_row h1 (by decide)
  have h2 : am_gi G2 316 = am_gi H 316 := by rw [eG2]; exact gi_row h2 (by decide)
  clear eG2
  refine ae_aload_n (q := 15) dX7_openScope_14 rfl rfl rfl ?_
  refine ae_getR (q := 18) dX7_openScope_15 fl_X7_80 rfl (hj.s h.s) (hj.l (h.lt (by decide))) (hj.r (h.r (i := 23) (by decide))) rfl ?_
  refine ae_iload_n (q := 19) dX7_openScope_18 rfl rfl rfl ?_
  refine ae_iload_n (q := 20) dX7_openScope_19 rfl rfl rfl ?_
  refine ae_iast (q := 21) dX7_openScope_20 (hj.s (show am_sh H0 312 = (100, 145) from h.a (i := 23) (by decide))) (hj.l (h.lt (by decide))) (by unfold vp_in; decide) rfl ?_
  refine ae_eqH (show am_si G2 312 (144 : Int32).toNatClampNeg 0 = am_si G2 312 144 0 from by rw [show (144 : Int32).toNatClampNeg = 144 from by decide]) ?_
  refine ae_gen (fun G3 eG3 => ?_)
  have hj : jz H0 G3 := by rw [eG3]; exact hj.si
  have h1 : am_gi G3 288 = am_gi H 288 := by rw [eG3]; exact gi_row h1 (by decide)
  have h2 : am_gi G3 316 = am_gi H 316 := by rw [eG3]; exact gi_row h2 (by decide)
  clear eG3
  refine ae_aload_n (q := 22) dX7_openScope_21 rfl rfl rfl ?_
  refine ae_getR (q := 25) dX7_openScope_22 fl_X7_83 rfl (hj.s h.s) (hj.l (h.lt (by decide))) (hj.r (h.r (i := 24) (by decide))) rfl ?_
  refine ae_iload_n (q := 26) dX7_openScope_25 rfl rfl rfl ?_
  refine ae_iconst (v := 0) (q := 27) dX7_openScope_26 (by decide) rfl ?_
  refine ae_iast (q := 28) dX7_openScope_27 (hj.s (show am_sh H0 313 = (100, 145) from h.a (i := 24) (by decide))) (hj.l (h.lt (by decide))) (by unfold vp_in; decide) rfl ?_
  refine ae_eqH (show am_si G3 313 (144 : Int32).toNatClampNeg 0 = am_si G3 313 144 0 from by rw [show (144 : Int32).toNatClampNeg = 144 from by decide]) ?_
  refine ae_gen (fun G4 eG4 => ?_)
  have hj : jz H0 G4 := by rw [eG4]; exact hj.si
  have h1 : am_gi G4 288 = am_gi H 288 := by rw [eG4]; exact gi_row h1 (by decide)
  have h2 : am_gi G4 316 = am_gi H 316 := by rw [eG4]; exact gi_row h2 (by decide)
  clear eG4
  refine ae_aload_n (q := 29) dX7_openScope_28 rfl rfl rfl ?_
  refine ae_getR (q := 32) dX7_openScope_29 fl_X7_86 rfl (hj.s h.s) (hj.l (h.lt (by decide))) (hj.r (h.r (i := 25) (by decide))) rfl ?_
  refine ae_iload_n (q := 33) dX7_openScope_32 rfl rfl rfl ?_
  refine ae_iconst (v := 0) (q := 34) dX7_openScope_33 (by decide) rfl ?_
  refine ae_iast (q := 35) dX7_openScope_34 (hj.s (show am_sh H0 314 = (100, 145) from h.a (i := 25) (by decide))) (hj.l (h.lt (by decide))) (by unfold vp_in; decide) rfl ?_
  refine ae_eqH (show am_si G4 314 (144 : Int32).toNatClampNeg 0 = am_si G4 314 144 0 from by rw [show (144 : Int32).toNatClampNeg = 144 from by decide]) ?_
  refine ae_gen (fun G5 eG5 => ?_)
  have hj : jz H0 G5 := by rw [eG5]; exact hj.si
  have h1 : am_gi G5 288 = am_gi H 288 := by rw [eG5]; exact gi_row h1 (by decide)
  have h2 : am_gi G5 316 = am_gi H 316 := by rw [eG5]; exact gi_row h2 (by decide)
  clear eG5
  refine ae_aload_n (q := 36) dX7_openScope_35 rfl rfl rfl ?_
  refine ae_getR (q := 39) dX7_openScope_36 fl_X7_74 rfl (hj.s h.s) (hj.l (h.lt (by decide))) (hj.r (h.r (i := 21) (by decide))) rfl ?_
  refine ae_iload_n (q := 40) dX7_openScope_39 rfl rfl rfl ?_
  refine ae_iload_n (q := 41) dX7_openScope_40 rfl rfl rfl ?_
  refine ae_iconst (v := 1) (q := 42) dX7_openScope_41 (by decide) rfl ?_
  refine ae_icmp_ne (t := 50) (q := 45) dX7_openScope_42 (by decide) rfl (fun _ => ?_) (fun h => absurd h (by decide))
  refine ae_iload_n (q := 51) dX7_openScope_50 rfl rfl rfl ?_
  refine ae_iconst (v := 2) (q := 52) dX7_openScope_51 (by decide) rfl ?_
  refine ae_icmp_ne (t := 60) (q := 55) dX7_openScope_52 (by decide) rfl (fun _ => ?_) (fun h => absurd h (by decide))
  refine ae_iload_n (q := 61) dX7_openScope_60 rfl rfl rfl ?_
  refine ae_iconst (v := 3) (q := 62) dX7_openScope_61 (by decide) rfl ?_
  refine ae_icmp_ne (t := 69) (q := 65) dX7_openScope_62 (by decide) rfl (fun _ => ?_) (fun h => absurd h (by decide))
  refine ae_iconst (v := 0) (q := 70) dX7_openScope_69 (by decide) rfl ?_
  refine ae_iast (q := 71) dX7_openScope_70 (hj.s (show am_sh H0 310 = (100, 145) from h.a (i := 21) (by decide))) (hj.l (h.lt (by decide))) (by unfold vp_in; decide) rfl ?_
  refine ae_eqH (show am_si G5 310 (144 : Int32).toNatClampNeg 0 = am_si G5 310 144 0 from by rw [show (144 : Int32).toNatClampNeg = 144 from by decide]) ?_
  refine ae_gen (fun G6 eG6 => ?_)
  have hj : jz H0 G6 := by rw [eG6]; exact hj.si
  have h1 : am_gi G6 288 = am_gi H 288 := by rw [eG6]; exact gi_row h1 (by decide)
  have h2 : am_gi G6 316 = am_gi H 316 := by rw [eG6]; exact gi_row h2 (by decide)
  clear eG6
  refine ae_vret dX7_openScope_71 rfl ?_
  exact ⟨rfl, hj, h1, h2⟩
set_option maxRecDepth 100000 in
set_option maxHeartbeats 4000000 in
theorem e_X7_newTask {ox : List (Nat × (Nat → Int32))} {d : Nat} {H0 H : am_H} {b v : Int32} (h : mz H0) (hj : jz H0 H) (h3 : am_gi H 288 30 = 0) (h4 : am_gi H 288 37 = 0) : am_D ox d yX7_newTask mX7_newTask [.ref 288, .int b, .int v, .int 144] H (fun o H1 => o = .inl (some (.int 0)) ∧ jz H0 H1 ∧ am_gi H1 288 37 = 0 ∧ am_gi H1 316 = am_gi H 316) := by
  refine ae_enter rfl rfl rfl rfl (Nat.le_of_ble_eq_true rfl) ?_
  show am_E ox d mX7_newTask 0 [(0, .ref 288), (1, .int b), (2, .int v), (3, .int 144)] [] H _
  have h2 : am_gi H 316 = am_gi H 316 := rfl
  refine ae_aload_n (q := 1) dX7_newTask_0 rfl rfl rfl ?_
  refine ae_getI (q := 4) dX7_newTask_1 fl_X7_119 rfl (hj.s h.s) (hj.l (h.lt (by decide))) rfl ?_
  refine ae_eqi (show am_gi H 288 30 = 0 from h3) ?_
  refine ae_istore (lv' := [(4, .int 0), (0, .ref 288), (1, .int b), (2, .int v), (3, .int 144)]) (q := 6) dX7_newTask_4 (by decide) rfl rfl ?_
  refine ae_aload_n (q := 7) dX7_newTask_6 rfl rfl rfl ?_
  refine ae_dup (q := 8) dX7_newTask_7 rfl rfl ?_
  refine ae_getI (q := 11) dX7_newTask_8 fl_X7_119 rfl (hj.s h.s) (hj.l (h.lt (by decide))) rfl ?_
  refine ae_eqi (show am_gi H 288 30 = 0 from h3) ?_
  refine ae_iconst (v := 1) (q := 12) dX7_newTask_11 (by decide) rfl ?_
  refine ae_iadd (q := 13) dX7_newTask_12 rfl ?_
  refine ae_putI (q := 16) dX7_newTask_13 fl_X7_119 rfl rfl rfl (hj.s h.s) (hj.l (h.lt (by decide))) rfl ?_
  refine ae_gen (fun G1 eG1 => ?_)
  have hj : jz H0 G1 := by rw [eG1]; exact hj.si
  have h3 : am_gi G1 288 30 = 0 + 1 := by rw [eG1]; exact gi_set
  have h4 : am_gi G1 288 37 = 0 := by rw [eG1]; exact gi_si h4 (by decide)
  have h2 : am_gi G1 316 = am_gi H 316 := by rw [eG1]; exact gi_row h2 (by decide)
  clear eG1
  refine ae_aload_n (q := 17) dX7_newTask_16 rfl rfl rfl ?_
  refine ae_getR (q := 20) dX7_newTask_17 fl_X7_28 rfl (hj.s h.s) (hj.l (h.lt (by decide))) (hj.r (h.r (i := 6) (by decide))) rfl ?_
  refine ae_iload (q := 22) dX7_newTask_20 rfl rfl ?_
  refine ae_iload_n (q := 23) dX7_newTask_22 rfl rfl rfl ?_
  refine ae_iast (q := 24) dX7_newTask_23 (hj.s (show am_sh H0 295 = (100, 48) from h.a (i := 6) (by decide))) (hj.l (h.lt (by decide))) (by unfold vp_in; decide) rfl ?_
  refine ae_eqH (show am_si G1 295 (0 : Int32).toNatClampNeg b = am_si G1 295 0 b from by rw [show (0 : Int32).toNatClampNeg = 0 from by decide]) ?_
  refine ae_gen (fun G2 eG2 => ?_)
  have hj : jz H0 G2 := by rw [eG2]; exact hj.si
  have h3 : am_gi G2 288 30 = 0 + 1 := by rw [eG2]; exact gi_si h3 (by decide)
  have h4 : am_gi G2 288 37 = 0 := by rw [eG2]; exact gi_si h4 (by decide)
  have h2 : am_gi G2 316 = am_gi H 316 := by rw [eG2]; exact gi_row h2 (by decide)
  clear eG2
  refine ae_aload_n (q := 25) dX7_newTask_24 rfl rfl rfl ?_
  refine ae_getR (q := 28) dX7_newTask_25 fl_X7_22 rfl (hj.s h.s) (hj.l (h.lt (by decide))) (hj.r (h.r (i := 4) (by decide))) rfl ?_
  refine ae_iload (q := 30) dX7_newTask_28 rfl rfl ?_
  refine ae_iload_n (q := 31) dX7_newTask_30 rfl rfl rfl ?_
  refine ae_iast (q := 32) dX7_newTask_31 (hj.s (show am_sh H0 293 = (100, 48) from h.a (i := 4) (by decide))) (hj.l (h.lt (by decide))) (by unfold vp_in; decide) rfl ?_
  refine ae_eqH (show am_si G2 293 (0 : Int32).toNatClampNeg v = am_si G2 293 0 v from by rw [show (0 : Int32).toNatClampNeg = 0 from by decide]) ?_
  refine ae_gen (fun G3 eG3 => ?_)
  have hj : jz H0 G3 := by rw [eG3]; exact hj.si
  have h3 : am_gi G3 288 30 = 0 + 1 := by rw [eG3]; exact gi_si h3 (by decide)
  have h4 : am_gi G3 288 37 = 0 := by rw [eG3]; exact gi_si h4 (by decide)
  have h2 : am_gi G3 316 = am_gi H 316 := by rw [eG3]; exact gi_row h2 (by decide)
  clear eG3
  refine ae_aload_n (q := 33) dX7_newTask_32 rfl rfl rfl ?_
  refine ae_getR (q := 36) dX7_newTask_33 fl_X7_25 rfl (hj.s h.s) (hj.l (h.lt (by decide))) (hj.r (h.r (i := 5) (by decide))) rfl ?_
  refine ae_iload (q := 38) dX7_newTask_36 rfl rfl ?_
  refine ae_iconst (v := 0) (q := 39) dX7_newTask_38 (by decide) rfl ?_
  refine ae_iast (q := 40) dX7_newTask_39 (hj.s (show am_sh H0 294 = (100, 48) from h.a (i := 5) (by decide))) (hj.l (h.lt (by decide))) (by unfold vp_in; decide) rfl ?_
  refine ae_eqH (show am_si G3 294 (0 : Int32).toNatClampNeg 0 = am_si G3 294 0 0 from by rw [show (0 : Int32).toNatClampNeg = 0 from by decide]) ?_
  refine ae_gen (fun G4 eG4 => ?_)
  have hj : jz H0 G4 := by rw [eG4]; exact hj.si
  have h3 : am_gi G4 288 30 = 0 + 1 := by rw [eG4]; exact gi_si h3 (by decide)
  have h4 : am_gi G4 288 37 = 0 := by rw [eG4]; exact gi_si h4 (by decide)
  have h2 : am_gi G4 316 = am_gi H 316 := by rw [eG4]; exact gi_row h2 (by decide)
  clear eG4
  refine ae_aload_n (q := 41) dX7_newTask_40 rfl rfl rfl ?_
  refine ae_getR (q := 44) dX7_newTask_41 fl_X7_34 rfl (hj.s h.s) (hj.l (h.lt (by decide))) (hj.r (h.r (i := 8) (by decide))) rfl ?_
  refine ae_iload (q := 46) dX7_newTask_44 rfl rfl ?_
  refine ae_iconst (v := 0) (q := 47) dX7_newTask_46 (by decide) rfl ?_
  refine ae_iast (q := 48) dX7_newTask_47 (hj.s (show am_sh H0 297 = (100, 48) from h.a (i := 8) (by decide))) (hj.l (h.lt (by decide))) (by unfold vp_in; decide) rfl ?_
  refine ae_eqH (show am_si G4 297 (0 : Int32).toNatClampNeg 0 = am_si G4 297 0 0 from by rw [show (0 : Int32).toNatClampNeg = 0 from by decide]) ?_
  refine ae_gen (fun G5 eG5 => ?_)
  have hj : jz H0 G5 := by rw [eG5]; exact hj.si
  have h3 : am_gi G5 288 30 = 0 + 1 := by rw [eG5]; exact gi_si h3 (by decide)
  have h4 : am_gi G5 288 37 = 0 := by rw [eG5]; exact gi_si h4 (by decide)
  have h2 : am_gi G5 316 = am_gi H 316 := by rw [eG5]; exact gi_row h2 (by decide)
  clear eG5
  refine ae_aload_n (q := 49) dX7_newTask_48 rfl rfl rfl ?_
  refine ae_getR (q := 52) dX7_newTask_49 fl_X7_31 rfl (hj.s h.s) (hj.l (h.lt (by decide))) (hj.r (h.r (i := 7) (by decide))) rfl ?_
  refine ae_iload (q := 54) dX7_newTask_52 rfl rfl ?_
  refine ae_iload_n (q := 55) dX7_newTask_54 rfl rfl rfl ?_
  refine ae_iast (q := 56) dX7_newTask_55 (hj.s (show am_sh H0 296 = (100, 48) from h.a (i := 7) (by decide))) (hj.l (h.lt (by decide))) (by unfold vp_in; decide) rfl ?_
  refine ae_eqH (show am_si G5 296 (0 : Int32).toNatClampNeg 144 = am_si G5 296 0 144 from by rw [show (0 : Int32).toNatClampNeg = 0 from by decide]) ?_
  refine ae_gen (fun G6 eG6 => ?_)
  have hj : jz H0 G6 := by rw [eG6]; exact hj.si
  have h3 : am_gi G6 288 30 = 0 + 1 := by rw [eG6]; exact gi_si h3 (by decide)
  have h4 : am_gi G6 288 37 = 0 := by rw [eG6]; exact gi_si h4 (by decide)
  have h2 : am_gi G6 316 = am_gi H 316 := by rw [eG6]; exact gi_row h2 (by decide)
  clear eG6
  refine ae_aload_n (q := 57) dX7_newTask_56 rfl rfl rfl ?_
  refine ae_getR (q := 60) dX7_newTask_57 fl_X7_19 rfl (hj.s h.s) (hj.l (h.lt (by decide))) (hj.r (h.r (i := 3) (by decide))) rfl ?_
  refine ae_iload (q := 62) dX7_newTask_60 rfl rfl ?_
  refine ae_iconst (v := 0) (q := 63) dX7_newTask_62 (by decide) rfl ?_
  refine ae_iast (q := 64) dX7_newTask_63 (hj.s (show am_sh H0 292 = (100, 48) from h.a (i := 3) (by decide))) (hj.l (h.lt (by decide))) (by unfold vp_in; decide) rfl ?_
  refine ae_eqH (show am_si G6 292 (0 : Int32).toNatClampNeg 0 = am_si G6 292 0 0 from by rw [show (0 : Int32).toNatClampNeg = 0 from by decide]) ?_
  refine ae_gen (fun G7 eG7 => ?_)
  have hj : jz H0 G7 := by rw [eG7]; exact hj.si
  have h3 : am_gi G7 288 30 = 0 + 1 := by rw [eG7]; exact gi_si h3 (by decide)
  have h4 : am_gi G7 288 37 = 0 := by rw [eG7]; exact gi_si h4 (by decide)
  have h2 : am_gi G7 316 = am_gi H 316 := by rw [eG7]; exact gi_row h2 (by decide)
  clear eG7
  refine ae_aload_n (q := 65) dX7_newTask_64 rfl rfl rfl ?_
  refine ae_getR (q := 68) dX7_newTask_65 fl_X7_37 rfl (hj.s h.s) (hj.l (h.lt (by decide))) (hj.r (h.r (i := 9) (by decide))) rfl ?_
  refine ae_iload (q := 70) dX7_newTask_68 rfl rfl ?_
  refine ae_iconst (v := 0) (q := 71) dX7_newTask_70 (by decide) rfl ?_
  refine ae_iast (q := 72) dX7_newTask_71 (hj.s (show am_sh H0 298 = (100, 48) from h.a (i := 9) (by decide))) (hj.l (h.lt (by decide))) (by unfold vp_in; decide) rfl ?_
  refine ae_eqH (show am_si G7 298 (0 : Int32).toNatClampNeg 0 = am_si G7 298 0 0 from by rw [show (0 : Int32).toNatClampNeg = 0 from by decide]) ?_
  refine ae_gen (fun G8 eG8 => ?_)
  have hj : jz H0 G8 := by rw [eG8]; exact hj.si
  have h3 : am_gi G8 288 30 = 0 + 1 := by rw [eG8]; exact gi_si h3 (by decide)
  have h4 : am_gi G8 288 37 = 0 := by rw [eG8]; exact gi_si h4 (by decide)
  have h2 : am_gi G8 316 = am_gi H 316 := by rw [eG8]; exact gi_row h2 (by decide)
  clear eG8
  refine ae_aload_n (q := 73) dX7_newTask_72 rfl rfl rfl ?_
  refine ae_getR (q := 76) dX7_newTask_73 fl_X7_46 rfl (hj.s h.s) (hj.l (h.lt (by decide))) (hj.r (h.r (i := 12) (by decide))) rfl ?_
  refine ae_iload (q := 78) dX7_newTask_76 rfl rfl ?_
  refine ae_iconst (v := 0) (q := 79) dX7_newTask_78 (by decide) rfl ?_
  refine ae_zast (q := 80) dX7_newTask_79 (hj.s (show am_sh H0 301 = (101, 48) from h.a (i := 12) (by decide))) (hj.l (h.lt (by decide))) (by unfold vp_in; decide) (by decide) rfl ?_
  refine ae_eqH (show am_si G8 301 (0 : Int32).toNatClampNeg 0 = am_si G8 301 0 0 from by rw [show (0 : Int32).toNatClampNeg = 0 from by decide]) ?_
  refine ae_gen (fun G9 eG9 => ?_)
  have hj : jz H0 G9 := by rw [eG9]; exact hj.si
  have h3 : am_gi G9 288 30 = 0 + 1 := by rw [eG9]; exact gi_si h3 (by decide)
  have h4 : am_gi G9 288 37 = 0 := by rw [eG9]; exact gi_si h4 (by decide)
  have h2 : am_gi G9 316 = am_gi H 316 := by rw [eG9]; exact gi_row h2 (by decide)
  clear eG9
  refine ae_aload_n (q := 81) dX7_newTask_80 rfl rfl rfl ?_
  refine ae_getR (q := 84) dX7_newTask_81 fl_X7_53 rfl (hj.s h.s) (hj.l (h.lt (by decide))) (hj.r (h.r (i := 14) (by decide))) rfl ?_
  refine ae_iload (q := 86) dX7_newTask_84 rfl rfl ?_
  refine ae_iconst (v := 0) (q := 87) dX7_newTask_86 (by decide) rfl ?_
  refine ae_zast (q := 88) dX7_newTask_87 (hj.s (show am_sh H0 303 = (101, 48) from h.a (i := 14) (by decide))) (hj.l (h.lt (by decide))) (by unfold vp_in; decide) (by decide) rfl ?_
  refine ae_eqH (show am_si G9 303 (0 : Int32).toNatClampNeg 0 = am_si G9 303 0 0 from by rw [show (0 : Int32).toNatClampNeg = 0 from by decide]) ?_
  refine ae_gen (fun G10 eG10 => ?_)
  have hj : jz H0 G10 := by rw [eG10]; exact hj.si
  have h3 : am_gi G10 288 30 = 0 + 1 := by rw [eG10]; exact gi_si h3 (by decide)
  have h4 : am_gi G10 288 37 = 0 := by rw [eG10]; exact gi_si h4 (by decide)
  have h2 : am_gi G10 316 = am_gi H 316 := by rw [eG10]; exact gi_row h2 (by decide)
  clear eG10
  refine ae_iconst (v := 0) (q := 89) dX7_newTask_88 (by decide) rfl ?_
  refine ae_istore (lv' := [(5, .int 0), (4, .int 0), (0, .ref 288), (1, .int b), (2, .int v), (3, .int 144)]) (q := 91) dX7_newTask_89 (by decide) rfl rfl ?_
  refine ae_iload (q := 93) dX7_newTask_91 rfl rfl ?_
  refine ae_iconst (v := 2) (q := 94) dX7_newTask_93 (by decide) rfl ?_
  refine ae_icmp_ge (t := 116) (q := 97) dX7_newTask_94 (by decide) rfl (fun h => absurd h (by decide)) (fun _ => ?_)
  refine ae_aload_n (q := 98) dX7_newTask_97 rfl rfl rfl ?_
  refine ae_getR (q := 101) dX7_newTask_98 fl_X7_59 rfl (hj.s h.s) (hj.l (h.lt (by decide))) (hj.r (h.r (i := 16) (by decide))) rfl ?_
  refine ae_iconst (v := 2) (q := 102) dX7_newTask_101 (by decide) rfl ?_
  refine ae_iload (q := 104) dX7_newTask_102 rfl rfl ?_
  refine ae_imul (q := 105) dX7_newTask_104 rfl ?_
  refine ae_iload (q := 107) dX7_newTask_105 rfl rfl ?_
  refine ae_iadd (q := 108) dX7_newTask_107 rfl ?_
  refine ae_iconst (v := 0) (q := 109) dX7_newTask_108 (by decide) rfl ?_
  refine ae_iast (q := 110) dX7_newTask_109 (hj.s (show am_sh H0 305 = (100, 96) from h.a (i := 16) (by decide))) (hj.l (h.lt (by decide))) (by unfold vp_in; decide) rfl ?_
  refine ae_eqH (show am_si G10 305 ((2 * 0) + 0 : Int32).toNatClampNeg 0 = am_si G10 305 0 0 from by rw [show ((2 : Int32) * 0 + 0).toNatClampNeg = 0 from by decide]) ?_
  refine ae_gen (fun G11 eG11 => ?_)
  have hj : jz H0 G11 := by rw [eG11]; exact hj.si
  have h3 : am_gi G11 288 30 = 0 + 1 := by rw [eG11]; exact gi_si h3 (by decide)
  have h4 : am_gi G11 288 37 = 0 := by rw [eG11]; exact gi_si h4 (by decide)
  have h2 : am_gi G11 316 = am_gi H 316 := by rw [eG11]; exact gi_row h2 (by decide)
  clear eG11
  refine ae_iinc (v := 1) (lv' := [(5, .int 1), (4, .int 0), (0, .ref 288), (1, .int b), (2, .int v), (3, .int 144)]) (q := 113) dX7_newTask_110 rfl (by decide) (by decide) rfl rfl ?_
  refine ae_goto (q := 91) dX7_newTask_113 (by decide) ?_
  refine ae_iload (q := 93) dX7_newTask_91 rfl rfl ?_
  refine ae_iconst (v := 2) (q := 94) dX7_newTask_93 (by decide) rfl ?_
  refine ae_icmp_ge (t := 116) (q := 97) dX7_newTask_94 (by decide) rfl (fun h => absurd h (by decide)) (fun _ => ?_)
  refine ae_aload_n (q := 98) dX7_newTask_97 rfl rfl rfl ?_
  refine ae_getR (q := 101) dX7_newTask_98 fl_X7_59 rfl (hj.s h.s) (hj.l (h.lt (by decide))) (hj.r (h.r (i := 16) (by decide))) rfl ?_
  refine ae_iconst (v := 2) (q := 102) dX7_newTask_101 (by decide) rfl ?_
  refine ae_iload (q := 104) dX7_newTask_102 rfl rfl ?_
  refine ae_imul (q := 105) dX7_newTask_104 rfl ?_
  refine ae_iload (q := 107) dX7_newTask_105 rfl rfl ?_
  refine ae_iadd (q := 108) dX7_newTask_107 rfl ?_
  refine ae_iconst (v := 0) (q := 109) dX7_newTask_108 (by decide) rfl ?_
  refine ae_iast (q := 110) dX7_newTask_109 (hj.s (show am_sh H0 305 = (100, 96) from h.a (i := 16) (by decide))) (hj.l (h.lt (by decide))) (by unfold vp_in; decide) rfl ?_
  refine ae_eqH (show am_si G11 305 ((2 * 0) + 1 : Int32).toNatClampNeg 0 = am_si G11 305 1 0 from by rw [show ((2 : Int32) * 0 + 1).toNatClampNeg = 1 from by decide]) ?_
  refine ae_gen (fun G12 eG12 => ?_)
  have hj : jz H0 G12 := by rw [eG12]; exact hj.si
  have h3 : am_gi G12 288 30 = 0 + 1 := by rw [eG12]; exact gi_si h3 (by decide)
  have h4 : am_gi G12 288 37 = 0 := by rw [eG12]; exact gi_si h4 (by decide)
  have h2 : am_gi G12 316 = am_gi H 316 := by rw [eG12]; exact gi_row h2 (by decide)
  clear eG12
  refine ae_iinc (v := 2) (lv' := [(5, .int 2), (4, .int 0), (0, .ref 288), (1, .int b), (2, .int v), (3, .int 144)]) (q := 113) dX7_newTask_110 rfl (by decide) (by decide) rfl rfl ?_
  refine ae_goto (q := 91) dX7_newTask_113 (by decide) ?_
  refine ae_iload (q := 93) dX7_newTask_91 rfl rfl ?_
  refine ae_iconst (v := 2) (q := 94) dX7_newTask_93 (by decide) rfl ?_
  refine ae_icmp_ge (t := 116) (q := 97) dX7_newTask_94 (by decide) rfl (fun _ => ?_) (fun h => absurd h (by decide))
  refine ae_aload_n (q := 117) dX7_newTask_116 rfl rfl rfl ?_
  refine ae_getR (q := 120) dX7_newTask_117 fl_X7_71 rfl (hj.s h.s) (hj.l (h.lt (by decide))) (hj.r (h.r (i := 20) (by decide))) rfl ?_
  refine ae_iload_n (q := 121) dX7_newTask_120 rfl rfl rfl ?_
  refine ae_dup2 (q := 122) dX7_newTask_121 rfl rfl rfl ?_
  refine ae_iald (q := 123) dX7_newTask_122 (hj.s (show am_sh H0 309 = (100, 145) from h.a (i := 20) (by decide))) (hj.l (h.lt (by decide))) (by unfold vp_in; decide) rfl ?_
  refine ae_eqi (show am_gi G12 309 (144 : Int32).toNatClampNeg = am_gi G12 309 144 from by rw [show (144 : Int32).toNatClampNeg = 144 from by decide]) ?_
  refine ae_iconst (v := 1) (q := 124) dX7_newTask_123 (by decide) rfl ?_
  refine ae_iadd (q := 125) dX7_newTask_124 rfl ?_
  refine ae_iast (q := 126) dX7_newTask_125 (hj.s (show am_sh H0 309 = (100, 145) from h.a (i := 20) (by decide))) (hj.l (h.lt (by decide))) (by unfold vp_in; decide) rfl ?_
  refine ae_eqH (show am_si G12 309 (144 : Int32).toNatClampNeg ((am_gi G12 309 144) + 1) = am_si G12 309 144 ((am_gi G12 309 144) + 1) from by rw [show (144 : Int32).toNatClampNeg = 144 from by decide]) ?_
  refine ae_gen (fun G13 eG13 => ?_)
  have hj : jz H0 G13 := by rw [eG13]; exact hj.si
  have h3 : am_gi G13 288 30 = 0 + 1 := by rw [eG13]; exact gi_si h3 (by decide)
  have h4 : am_gi G13 288 37 = 0 := by rw [eG13]; exact gi_si h4 (by decide)
  have h2 : am_gi G13 316 = am_gi H 316 := by rw [eG13]; exact gi_row h2 (by decide)
  clear eG13
  refine ae_iload (q := 128) dX7_newTask_126 rfl rfl ?_
  refine ae_iret dX7_newTask_128 rfl rfl ?_
  exact ⟨rfl, hj, h4, h2⟩
set_option maxRecDepth 100000 in
set_option maxHeartbeats 4000000 in
theorem e_X7_push {ox : List (Nat × (Nat → Int32))} {d : Nat} {H0 H : am_H} (h : mz H0) (hj : jz H0 H) (h3 : am_gi H 316 0 = 0) (h4 : am_gi H 288 37 = 0) : am_D ox d yX7_push mX7_push [.ref 288, .int 0, .int 0] H (fun o H1 => o = .inl none ∧ jz H0 H1 ∧ am_gi H1 288 37 = 0) := by
  refine ae_enter rfl rfl rfl rfl (Nat.le_of_ble_eq_true rfl) ?_
  show am_E ox d mX7_push 0 [(0, .ref 288), (1, .int 0), (2, .int 0)] [] H _
  refine ae_aload_n (q := 1) dX7_push_0 rfl rfl rfl ?_
  refine ae_getR (q := 4) dX7_push_1 fl_X7_19 rfl (hj.s h.s) (hj.l (h.lt (by decide))) (hj.r (h.r (i := 3) (by decide))) rfl ?_
  refine ae_iload_n (q := 5) dX7_push_4 rfl rfl rfl ?_
  refine ae_iconst (v := 0) (q := 6) dX7_push_5 (by decide) rfl ?_
  refine ae_iast (q := 7) dX7_push_6 (hj.s (show am_sh H0 292 = (100, 48) from h.a (i := 3) (by decide))) (hj.l (h.lt (by decide))) (by unfold vp_in; decide) rfl ?_
  refine ae_eqH (show am_si H 292 (0 : Int32).toNatClampNeg 0 = am_si H 292 0 0 from by rw [show (0 : Int32).toNatClampNeg = 0 from by decide]) ?_
  refine ae_gen (fun G1 eG1 => ?_)
  have hj : jz H0 G1 := by rw [eG1]; exact hj.si
  have h3 : am_gi G1 316 0 = 0 := by rw [eG1]; exact gi_si h3 (by decide)
  have h4 : am_gi G1 288 37 = 0 := by rw [eG1]; exact gi_si h4 (by decide)
  clear eG1
  refine ae_aload_n (q := 8) dX7_push_7 rfl rfl rfl ?_
  refine ae_getR (q := 11) dX7_push_8 fl_X7_95 rfl (hj.s h.s) (hj.l (h.lt (by decide))) (hj.r (h.r (i := 28) (by decide))) rfl ?_
  refine ae_bipush (v := 48) (q := 13) dX7_push_11 (by decide) rfl ?_
  refine ae_iload_n (q := 14) dX7_push_13 rfl rfl rfl ?_
  refine ae_imul (q := 15) dX7_push_14 rfl ?_
  refine ae_aload_n (q := 16) dX7_push_15 rfl rfl rfl ?_
  refine ae_getR (q := 19) dX7_push_16 fl_X7_92 rfl (hj.s h.s) (hj.l (h.lt (by decide))) (hj.r (h.r (i := 27) (by decide))) rfl ?_
  refine ae_iload_n (q := 20) dX7_push_19 rfl rfl rfl ?_
  refine ae_iald (q := 21) dX7_push_20 (hj.s (show am_sh H0 316 = (100, 3) from h.a (i := 27) (by decide))) (hj.l (h.lt (by decide))) (by unfold vp_in; decide) rfl ?_
  refine ae_eqi (show am_gi G1 316 (0 : Int32).toNatClampNeg = am_gi G1 316 0 from by rw [show (0 : Int32).toNatClampNeg = 0 from by decide]) ?_
  refine ae_eqi (show am_gi G1 316 0 = 0 from h3) ?_
  refine ae_iadd (q := 22) dX7_push_21 rfl ?_
  refine ae_iload_n (q := 23) dX7_push_22 rfl rfl rfl ?_
  refine ae_iast (q := 24) dX7_push_23 (hj.s (show am_sh H0 317 = (100, 144) from h.a (i := 28) (by decide))) (hj.l (h.lt (by decide))) (by unfold vp_in; decide) rfl ?_
  refine ae_eqH (show am_si G1 317 ((48 * 0) + 0 : Int32).toNatClampNeg 0 = am_si G1 317 0 0 from by rw [show ((48 : Int32) * 0 + 0).toNatClampNeg = 0 from by decide]) ?_
  refine ae_gen (fun G2 eG2 => ?_)
  have hj : jz H0 G2 := by rw [eG2]; exact hj.si
  have h3 : am_gi G2 316 0 = 0 := by rw [eG2]; exact gi_si h3 (by decide)
  have h4 : am_gi G2 288 37 = 0 := by rw [eG2]; exact gi_si h4 (by decide)
  clear eG2
  refine ae_aload_n (q := 25) dX7_push_24 rfl rfl rfl ?_
  refine ae_getR (q := 28) dX7_push_25 fl_X7_92 rfl (hj.s h.s) (hj.l (h.lt (by decide))) (hj.r (h.r (i := 27) (by decide))) rfl ?_
  refine ae_iload_n (q := 29) dX7_push_28 rfl rfl rfl ?_
  refine ae_dup2 (q := 30) dX7_push_29 rfl rfl rfl ?_
  refine ae_iald (q := 31) dX7_push_30 (hj.s (show am_sh H0 316 = (100, 3) from h.a (i := 27) (by decide))) (hj.l (h.lt (by decide))) (by unfold vp_in; decide) rfl ?_
  refine ae_eqi (show am_gi G2 316 (0 : Int32).toNatClampNeg = am_gi G2 316 0 from by rw [show (0 : Int32).toNatClampNeg = 0 from by decide]) ?_
  refine ae_iconst (v := 1) (q := 32) dX7_push_31 (by decide) rfl ?_
  refine ae_iadd (q := 33) dX7_push_32 rfl ?_
  refine ae_iast (q := 34) dX7_push_33 (hj.s (show am_sh H0 316 = (100, 3) from h.a (i := 27) (by decide))) (hj.l (h.lt (by decide))) (by unfold vp_in; decide) rfl ?_
  refine ae_eqH (show am_si G2 316 (0 : Int32).toNatClampNeg ((am_gi G2 316 0) + 1) = am_si G2 316 0 ((am_gi G2 316 0) + 1) from by rw [show (0 : Int32).toNatClampNeg = 0 from by decide]) ?_
  refine ae_gen (fun G3 eG3 => ?_)
  have hj : jz H0 G3 := by rw [eG3]; exact hj.si
  have h3 : am_gi G3 316 0 = (am_gi G2 316 0) + 1 := by rw [eG3]; exact gi_set
  have h4 : am_gi G3 288 37 = 0 := by rw [eG3]; exact gi_si h4 (by decide)
  clear eG3
  refine ae_vret dX7_push_34 rfl ?_
  exact ⟨rfl, hj, h4⟩
set_option maxRecDepth 100000 in
set_option maxHeartbeats 4000000 in
theorem e_X7_begin {ox : List (Nat × (Nat → Int32))} {d : Nat} {H0 : am_H} {x0 x1 x2 x3 : Int32} (h : mz H0) : am_D ox (d + 1) yX7_begin mX7_begin [.ref 288, .int x0, .int x1, .int x2, .int x3] H0 (fun o H1 => ((0 ≤ x0 ∧ x0 ≤ 7) ∧ (1 ≤ x2 ∧ x2 ≤ 3) ∧ (0 ≤ x3 ∧ x3 ≤ 1)) ∧ mrv 0 H0 o H1 ∨ ¬ ((0 ≤ x0 ∧ x0 ≤ 7) ∧ (1 ≤ x2 ∧ x2 ≤ 3) ∧ (0 ≤ x3 ∧ x3 ≤ 1)) ∧ mrv 1 H0 o H1) := by
  obtain ⟨H, eH⟩ : ∃ z, z = H0 := ⟨_, rfl⟩
  have hj : jz H0 H := by rw [eH]; exact jz.rf
  refine ae_enter rfl rfl rfl rfl (Nat.le_of_ble_eq_true rfl) ?_
  refine ae_eqH eH.symm ?_
  show am_E ox (d + 1) mX7_begin 0 [(0, .ref 288), (1, .int x0), (2, .int x1), (3, .int x2), (4, .int x3)] [] H _
  refine ae_aload_n (q := 1) dX7_begin_0 rfl rfl rfl ?_
  refine ae_iload_n (q := 2) dX7_begin_1 rfl rfl rfl ?_
  refine ae_iconst (v := 0) (q := 3) dX7_begin_2 (by decide) rfl ?_
  refine ae_bipush (v := 7) (q := 5) dX7_begin_3 (by decide) rfl ?_
  refine ae_wX7 (q := 8) dX7_begin_5 lk_X7_105 (Nat.le_of_ble_eq_true rfl) rfl (fun c1 => ?_) (fun c1 => ?_)
  · refine ae_if_eq (t := 34) (q := 11) dX7_begin_8 (by decide) rfl (fun h => absurd h (by decide)) (fun _ => ?_)
    refine ae_iload_n (q := 12) dX7_begin_11 rfl rfl rfl ?_
    refine ae_iconst (v := 1) (q := 13) dX7_begin_12 (by decide) rfl ?_
    refine ae_iconst (v := 3) (q := 14) dX7_begin_13 (by decide) rfl ?_
    refine ae_wX7 (q := 17) dX7_begin_14 lk_X7_105 (Nat.le_of_ble_eq_true rfl) rfl (fun c2 => ?_) (fun c2 => ?_)
    · refine ae_if_eq (t := 34) (q := 20) dX7_begin_17 (by decide) rfl (fun h => absurd h (by decide)) (fun _ => ?_)
      refine ae_iload (q := 22) dX7_begin_20 rfl rfl ?_
      refine ae_iconst (v := 0) (q := 23) dX7_begin_22 (by decide) rfl ?_
      refine ae_iconst (v := 1) (q := 24) dX7_begin_23 (by decide) rfl ?_
      refine ae_wX7 (q := 27) dX7_begin_24 lk_X7_105 (Nat.le_of_ble_eq_true rfl) rfl (fun c3 => ?_) (fun c3 => ?_)
      · refine ae_if_eq (t := 34) (q := 30) dX7_begin_27 (by decide) rfl (fun h => absurd h (by decide)) (fun _ => ?_)
        refine ae_iconst (v := 0) (q := 31) dX7_begin_30 (by decide) rfl ?_
        refine ae_goto (q := 35) dX7_begin_31 (by decide) ?_
        refine ae_putI (q := 38) dX7_begin_35 fl_X7_101 rfl rfl rfl (hj.s h.s) (hj.l (h.lt (by decide))) rfl ?_
        refine ae_gen (fun G1 eG1 => ?_)
        have hj : jz H0 G1 := by rw [eG1]; exact hj.si
        have h4 : am_gi G1 288 37 = 0 := by rw [eG1]; exact gi_set
        clear eG1
        refine ae_aload_n (q := 39) dX7_begin_38 rfl rfl rfl ?_
        refine ae_getI (q := 42) dX7_begin_39 fl_X7_101 rfl (hj.s h.s) (hj.l (h.lt (by decide))) rfl ?_
        refine ae_eqi (show am_gi G1 288 37 = 0 from h4) ?_
        refine ae_if_le (t := 46) (q := 45) dX7_begin_42 (by decide) rfl (fun _ => ?_) (fun h => absurd h (by decide))
        refine ae_aload_n (q := 47) dX7_begin_46 rfl rfl rfl ?_
        refine ae_iconst (v := 1) (q := 48) dX7_begin_47 (by decide) rfl ?_
        refine ae_putI (q := 51) dX7_begin_48 fl_X7_122 rfl rfl rfl (hj.s h.s) (hj.l (h.lt (by decide))) rfl ?_
        refine ae_gen (fun G2 eG2 => ?_)
        have hj : jz H0 G2 := by rw [eG2]; exact hj.si
        have h4 : am_gi G2 288 37 = 0 := by rw [eG2]; exact gi_si h4 (by decide)
        clear eG2
        refine ae_aload_n (q := 52) dX7_begin_51 rfl rfl rfl ?_
        refine ae_iconst (v := 0) (q := 53) dX7_begin_52 (by decide) rfl ?_
        refine ae_putI (q := 56) dX7_begin_53 fl_X7_119 rfl rfl rfl (hj.s h.s) (hj.l (h.lt (by decide))) rfl ?_
        refine ae_gen (fun G3 eG3 => ?_)
        have hj : jz H0 G3 := by rw [eG3]; exact hj.si
        have h4 : am_gi G3 288 37 = 0 := by rw [eG3]; exact gi_si h4 (by decide)
        have h3 : am_gi G3 288 30 = 0 := by rw [eG3]; exact gi_set
        clear eG3
        refine ae_aload_n (q := 57) dX7_begin_56 rfl rfl rfl ?_
        refine ae_iconst (v := 0) (q := 58) dX7_begin_57 (by decide) rfl ?_
        refine ae_putI (q := 61) dX7_begin_58 fl_X7_126 rfl rfl rfl (hj.s h.s) (hj.l (h.lt (by decide))) rfl ?_
        refine ae_gen (fun G4 eG4 => ?_)
        have hj : jz H0 G4 := by rw [eG4]; exact hj.si
        have h4 : am_gi G4 288 37 = 0 := by rw [eG4]; exact gi_si h4 (by decide)
        have h3 : am_gi G4 288 30 = 0 := by rw [eG4]; exact gi_si h3 (by decide)
        clear eG4
        refine ae_aload_n (q := 62) dX7_begin_61 rfl rfl rfl ?_
        refine ae_iconst (v := 0) (q := 63) dX7_begin_62 (by decide) rfl ?_
        refine ae_putI (q := 66) dX7_begin_63 fl_X7_129 rfl rfl rfl (hj.s h.s) (hj.l (h.lt (by decide))) rfl ?_
        refine ae_gen (fun G5 eG5 => ?_)
        have hj : jz H0 G5 := by rw [eG5]; exact hj.si
        have h4 : am_gi G5 288 37 = 0 := by rw [eG5]; exact gi_si h4 (by decide)
        have h3 : am_gi G5 288 30 = 0 := by rw [eG5]; exact gi_si h3 (by decide)
        clear eG5
        refine ae_aload_n (q := 67) dX7_begin_66 rfl rfl rfl ?_
        refine ae_iconst (v := 0) (q := 68) dX7_begin_67 (by decide) rfl ?_
        refine ae_putI (q := 71) dX7_begin_68 fl_X7_132 rfl rfl rfl (hj.s h.s) (hj.l (h.lt (by decide))) rfl ?_
        refine ae_gen (fun G6 eG6 => ?_)
        have hj : jz H0 G6 := by rw [eG6]; exact hj.si
        have h4 : am_gi G6 288 37 = 0 := by rw [eG6]; exact gi_si h4 (by decide)
        have h3 : am_gi G6 288 30 = 0 := by rw [eG6]; exact gi_si h3 (by decide)
        clear eG6
        refine ae_aload_n (q := 72) dX7_begin_71 rfl rfl rfl ?_
        refine ae_iconst (v := 0) (q := 73) dX7_begin_72 (by decide) rfl ?_
        refine ae_putI (q := 76) dX7_begin_73 fl_X7_135 rfl rfl rfl (hj.s h.s) (hj.l (h.lt (by decide))) rfl ?_
        refine ae_gen (fun G7 eG7 => ?_)
        have hj : jz H0 G7 := by rw [eG7]; exact hj.si
        have h4 : am_gi G7 288 37 = 0 := by rw [eG7]; exact gi_si h4 (by decide)
        have h3 : am_gi G7 288 30 = 0 := by rw [eG7]; exact gi_si h3 (by decide)
        clear eG7
        refine ae_aload_n (q := 77) dX7_begin_76 rfl rfl rfl ?_
        refine ae_iload_n (q := 78) dX7_begin_77 rfl rfl rfl ?_
        refine ae_putI (q := 81) dX7_begin_78 fl_X7_138 rfl rfl rfl (hj.s h.s) (hj.l (h.lt (by decide))) rfl ?_
        refine ae_gen (fun G8 eG8 => ?_)
        have hj : jz H0 G8 := by rw [eG8]; exact hj.si
        have h4 : am_gi G8 288 37 = 0 := by rw [eG8]; exact gi_si h4 (by decide)
        have h3 : am_gi G8 288 30 = 0 := by rw [eG8]; exact gi_si h3 (by decide)
        clear eG8
        refine ae_aload_n (q := 82) dX7_begin_81 rfl rfl rfl ?_
        refine ae_iload (q := 84) dX7_begin_82 rfl rfl ?_
        refine ae_putI (q := 87) dX7_begin_84 fl_X7_141 rfl rfl rfl (hj.s h.s) (hj.l (h.lt (by decide))) rfl ?_
        refine ae_gen (fun G9 eG9 => ?_)
        have hj : jz H0 G9 := by rw [eG9]; exact hj.si
        have h4 : am_gi G9 288 37 = 0 := by rw [eG9]; exact gi_si h4 (by decide)
        have h3 : am_gi G9 288 30 = 0 := by rw [eG9]; exact gi_si h3 (by decide)
        clear eG9
        refine ae_iconst (v := 0) (q := 88) dX7_begin_87 (by decide) rfl ?_
        refine ae_istore (lv' := [(5, .int 0), (0, .ref 288), (1, .int x0), (2, .int x1), (3, .int x2), (4, .int x3)]) (q := 90) dX7_begin_88 (by decide) rfl rfl ?_
        refine ae_iload (q := 92) dX7_begin_90 rfl rfl ?_
        refine ae_iconst (v := 4) (q := 93) dX7_begin_92 (by decide) rfl ?_
        refine ae_icmp_ge (t := 110) (q := 96) dX7_begin_93 (by decide) rfl (fun h => absurd h (by decide)) (fun _ => ?_)
        refine ae_aload_n (q := 97) dX7_begin_96 rfl rfl rfl ?_
        refine ae_getR (q := 100) dX7_begin_97 fl_X7_56 rfl (hj.s h.s) (hj.l (h.lt (by decide))) (hj.r (h.r (i := 15) (by decide))) rfl ?_
        refine ae_iload (q := 102) dX7_begin_100 rfl rfl ?_
        refine ae_iconst (v := 0) (q := 103) dX7_begin_102 (by decide) rfl ?_
        refine ae_zast (q := 104) dX7_begin_103 (hj.s (show am_sh H0 304 = (101, 4) from h.a (i := 15) (by decide))) (hj.l (h.lt (by decide))) (by unfold vp_in; decide) (by decide) rfl ?_
        refine ae_eqH (show am_si G9 304 (0 : Int32).toNatClampNeg 0 = am_si G9 304 0 0 from by rw [show (0 : Int32).toNatClampNeg = 0 from by decide]) ?_
        refine ae_gen (fun G10 eG10 => ?_)
        have hj : jz H0 G10 := by rw [eG10]; exact hj.si
        have h4 : am_gi G10 288 37 = 0 := by rw [eG10]; exact gi_si h4 (by decide)
        have h3 : am_gi G10 288 30 = 0 := by rw [eG10]; exact gi_si h3 (by decide)
        clear eG10
        refine ae_iinc (v := 1) (lv' := [(5, .int 1), (0, .ref 288), (1, .int x0), (2, .int x1), (3, .int x2), (4, .int x3)]) (q := 107) dX7_begin_104 rfl (by decide) (by decide) rfl rfl ?_
        refine ae_goto (q := 90) dX7_begin_107 (by decide) ?_
        refine ae_iload (q := 92) dX7_begin_90 rfl rfl ?_
        refine ae_iconst (v := 4) (q := 93) dX7_begin_92 (by decide) rfl ?_
        refine ae_icmp_ge (t := 110) (q := 96) dX7_begin_93 (by decide) rfl (fun h => absurd h (by decide)) (fun _ => ?_)
        refine ae_aload_n (q := 97) dX7_begin_96 rfl rfl rfl ?_
        refine ae_getR (q := 100) dX7_begin_97 fl_X7_56 rfl (hj.s h.s) (hj.l (h.lt (by decide))) (hj.r (h.r (i := 15) (by decide))) rfl ?_
        refine ae_iload (q := 102) dX7_begin_100 rfl rfl ?_
        refine ae_iconst (v := 0) (q := 103) dX7_begin_102 (by decide) rfl ?_
        refine ae_zast (q := 104) dX7_begin_103 (hj.s (show am_sh H0 304 = (101, 4) from h.a (i := 15) (by decide))) (hj.l (h.lt (by decide))) (by unfold vp_in; decide) (by decide) rfl ?_
        refine ae_eqH (show am_si G10 304 (1 : Int32).toNatClampNeg 0 = am_si G10 304 1 0 from by rw [show (1 : Int32).toNatClampNeg = 1 from by decide]) ?_
        refine ae_gen (fun G11 eG11 => ?_)
        have hj : jz H0 G11 := by rw [eG11]; exact hj.si
        have h4 : am_gi G11 288 37 = 0 := by rw [eG11]; exact gi_si h4 (by decide)
        have h3 : am_gi G11 288 30 = 0 := by rw [eG11]; exact gi_si h3 (by decide)
        clear eG11
        refine ae_iinc (v := 2) (lv' := [(5, .int 2), (0, .ref 288), (1, .int x0), (2, .int x1), (3, .int x2), (4, .int x3)]) (q := 107) dX7_begin_104 rfl (by decide) (by decide) rfl rfl ?_
        refine ae_goto (q := 90) dX7_begin_107 (by decide) ?_
        refine ae_iload (q := 92) dX7_begin_90 rfl rfl ?_
        refine ae_iconst (v := 4) (q := 93) dX7_begin_92 (by decide) rfl ?_
        refine ae_icmp_ge (t := 110) (q := 96) dX7_begin_93 (by decide) rfl (fun h => absurd h (by decide)) (fun _ => ?_)
        refine ae_aload_n (q := 97) dX7_begin_96 rfl rfl rfl ?_
        refine ae_getR (q := 100) dX7_begin_97 fl_X7_56 rfl (hj.s h.s) (hj.l (h.lt (by decide))) (hj.r (h.r (i := 15) (by decide))) rfl ?_
        refine ae_iload (q := 102) dX7_begin_100 rfl rfl ?_
        refine ae_iconst (v := 0) (q := 103) dX7_begin_102 (by decide) rfl ?_
        refine ae_zast (q := 104) dX7_begin_103 (hj.s (show am_sh H0 304 = (101, 4) from h.a (i := 15) (by decide))) (hj.l (h.lt (by decide))) (by unfold vp_in; decide) (by decide) rfl ?_
        refine ae_eqH (show am_si G11 304 (2 : Int32).toNatClampNeg 0 = am_si G11 304 2 0 from by rw [show (2 : Int32).toNatClampNeg = 2 from by decide]) ?_
        refine ae_gen (fun G12 eG12 => ?_)
        have hj : jz H0 G12 := by rw [eG12]; exact hj.si
        have h4 : am_gi G12 288 37 = 0 := by rw [eG12]; exact gi_si h4 (by decide)
        have h3 : am_gi G12 288 30 = 0 := by rw [eG12]; exact gi_si h3 (by decide)
        clear eG12
        refine ae_iinc (v := 3) (lv' := [(5, .int 3), (0, .ref 288), (1, .int x0), (2, .int x1), (3, .int x2), (4, .int x3)]) (q := 107) dX7_begin_104 rfl (by decide) (by decide) rfl rfl ?_
        refine ae_goto (q := 90) dX7_begin_107 (by decide) ?_
        refine ae_iload (q := 92) dX7_begin_90 rfl rfl ?_
        refine ae_iconst (v := 4) (q := 93) dX7_begin_92 (by decide) rfl ?_
        refine ae_icmp_ge (t := 110) (q := 96) dX7_begin_93 (by decide) rfl (fun h => absurd h (by decide)) (fun _ => ?_)
        refine ae_aload_n (q := 97) dX7_begin_96 rfl rfl rfl ?_
        refine ae_getR (q := 100) dX7_begin_97 fl_X7_56 rfl (hj.s h.s) (hj.l (h.lt (by decide))) (hj.r (h.r (i := 15) (by decide))) rfl ?_
        refine ae_iload (q := 102) dX7_begin_100 rfl rfl ?_
        refine ae_iconst (v := 0) (q := 103) dX7_begin_102 (by decide) rfl ?_
        refine ae_zast (q := 104) dX7_begin_103 (hj.s (show am_sh H0 304 = (101, 4) from h.a (i := 15) (by decide))) (hj.l (h.lt (by decide))) (by unfold vp_in; decide) (by decide) rfl ?_
        refine ae_eqH (show am_si G12 304 (3 : Int32).toNatClampNeg 0 = am_si G12 304 3 0 from by rw [show (3 : Int32).toNatClampNeg = 3 from by decide]) ?_
        refine ae_gen (fun G13 eG13 => ?_)
        have hj : jz H0 G13 := by rw [eG13]; exact hj.si
        have h4 : am_gi G13 288 37 = 0 := by rw [eG13]; exact gi_si h4 (by decide)
        have h3 : am_gi G13 288 30 = 0 := by rw [eG13]; exact gi_si h3 (by decide)
        clear eG13
        refine ae_iinc (v := 4) (lv' := [(5, .int 4), (0, .ref 288), (1, .int x0), (2, .int x1), (3, .int x2), (4, .int x3)]) (q := 107) dX7_begin_104 rfl (by decide) (by decide) rfl rfl ?_
        refine ae_goto (q := 90) dX7_begin_107 (by decide) ?_
        refine ae_iload (q := 92) dX7_begin_90 rfl rfl ?_
        refine ae_iconst (v := 4) (q := 93) dX7_begin_92 (by decide) rfl ?_
        refine ae_icmp_ge (t := 110) (q := 96) dX7_begin_93 (by decide) rfl (fun _ => ?_) (fun h => absurd h (by decide))
        refine ae_iconst (v := 0) (q := 111) dX7_begin_110 (by decide) rfl ?_
        refine ae_istore (lv' := [(5, .int 0), (0, .ref 288), (1, .int x0), (2, .int x1), (3, .int x2), (4, .int x3)]) (q := 113) dX7_begin_111 (by decide) rfl rfl ?_
        refine ae_iload (q := 115) dX7_begin_113 rfl rfl ?_
        refine ae_iconst (v := 3) (q := 116) dX7_begin_115 (by decide) rfl ?_
        refine ae_icmp_ge (t := 141) (q := 119) dX7_begin_116 (by decide) rfl (fun h => absurd h (by decide)) (fun _ => ?_)
        refine ae_aload_n (q := 120) dX7_begin_119 rfl rfl rfl ?_
        refine ae_getR (q := 123) dX7_begin_120 fl_X7_89 rfl (hj.s h.s) (hj.l (h.lt (by decide))) (hj.r (h.r (i := 26) (by decide))) rfl ?_
        refine ae_iload (q := 125) dX7_begin_123 rfl rfl ?_
        refine ae_iconst (v := (-1)) (q := 126) dX7_begin_125 (by decide) rfl ?_
        refine ae_iast (q := 127) dX7_begin_126 (hj.s (show am_sh H0 315 = (100, 3) from h.a (i := 26) (by decide))) (hj.l (h.lt (by decide))) (by unfold vp_in; decide) rfl ?_
        refine ae_eqH (show am_si G13 315 (0 : Int32).toNatClampNeg (-1) = am_si G13 315 0 (-1) from by rw [show (0 : Int32).toNatClampNeg = 0 from by decide]) ?_
        refine ae_gen (fun G14 eG14 => ?_)
        have hj : jz H0 G14 := by rw [eG14]; exact hj.si
        have h4 : am_gi G14 288 37 = 0 := by rw [eG14]; exact gi_si h4 (by decide)
        have h3 : am_gi G14 288 30 = 0 := by rw [eG14]; exact gi_si h3 (by decide)
        clear eG14
        refine ae_aload_n (q := 128) dX7_begin_127 rfl rfl rfl ?_
        refine ae_getR (q := 131) dX7_begin_128 fl_X7_92 rfl (hj.s h.s) (hj.l (h.lt (by decide))) (hj.r (h.r (i := 27) (by decide))) rfl ?_
        refine ae_iload (q := 133) dX7_begin_131 rfl rfl ?_
        refine ae_iconst (v := 0) (q := 134) dX7_begin_133 (by decide) rfl ?_
        refine ae_iast (q := 135) dX7_begin_134 (hj.s (show am_sh H0 316 = (100, 3) from h.a (i := 27) (by decide))) (hj.l (h.lt (by decide))) (by unfold vp_in; decide) rfl ?_
        refine ae_eqH (show am_si G14 316 (0 : Int32).toNatClampNeg 0 = am_si G14 316 0 0 from by rw [show (0 : Int32).toNatClampNeg = 0 from by decide]) ?_
        refine ae_gen (fun G15 eG15 => ?_)
        have hj : jz H0 G15 := by rw [eG15]; exact hj.si
        have h4 : am_gi G15 288 37 = 0 := by rw [eG15]; exact gi_si h4 (by decide)
        have h3 : am_gi G15 288 30 = 0 := by rw [eG15]; exact gi_si h3 (by decide)
        have h5 : am_gi G15 316 0 = 0 := by rw [eG15]; exact gi_set
        clear eG15
        refine ae_iinc (v := 1) (lv' := [(5, .int 1), (0, .ref 288), (1, .int x0), (2, .int x1), (3, .int x2), (4, .int x3)]) (q := 138) dX7_begin_135 rfl (by decide) (by decide) rfl rfl ?_
        refine ae_goto (q := 113) dX7_begin_138 (by decide) ?_
        refine ae_iload (q := 115) dX7_begin_113 rfl rfl ?_
        refine ae_iconst (v := 3) (q := 116) dX7_begin_115 (by decide) rfl ?_
        refine ae_icmp_ge (t := 141) (q := 119) dX7_begin_116 (by decide) rfl (fun h => absurd h (by decide)) (fun _ => ?_)
        refine ae_aload_n (q := 120) dX7_begin_119 rfl rfl rfl ?_
        refine ae_getR (q := 123) dX7_begin_120 fl_X7_89 rfl (hj.s h.s) (hj.l (h.lt (by decide))) (hj.r (h.r (i := 26) (by decide))) rfl ?_
        refine ae_iload (q := 125) dX7_begin_123 rfl rfl ?_
        refine ae_iconst (v := (-1)) (q := 126) dX7_begin_125 (by decide) rfl ?_
        refine ae_iast (q := 127) dX7_begin_126 (hj.s (show am_sh H0 315 = (100, 3) from h.a (i := 26) (by decide))) (hj.l (h.lt (by decide))) (by unfold vp_in; decide) rfl ?_
        refine ae_eqH (show am_si G15 315 (1 : Int32).toNatClampNeg (-1) = am_si G15 315 1 (-1) from by rw [show (1 : Int32).toNatClampNeg = 1 from by decide]) ?_
        refine ae_gen (fun G16 eG16 => ?_)
        have hj : jz H0 G16 := by rw [eG16]; exact hj.si
        have h4 : am_gi G16 288 37 = 0 := by rw [eG16]; exact gi_si h4 (by decide)
        have h3 : am_gi G16 288 30 = 0 := by rw [eG16]; exact gi_si h3 (by decide)
        have h5 : am_gi G16 316 0 = 0 := by rw [eG16]; exact gi_si h5 (by decide)
        clear eG16
        refine ae_aload_n (q := 128) dX7_begin_127 rfl rfl rfl ?_
        refine ae_getR (q := 131) dX7_begin_128 fl_X7_92 rfl (hj.s h.s) (hj.l (h.lt (by decide))) (hj.r (h.r (i := 27) (by decide))) rfl ?_
        refine ae_iload (q := 133) dX7_begin_131 rfl rfl ?_
        refine ae_iconst (v := 0) (q := 134) dX7_begin_133 (by decide) rfl ?_
        refine ae_iast (q := 135) dX7_begin_134 (hj.s (show am_sh H0 316 = (100, 3) from h.a (i := 27) (by decide))) (hj.l (h.lt (by decide))) (by unfold vp_in; decide) rfl ?_
        refine ae_eqH (show am_si G16 316 (1 : Int32).toNatClampNeg 0 = am_si G16 316 1 0 from by rw [show (1 : Int32).toNatClampNeg = 1 from by decide]) ?_
        refine ae_gen (fun G17 eG17 => ?_)
        have hj : jz H0 G17 := by rw [eG17]; exact hj.si
        have h4 : am_gi G17 288 37 = 0 := by rw [eG17]; exact gi_si h4 (by decide)
        have h3 : am_gi G17 288 30 = 0 := by rw [eG17]; exact gi_si h3 (by decide)
        have h5 : am_gi G17 316 0 = 0 := by rw [eG17]; exact gi_si h5 (by decide)
        clear eG17
        refine ae_iinc (v := 2) (lv' := [(5, .int 2), (0, .ref 288), (1, .int x0), (2, .int x1), (3, .int x2), (4, .int x3)]) (q := 138) dX7_begin_135 rfl (by decide) (by decide) rfl rfl ?_
        refine ae_goto (q := 113) dX7_begin_138 (by decide) ?_
        refine ae_iload (q := 115) dX7_begin_113 rfl rfl ?_
        refine ae_iconst (v := 3) (q := 116) dX7_begin_115 (by decide) rfl ?_
        refine ae_icmp_ge (t := 141) (q := 119) dX7_begin_116 (by decide) rfl (fun h => absurd h (by decide)) (fun _ => ?_)
        refine ae_aload_n (q := 120) dX7_begin_119 rfl rfl rfl ?_
        refine ae_getR (q := 123) dX7_begin_120 fl_X7_89 rfl (hj.s h.s) (hj.l (h.lt (by decide))) (hj.r (h.r (i := 26) (by decide))) rfl ?_
        refine ae_iload (q := 125) dX7_begin_123 rfl rfl ?_
        refine ae_iconst (v := (-1)) (q := 126) dX7_begin_125 (by decide) rfl ?_
        refine ae_iast (q := 127) dX7_begin_126 (hj.s (show am_sh H0 315 = (100, 3) from h.a (i := 26) (by decide))) (hj.l (h.lt (by decide))) (by unfold vp_in; decide) rfl ?_
        refine ae_eqH (show am_si G17 315 (2 : Int32).toNatClampNeg (-1) = am_si G17 315 2 (-1) from by rw [show (2 : Int32).toNatClampNeg = 2 from by decide]) ?_
        refine ae_gen (fun G18 eG18 => ?_)
        have hj : jz H0 G18 := by rw [eG18]; exact hj.si
        have h4 : am_gi G18 288 37 = 0 := by rw [eG18]; exact gi_si h4 (by decide)
        have h3 : am_gi G18 288 30 = 0 := by rw [eG18]; exact gi_si h3 (by decide)
        have h5 : am_gi G18 316 0 = 0 := by rw [eG18]; exact gi_si h5 (by decide)
        clear eG18
        refine ae_aload_n (q := 128) dX7_begin_127 rfl rfl rfl ?_
        refine ae_getR (q := 131) dX7_begin_128 fl_X7_92 rfl (hj.s h.s) (hj.l (h.lt (by decide))) (hj.r (h.r (i := 27) (by decide))) rfl ?_
        refine ae_iload (q := 133) dX7_begin_131 rfl rfl ?_
        refine ae_iconst (v := 0) (q := 134) dX7_begin_133 (by decide) rfl ?_
        refine ae_iast (q := 135) dX7_begin_134 (hj.s (show am_sh H0 316 = (100, 3) from h.a (i := 27) (by decide))) (hj.l (h.lt (by decide))) (by unfold vp_in; decide) rfl ?_
        refine ae_eqH (show am_si G18 316 (2 : Int32).toNatClampNeg 0 = am_si G18 316 2 0 from by rw [show (2 : Int32).toNatClampNeg = 2 from by decide]) ?_
        refine ae_gen (fun G19 eG19 => ?_)
        have hj : jz H0 G19 := by rw [eG19]; exact hj.si
        have h4 : am_gi G19 288 37 = 0 := by rw [eG19]; exact gi_si h4 (by decide)
        have h3 : am_gi G19 288 30 = 0 := by rw [eG19]; exact gi_si h3 (by decide)
        have h5 : am_gi G19 316 0 = 0 := by rw [eG19]; exact gi_si h5 (by decide)
        clear eG19
        refine ae_iinc (v := 3) (lv' := [(5, .int 3), (0, .ref 288), (1, .int x0), (2, .int x1), (3, .int x2), (4, .int x3)]) (q := 138) dX7_begin_135 rfl (by decide) (by decide) rfl rfl ?_
        refine ae_goto (q := 113) dX7_begin_138 (by decide) ?_
        refine ae_iload (q := 115) dX7_begin_113 rfl rfl ?_
        refine ae_iconst (v := 3) (q := 116) dX7_begin_115 (by decide) rfl ?_
        refine ae_icmp_ge (t := 141) (q := 119) dX7_begin_116 (by decide) rfl (fun _ => ?_) (fun h => absurd h (by decide))
        refine ae_aload_n (q := 142) dX7_begin_141 rfl rfl rfl ?_
        refine ae_getR (q := 145) dX7_begin_142 fl_X7_68 rfl (hj.s h.s) (hj.l (h.lt (by decide))) (hj.r (h.r (i := 19) (by decide))) rfl ?_
        refine ae_iconst (v := 0) (q := 146) dX7_begin_145 (by decide) rfl ?_
        refine ae_iconst (v := 0) (q := 147) dX7_begin_146 (by decide) rfl ?_
        refine ae_iast (q := 148) dX7_begin_147 (hj.s (show am_sh H0 308 = (100, 2) from h.a (i := 19) (by decide))) (hj.l (h.lt (by decide))) (by unfold vp_in; decide) rfl ?_
        refine ae_eqH (show am_si G19 308 (0 : Int32).toNatClampNeg 0 = am_si G19 308 0 0 from by rw [show (0 : Int32).toNatClampNeg = 0 from by decide]) ?_
        refine ae_gen (fun G20 eG20 => ?_)
        have hj : jz H0 G20 := by rw [eG20]; exact hj.si
        have h4 : am_gi G20 288 37 = 0 := by rw [eG20]; exact gi_si h4 (by decide)
        have h3 : am_gi G20 288 30 = 0 := by rw [eG20]; exact gi_si h3 (by decide)
        have h5 : am_gi G20 316 0 = 0 := by rw [eG20]; exact gi_si h5 (by decide)
        clear eG20
        refine ae_aload_n (q := 149) dX7_begin_148 rfl rfl rfl ?_
        refine ae_getR (q := 152) dX7_begin_149 fl_X7_68 rfl (hj.s h.s) (hj.l (h.lt (by decide))) (hj.r (h.r (i := 19) (by decide))) rfl ?_
        refine ae_iconst (v := 1) (q := 153) dX7_begin_152 (by decide) rfl ?_
        refine ae_iconst (v := 0) (q := 154) dX7_begin_153 (by decide) rfl ?_
        refine ae_iast (q := 155) dX7_begin_154 (hj.s (show am_sh H0 308 = (100, 2) from h.a (i := 19) (by decide))) (hj.l (h.lt (by decide))) (by unfold vp_in; decide) rfl ?_
        refine ae_eqH (show am_si G20 308 (1 : Int32).toNatClampNeg 0 = am_si G20 308 1 0 from by rw [show (1 : Int32).toNatClampNeg = 1 from by decide]) ?_
        refine ae_gen (fun G21 eG21 => ?_)
        have hj : jz H0 G21 := by rw [eG21]; exact hj.si
        have h4 : am_gi G21 288 37 = 0 := by rw [eG21]; exact gi_si h4 (by decide)
        have h3 : am_gi G21 288 30 = 0 := by rw [eG21]; exact gi_si h3 (by decide)
        have h5 : am_gi G21 316 0 = 0 := by rw [eG21]; exact gi_si h5 (by decide)
        clear eG21
        refine ae_aload_n (q := 156) dX7_begin_155 rfl rfl rfl ?_
        refine ae_sipush (v := 144) (q := 159) dX7_begin_156 (by decide) rfl ?_
        refine ae_iconst (v := 0) (q := 160) dX7_begin_159 (by decide) rfl ?_
        refine ae_iconst (v := 0) (q := 161) dX7_begin_160 (by decide) rfl ?_
        refine ae_callV (ci := 7) (as := [.int 144, .int 0, .int 0]) (b := 288) (st := []) (q := 164) dX7_begin_161 (e_X7_openScope h hj) myX7_openScope lk_X7_144 im_X7_openScope se_X7_openScope rfl (by decide) (hj.s h.s) (hj.l (h.lt (by decide))) rfl rfl (Nat.le_of_ble_eq_true rfl) rfl (fun o H1 h => ⟨_, h.1⟩) (fun v G22 hv => ?_)
        obtain ⟨hv1, hv2, hv3, hv4⟩ := hv
        cases hv1
        refine ⟨Or.inl (hv2.1.trans hj.1.symm), ?_⟩
        have hj := hv2
        have h4 : am_gi G22 288 37 = 0 := (congrFun hv3 37).trans h4
        have h3 : am_gi G22 288 30 = 0 := (congrFun hv3 30).trans h3
        have h5 : am_gi G22 316 0 = 0 := (congrFun hv4 0).trans h5
        refine ae_aload_n (q := 165) dX7_begin_164 rfl rfl rfl ?_
        refine ae_iload_n (q := 166) dX7_begin_165 rfl rfl rfl ?_
        refine ae_iload_n (q := 167) dX7_begin_166 rfl rfl rfl ?_
        refine ae_sipush (v := 144) (q := 170) dX7_begin_167 (by decide) rfl ?_
        refine ae_callV (ci := 7) (as := [.int x0, .int x1, .int 144]) (b := 288) (st := []) (q := 173) dX7_begin_170 (e_X7_newTask h hj h3 h4) myX7_newTask lk_X7_148 im_X7_newTask se_X7_newTask rfl (by decide) (hj.s h.s) (hj.l (h.lt (by decide))) rfl rfl (Nat.le_of_ble_eq_true rfl) rfl (fun o H1 h => ⟨_, h.1⟩) (fun v G23 hv => ?_)
        obtain ⟨hv1, hv2, hv3, hv4⟩ := hv
        cases hv1
        refine ⟨Or.inl (hv2.1.trans hj.1.symm), ?_⟩
        have hj := hv2
        have h4 := hv3
        have h5 : am_gi G23 316 0 = 0 := (congrFun hv4 0).trans h5
        refine ae_istore (lv' := [(5, .int 0), (0, .ref 288), (1, .int x0), (2, .int x1), (3, .int x2), (4, .int x3)]) (q := 175) dX7_begin_173 (by decide) rfl rfl ?_
        refine ae_aload_n (q := 176) dX7_begin_175 rfl rfl rfl ?_
        refine ae_iconst (v := 0) (q := 177) dX7_begin_176 (by decide) rfl ?_
        refine ae_iload (q := 179) dX7_begin_177 rfl rfl ?_
        refine ae_callV (ci := 7) (as := [.int 0, .int 0]) (b := 288) (st := []) (q := 182) dX7_begin_179 (e_X7_push h hj h5 h4) myX7_push lk_X7_152 im_X7_push se_X7_push rfl (by decide) (hj.s h.s) (hj.l (h.lt (by decide))) rfl rfl (Nat.le_of_ble_eq_true rfl) rfl (fun o H1 h => ⟨_, h.1⟩) (fun v G24 hv => ?_)
        obtain ⟨hv1, hv2, hv3⟩ := hv
        cases hv1
        refine ⟨Or.inl (hv2.1.trans hj.1.symm), ?_⟩
        have hj := hv2
        have h4 := hv3
        refine ae_vret dX7_begin_182 rfl ?_
        exact Or.inl ⟨⟨c1, c2, c3⟩, rfl, h4, hj.qz⟩
      · refine ae_if_eq (t := 34) (q := 30) dX7_begin_27 (by decide) rfl (fun _ => ?_) (fun h => absurd h (by decide))
        refine ae_iconst (v := 1) (q := 35) dX7_begin_34 (by decide) rfl ?_
        refine ae_putI (q := 38) dX7_begin_35 fl_X7_101 rfl rfl rfl (hj.s h.s) (hj.l (h.lt (by decide))) rfl ?_
        refine ae_gen (fun G25 eG25 => ?_)
        have hj : jz H0 G25 := by rw [eG25]; exact hj.si
        have h4 : am_gi G25 288 37 = 1 := by rw [eG25]; exact gi_set
        clear eG25
        refine ae_aload_n (q := 39) dX7_begin_38 rfl rfl rfl ?_
        refine ae_getI (q := 42) dX7_begin_39 fl_X7_101 rfl (hj.s h.s) (hj.l (h.lt (by decide))) rfl ?_
        refine ae_eqi (show am_gi G25 288 37 = 1 from h4) ?_
        refine ae_if_le (t := 46) (q := 45) dX7_begin_42 (by decide) rfl (fun h => absurd h (by decide)) (fun _ => ?_)
        refine ae_vret dX7_begin_45 rfl ?_
        exact Or.inr ⟨fun z => c3 z.2.2, rfl, h4, hj.qz⟩
    · refine ae_if_eq (t := 34) (q := 20) dX7_begin_17 (by decide) rfl (fun _ => ?_) (fun h => absurd h (by decide))
      refine ae_iconst (v := 1) (q := 35) dX7_begin_34 (by decide) rfl ?_
      refine ae_putI (q := 38) dX7_begin_35 fl_X7_101 rfl rfl rfl (hj.s h.s) (hj.l (h.lt (by decide))) rfl ?_
      refine ae_gen (fun G26 eG26 => ?_)
      have hj : jz H0 G26 := by rw [eG26]; exact hj.si
      have h4 : am_gi G26 288 37 = 1 := by rw [eG26]; exact gi_set
      clear eG26
      refine ae_aload_n (q := 39) dX7_begin_38 rfl rfl rfl ?_
      refine ae_getI (q := 42) dX7_begin_39 fl_X7_101 rfl (hj.s h.s) (hj.l (h.lt (by decide))) rfl ?_
      refine ae_eqi (show am_gi G26 288 37 = 1 from h4) ?_
      refine ae_if_le (t := 46) (q := 45) dX7_begin_42 (by decide) rfl (fun h => absurd h (by decide)) (fun _ => ?_)
      refine ae_vret dX7_begin_45 rfl ?_
      exact Or.inr ⟨fun z => c2 z.2.1, rfl, h4, hj.qz⟩
  · refine ae_if_eq (t := 34) (q := 11) dX7_begin_8 (by decide) rfl (fun _ => ?_) (fun h => absurd h (by decide))
    refine ae_iconst (v := 1) (q := 35) dX7_begin_34 (by decide) rfl ?_
    refine ae_putI (q := 38) dX7_begin_35 fl_X7_101 rfl rfl rfl (hj.s h.s) (hj.l (h.lt (by decide))) rfl ?_
    refine ae_gen (fun G27 eG27 => ?_)
    have hj : jz H0 G27 := by rw [eG27]; exact hj.si
    have h4 : am_gi G27 288 37 = 1 := by rw [eG27]; exact gi_set
    clear eG27
    refine ae_aload_n (q := 39) dX7_begin_38 rfl rfl rfl ?_
    refine ae_getI (q := 42) dX7_begin_39 fl_X7_101 rfl (hj.s h.s) (hj.l (h.lt (by decide))) rfl ?_
    refine ae_eqi (show am_gi G27 288 37 = 1 from h4) ?_
    refine ae_if_le (t := 46) (q := 45) dX7_begin_42 (by decide) rfl (fun h => absurd h (by decide)) (fun _ => ?_)
    refine ae_vret dX7_begin_45 rfl ?_
    exact Or.inr ⟨fun z => c1 z.1, rfl, h4, hj.qz⟩
