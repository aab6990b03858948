/-! Small rules for am_E: a value or a heap by an equal one. -/
section AMQ
variable {c : Nat} {ox : List (Nat × (Nat → Int32))} {d : Nat} {M : am_M} {pc : Nat} {lv : List (Nat × Value)} {st : List Value} {H : am_H} {P : Option Value ⊕ String → am_H → Prop}
theorem ae_eqi {x y : Int32} (h : x = y) (k : am_EB c ox d M pc lv (.int y :: st) H P) : am_EB c ox d M pc lv (.int x :: st) H P := by rw [h]; exact k
theorem ae_eql {x y : Int64} (h : x = y) (k : am_EB c ox d M pc lv (.long y :: st) H P) : am_EB c ox d M pc lv (.long x :: st) H P := by rw [h]; exact k
theorem ae_eqH {H1 H2 : am_H} (h : H1 = H2) (k : am_EB c ox d M pc lv st H2 P) : am_EB c ox d M pc lv st H1 P := by rw [h]; exact k
theorem ae_topi {x : Int32} (k : ∀ y : Int32, y = x → am_EB c ox d M pc lv (.int y :: st) H P) : am_EB c ox d M pc lv (.int x :: st) H P := k x rfl
theorem am_gi_si {H : am_H} {a k x y : Nat} {v : Int32} : am_gi (am_si H a k v) x y = if x = a ∧ y = k then v else am_gi H x y := rfl
theorem am_gr_sr {H : am_H} {a k x y : Nat} {v : Option Nat} : am_gr (am_sr H a k v) x y = if x = a ∧ y = k then v else am_gr H x y := rfl
theorem am_gl_sl {H : am_H} {a k x y : Nat} {v : Int64} : am_gl (am_sl H a k v) x y = if x = a ∧ y = k then v else am_gl H x y := rfl
end AMQ
set_option maxRecDepth 100000 in
set_option maxHeartbeats 4000000 in
theorem e_X6_isWithin {ox : List (Nat × (Nat → Int32))} {d : Nat} {H : am_H} {x l g : Int32} : am_D ox d yX6_isWithin mX6_isWithin [.int x, .int l, .int g] H (fun o H1 => o = .inl (some (.int (if l ≤ x ∧ x ≤ g then 1 else 0))) ∧ H1 = H) := by
  refine ae_enter rfl rfl rfl rfl (Nat.le_of_ble_eq_true rfl) ?_
  show am_E ox d mX6_isWithin 0 [(0, .int x), (1, .int l), (2, .int g)] [] H _
  refine ae_iload_n (q := 1) dX6_isWithin_0 rfl rfl rfl ?_
  refine ae_iload_n (q := 2) dX6_isWithin_1 rfl rfl rfl ?_
  refine ae_icmp_lt (t := 14) (q := 5) dX6_isWithin_2 (by decide) rfl (fun c1 => ?_) (fun c1 => ?_)
  · refine ae_iconst (v := 0) (q := 15) dX6_isWithin_14 (by decide) rfl ?_
    refine ae_iret dX6_isWithin_15 rfl (by decide) ?_
    refine ⟨?_, rfl⟩
    congr 3
    first | (rw [if_pos ⟨by first | assumption | (rw [← Int32.not_lt]; assumption) | exact Int32.not_lt.mp (by assumption), by first | assumption | exact Int32.not_lt.mp (by assumption)⟩]) | (rw [if_neg (fun h => absurd h.1 (Int32.not_le.mpr (by assumption)))]) | (rw [if_neg (fun h => absurd h.2 (Int32.not_le.mpr (by assumption)))])
  · refine ae_iload_n (q := 6) dX6_isWithin_5 rfl rfl rfl ?_
    refine ae_iload_n (q := 7) dX6_isWithin_6 rfl rfl rfl ?_
    refine ae_icmp_gt (t := 14) (q := 10) dX6_isWithin_7 (by decide) rfl (fun c2 => ?_) (fun c2 => ?_)
    · refine ae_iconst (v := 0) (q := 15) dX6_isWithin_14 (by decide) rfl ?_
      refine ae_iret dX6_isWithin_15 rfl (by decide) ?_
      refine ⟨?_, rfl⟩
      congr 3
      first | (rw [if_pos ⟨by first | assumption | (rw [← Int32.not_lt]; assumption) | exact Int32.not_lt.mp (by assumption), by first | assumption | exact Int32.not_lt.mp (by assumption)⟩]) | (rw [if_neg (fun h => absurd h.1 (Int32.not_le.mpr (by assumption)))]) | (rw [if_neg (fun h => absurd h.2 (Int32.not_le.mpr (by assumption)))])
    · refine ae_iconst (v := 1) (q := 11) dX6_isWithin_10 (by decide) rfl ?_
      refine ae_goto (q := 15) dX6_isWithin_11 (by decide) ?_
      refine ae_iret dX6_isWithin_15 rfl (by decide) ?_
      refine ⟨?_, rfl⟩
      congr 3
      first | (rw [if_pos ⟨by first | assumption | (rw [← Int32.not_lt]; assumption) | exact Int32.not_lt.mp (by assumption), by first | assumption | exact Int32.not_lt.mp (by assumption)⟩]) | (rw [if_neg (fun h => absurd h.1 (Int32.not_le.mpr (by assumption)))]) | (rw [if_neg (fun h => absurd h.2 (Int32.not_le.mpr (by assumption)))])
set_option maxRecDepth 100000 in
set_option maxHeartbeats 4000000 in
theorem e_X7_in {ox : List (Nat × (Nat → Int32))} {d : Nat} {H : am_H} {x l g : Int32} : am_D ox d yX7_in mX7_in [.int x, .int l, .int g] H (fun o H1 => o = .inl (some (.int (if l ≤ x ∧ x ≤ g then 1 else 0))) ∧ H1 = H) := by
  refine ae_enter rfl rfl rfl rfl (Nat.le_of_ble_eq_true rfl) ?_
  show am_E ox d mX7_in 0 [(0, .int x), (1, .int l), (2, .int g)] [] H _
  refine ae_iload_n (q := 1) dX7_in_0 rfl rfl rfl ?_
  refine ae_iload_n (q := 2) dX7_in_1 rfl rfl rfl ?_
  refine ae_icmp_lt (t := 14) (q := 5) dX7_in_2 (by decide) rfl (fun c1 => ?_) (fun c1 => ?_)
  · refine ae_iconst (v := 0) (q := 15) dX7_in_14 (by decide) rfl ?_
    refine ae_iret dX7_in_15 rfl (by decide) ?_
    refine ⟨?_, rfl⟩
    congr 3
    first | (rw [if_pos ⟨by first | assumption | (rw [← Int32.not_lt]; assumption) | exact Int32.not_lt.mp (by assumption), by first | assumption | exact Int32.not_lt.mp (by assumption)⟩]) | (rw [if_neg (fun h => absurd h.1 (Int32.not_le.mpr (by assumption)))]) | (rw [if_neg (fun h => absurd h.2 (Int32.not_le.mpr (by assumption)))])
  · refine ae_iload_n (q := 6) dX7_in_5 rfl rfl rfl ?_
    refine ae_iload_n (q := 7) dX7_in_6 rfl rfl rfl ?_
    refine ae_icmp_gt (t := 14) (q := 10) dX7_in_7 (by decide) rfl (fun c2 => ?_) (fun c2 => ?_)
    · refine ae_iconst (v := 0) (q := 15) dX7_in_14 (by decide) rfl ?_
      refine ae_iret dX7_in_15 rfl (by decide) ?_
      refine ⟨?_, rfl⟩
      congr 3
      first | (rw [if_pos ⟨by first | assumption | (rw [← Int32.not_lt]; assumption) | exact Int32.not_lt.mp (by assumption), by first | assumption | exact Int32.not_lt.mp (by assumption)⟩]) | (rw [if_neg (fun h => absurd h.1 (Int32.not_le.mpr (by assumption)))]) | (rw [if_neg (fun h => absurd h.2 (Int32.not_le.mpr (by assumption)))])
    · refine ae_iconst (v := 1) (q := 11) dX7_in_10 (by decide) rfl ?_
      refine ae_goto (q := 15) dX7_in_11 (by decide) ?_
      refine ae_iret dX7_in_15 rfl (by decide) ?_
      refine ⟨?_, rfl⟩
      congr 3
      first | (rw [if_pos ⟨by first | assumption | (rw [← Int32.not_lt]; assumption) | exact Int32.not_lt.mp (by assumption), by first | assumption | exact Int32.not_lt.mp (by assumption)⟩]) | (rw [if_neg (fun h => absurd h.1 (Int32.not_le.mpr (by assumption)))]) | (rw [if_neg (fun h => absurd h.2 (Int32.not_le.mpr (by assumption)))])
set_option maxRecDepth 100000 in
set_option maxHeartbeats 4000000 in
theorem e_X7_thrown {ox : List (Nat × (Nat → Int32))} {d : Nat} {H : am_H} {a : Nat} (hs : am_sh H a = (7, am_Nf 7)) (hb : a < am_nx H) : am_D ox d yX7_thrown mX7_thrown [.ref a] H (fun o H1 => o = .inl (some (.int (am_gi H a 37))) ∧ H1 = H) := by
  refine ae_enter rfl rfl rfl rfl (Nat.le_of_ble_eq_true rfl) ?_
  show am_E ox d mX7_thrown 0 [(0, .ref a)] [] H _
  refine ae_aload_n (q := 1) dX7_thrown_0 rfl rfl rfl ?_
  refine ae_getI (q := 4) dX7_thrown_1 fl_X7_101 rfl hs hb rfl ?_
  refine ae_iret dX7_thrown_4 rfl rfl ?_
  exact ⟨rfl, rfl⟩
set_option maxRecDepth 100000 in
set_option maxHeartbeats 4000000 in
theorem e_X7_fail {ox : List (Nat × (Nat → Int32))} {d : Nat} {H : am_H} {a : Nat} {x : Int32} (hs : am_sh H a = (7, am_Nf 7)) (hb : a < am_nx H) : am_D ox d yX7_fail mX7_fail [.ref a, .int x] H (fun o H1 => o = .inl (some (.int 0)) ∧ H1 = am_si H a 37 x) := by
  refine ae_enter rfl rfl rfl rfl (Nat.le_of_ble_eq_true rfl) ?_
  show am_E ox d mX7_fail 0 [(0, .ref a), (1, .int x)] [] H _
  refine ae_aload_n (q := 1) dX7_fail_0 rfl rfl rfl ?_
  refine ae_iload_n (q := 2) dX7_fail_1 rfl rfl rfl ?_
  refine ae_putI (q := 5) dX7_fail_2 fl_X7_101 rfl rfl rfl hs hb rfl ?_
  refine ae_iconst (v := 0) (q := 6) dX7_fail_5 (by decide) rfl ?_
  refine ae_iret dX7_fail_6 rfl rfl ?_
  exact ⟨rfl, rfl⟩
