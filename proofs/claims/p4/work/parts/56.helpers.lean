/-! THE LAW'S HELPERS: each calls a method of the class, and answers 0, or a number for what was thrown. -/
def lo (cs : List (String × Int32)) (o : Option Value ⊕ String) : Prop := (∃ v, o = .inl (some (.int v))) ∨ ∃ E k, (E, k) ∈ cs ∧ o = .inr E
def lx (P1 : Option Value ⊕ String → am_H → Prop) (w : Nat) (cs : List (String × Int32)) (o : Option Value ⊕ String) (H1 : am_H) : Prop := (∃ v G, P1 (.inl (some (.int v))) G ∧ o = .inl (some (.int 0)) ∧ H1 = am_sl G w 0 v.toInt64) ∨ ∃ E k, (E, k) ∈ cs ∧ P1 (.inr E) H1 ∧ o = .inl (some (.int k))
def lov (cs : List (String × Int32)) (o : Option Value ⊕ String) : Prop := o = .inl none ∨ ∃ E k, (E, k) ∈ cs ∧ o = .inr E
def lxv (P1 : Option Value ⊕ String → am_H → Prop) (cs : List (String × Int32)) (o : Option Value ⊕ String) (H1 : am_H) : Prop := (P1 (.inl none) H1 ∧ o = .inl (some (.int 0))) ∨ ∃ E k, (E, k) ∈ cs ∧ P1 (.inr E) H1 ∧ o = .inl (some (.int k))
abbrev hL_body : List (Nat × Nat × Nat × Nat) := [(0, 9, 12, 13)]
abbrev mL_body : am_M := (RL, method_3_code, 4, (Option.some Jvm.ClassFile.FieldType.int), "body", am_tb hL_body)
theorem aw_246 : (Jvm.Cond.codeWith ({ cls := "PhaserYardLaw", name := "body", desc := "(LPhaserYard;I[J)I" } : Jvm.MethodName) method_3_code (4 : Nat) (Option.some Jvm.ClassFile.FieldType.int) [((0 : Nat), (9 : Nat), (12 : Nat), (13 : Nat))]) ∈ am_words := am_in 246 (by decide +kernel) (by decide +kernel)
theorem mwL_body : am_Mw yL_body mL_body hL_body 3 := ⟨aw_246, aw_0, by decide +kernel, by decide⟩
theorem hdL_body_0 : am_Hd mL_body 4 "java/lang/IllegalArgumentException" 1 := ⟨"java/lang/IllegalArgumentException", { startPc := 0, endPc := 9, handlerPc := 12, catchType := 13 }, [], [], 3, 1, 1, by decide, rfl, by decide, by decide, aw_247, by decide +kernel, (fun z hz => by cases hz), Or.inl ⟨3, dL_body_12, rfl, rfl⟩, by decide, dL_body_13, by decide, dL_body_14, rfl⟩
abbrev cs_body : List (String × Int32) := [("java/lang/IllegalArgumentException", 1)]
set_option maxRecDepth 100000 in
set_option maxHeartbeats 4000000 in
theorem e_L_body {ox : List (Nat × (Nat → Int32))} {cc d w : Nat} {H : am_H} {x0 : Int32} {P1 : Option Value ⊕ String → am_H → Prop} (hC : am_DB cc ox d yX6_body mX6_body [.ref 0, .int x0] H P1) (hs : am_sh H 0 = (6, am_Nf 6)) (hb : 0 < am_nx H) (hw : w < am_nx H) (hP : ∀ o G, P1 o G → am_nx G = am_nx H ∧ am_sh G w = (102, 1) ∧ lo cs_body o) : am_DW cc ox (d + 1) yL_body mL_body hL_body [.ref 0, .int x0, .ref w] H (lx P1 w cs_body) := by
  refine ae_enterW rfl rfl rfl rfl (Nat.le_of_ble_eq_true rfl) ?_
  show am_EB cc ox (d + 1) mL_body 0 [(0, .ref 0), (1, .int x0), (2, .ref w)] [] H _
  refine ae_aload_n (q := 1) dL_body_0 rfl rfl rfl ?_
  refine ae_iconst (v := 0) (q := 2) dL_body_1 (by decide) rfl ?_
  refine ae_aload_n (q := 3) dL_body_2 rfl rfl rfl ?_
  refine ae_iload_n (q := 4) dL_body_3 rfl rfl rfl ?_
  refine ae_callVX (c2 := 0) (ci := 6) (as := [.int x0]) (b := 0) (st := [.int 0, .ref w]) (q := 7) dL_body_4 hC myX6_body lk_L_7 im_X6_body se_X6_body rfl (by decide) hs hb rfl rfl (Nat.le_of_ble_eq_true rfl) rfl (Nat.le_refl _) (fun v G hv => ?_) (fun E G hE => ?_)
  · obtain ⟨h1, h3, h2⟩ := hP _ _ hv
    refine ⟨Or.inl h1, ?_⟩
    rcases h2 with ⟨v', h2⟩ | ⟨E, k, -, h2⟩ <;> cases h2
    show am_EB 0 ox (d + 1) mL_body 7 [(0, .ref 0), (1, .int x0), (2, .ref w)] [.int v', .int 0, .ref w] G _
    refine ae_i2l (q := 8) dL_body_7 rfl ?_
    refine ae_last (q := 9) dL_body_8 h3 (by omega) (by unfold vp_in; decide) rfl ?_
    refine ae_goto (q := 15) dL_body_9 (by decide) ?_
    refine ae_iconst (v := 0) (q := 16) dL_body_15 (by decide) rfl ?_
    refine ae_iret dL_body_16 rfl rfl ?_
    exact Or.inl ⟨v', G, hv, rfl, congrArg (fun k => am_sl G w k v'.toInt64) (by decide)⟩
  · obtain ⟨h1, -, h2⟩ := hP _ _ hE
    refine ⟨Or.inl h1, ?_⟩
    rcases h2 with ⟨v, h2⟩ | ⟨E', k, hm, h2⟩
    · cases h2
    · cases h2
      refine ⟨k, ?_, Or.inr ⟨E, k, hm, hE, rfl⟩⟩
      simp only [cs_body, List.mem_cons, List.not_mem_nil, or_false, Prod.mk.injEq] at hm
      rcases hm with ⟨rfl, rfl⟩
      exact hdL_body_0
abbrev hL_add : List (Nat × Nat × Nat × Nat) := [(0, 12, 15, 13), (0, 12, 19, 19)]
abbrev mL_add : am_M := (RL, method_4_code, 6, (Option.some Jvm.ClassFile.FieldType.int), "add", am_tb hL_add)
theorem aw_327 : (Jvm.Cond.codeWith ({ cls := "PhaserYardLaw", name := "add", desc := "(LPhaserYard;III[J)I" } : Jvm.MethodName) method_4_code (6 : Nat) (Option.some Jvm.ClassFile.FieldType.int) [((0 : Nat), (12 : Nat), (15 : Nat), (13 : Nat)), ((0 : Nat), (12 : Nat), (19 : Nat), (19 : Nat))]) ∈ am_words := am_in 327 (by decide +kernel) (by decide +kernel)
theorem mwL_add : am_Mw yL_add mL_add hL_add 5 := ⟨aw_327, aw_0, by decide +kernel, by decide⟩
theorem hdL_add_0 : am_Hd mL_add 7 "java/lang/IllegalArgumentException" 1 := ⟨"java/lang/IllegalArgumentException", { startPc := 0, endPc := 12, handlerPc := 15, catchType := 13 }, [], [{ startPc := 0, endPc := 12, handlerPc := 19, catchType := 19 }], 5, 2, 1, by decide, rfl, by decide, by decide, aw_247, by decide +kernel, (fun z hz => by cases hz), Or.inr ⟨dL_add_15, rfl⟩, by decide, dL_add_17, by decide, dL_add_18, rfl⟩
theorem hdL_add_1 : am_Hd mL_add 7 "java/lang/IllegalStateException" 2 := ⟨"java/lang/IllegalStateException", { startPc := 0, endPc := 12, handlerPc := 19, catchType := 19 }, [{ startPc := 0, endPc := 12, handlerPc := 15, catchType := 13 }], [], 5, 2, 2, by decide, rfl, by decide, by decide, aw_328, by decide +kernel, (fun z hz => by rcases List.mem_singleton.mp hz with rfl; exact ⟨by decide, _, aw_247, by decide⟩), Or.inr ⟨dL_add_19, rfl⟩, by decide, dL_add_21, by decide, dL_add_22, rfl⟩
abbrev cs_add : List (String × Int32) := [("java/lang/IllegalArgumentException", 1), ("java/lang/IllegalStateException", 2)]
set_option maxRecDepth 100000 in
set_option maxHeartbeats 4000000 in
theorem e_L_add {ox : List (Nat × (Nat → Int32))} {cc d w : Nat} {H : am_H} {x0 x1 x2 : Int32} {P1 : Option Value ⊕ String → am_H → Prop} (hC : am_DB cc ox d yX6_add mX6_add [.ref 0, .int x0, .int x1, .int x2] H P1) (hs : am_sh H 0 = (6, am_Nf 6)) (hb : 0 < am_nx H) (hw : w < am_nx H) (hP : ∀ o G, P1 o G → am_nx G = am_nx H ∧ am_sh G w = (102, 1) ∧ lo cs_add o) : am_DW cc ox (d + 1) yL_add mL_add hL_add [.ref 0, .int x0, .int x1, .int x2, .ref w] H (lx P1 w cs_add) := by
  refine ae_enterW rfl rfl rfl rfl (Nat.le_of_ble_eq_true rfl) ?_
  show am_EB cc ox (d + 1) mL_add 0 [(0, .ref 0), (1, .int x0), (2, .int x1), (3, .int x2), (4, .ref w)] [] H _
  refine ae_aload (q := 2) dL_add_0 rfl rfl ?_
  refine ae_iconst (v := 0) (q := 3) dL_add_2 (by decide) rfl ?_
  refine ae_aload_n (q := 4) dL_add_3 rfl rfl rfl ?_
  refine ae_iload_n (q := 5) dL_add_4 rfl rfl rfl ?_
  refine ae_iload_n (q := 6) dL_add_5 rfl rfl rfl ?_
  refine ae_iload_n (q := 7) dL_add_6 rfl rfl rfl ?_
  refine ae_callVX (c2 := 0) (ci := 6) (as := [.int x0, .int x1, .int x2]) (b := 0) (st := [.int 0, .ref w]) (q := 10) dL_add_7 hC myX6_add lk_L_15 im_X6_add se_X6_add rfl (by decide) hs hb rfl rfl (Nat.le_of_ble_eq_true rfl) rfl (Nat.le_refl _) (fun v G hv => ?_) (fun E G hE => ?_)
  · obtain ⟨h1, h3, h2⟩ := hP _ _ hv
    refine ⟨Or.inl h1, ?_⟩
    rcases h2 with ⟨v', h2⟩ | ⟨E, k, -, h2⟩ <;> cases h2
    show am_EB 0 ox (d + 1) mL_add 10 [(0, .ref 0), (1, .int x0), (2, .int x1), (3, .int x2), (4, .ref w)] [.int v', .int 0, .ref w] G _
    refine ae_i2l (q := 11) dL_add_10 rfl ?_
    refine ae_last (q := 12) dL_add_11 h3 (by omega) (by unfold vp_in; decide) rfl ?_
    refine ae_goto (q := 23) dL_add_12 (by decide) ?_
    refine ae_iconst (v := 0) (q := 24) dL_add_23 (by decide) rfl ?_
    refine ae_iret dL_add_24 rfl rfl ?_
    exact Or.inl ⟨v', G, hv, rfl, congrArg (fun k => am_sl G w k v'.toInt64) (by decide)⟩
  · obtain ⟨h1, -, h2⟩ := hP _ _ hE
    refine ⟨Or.inl h1, ?_⟩
    rcases h2 with ⟨v, h2⟩ | ⟨E', k, hm, h2⟩
    · cases h2
    · cases h2
      refine ⟨k, ?_, Or.inr ⟨E, k, hm, hE, rfl⟩⟩
      simp only [cs_add, List.mem_cons, List.not_mem_nil, or_false, Prod.mk.injEq] at hm
      rcases hm with ⟨rfl, rfl⟩ | ⟨rfl, rfl⟩
      · exact hdL_add_0
      · exact hdL_add_1
abbrev hL_begin : List (Nat × Nat × Nat × Nat) := [(0, 9, 12, 13)]
abbrev mL_begin : am_M := (RL, method_5_code, 6, (Option.some Jvm.ClassFile.FieldType.int), "begin", am_tb hL_begin)
theorem aw_363 : (Jvm.Cond.codeWith ({ cls := "PhaserYardLaw", name := "begin", desc := "(LPhaserYard;IIII)I" } : Jvm.MethodName) method_5_code (6 : Nat) (Option.some Jvm.ClassFile.FieldType.int) [((0 : Nat), (9 : Nat), (12 : Nat), (13 : Nat))]) ∈ am_words := am_in 363 (by decide +kernel) (by decide +kernel)
theorem mwL_begin : am_Mw yL_begin mL_begin hL_begin 5 := ⟨aw_363, aw_0, by decide +kernel, by decide⟩
theorem hdL_begin_0 : am_Hd mL_begin 6 "java/lang/IllegalArgumentException" 1 := ⟨"java/lang/IllegalArgumentException", { startPc := 0, endPc := 9, handlerPc := 12, catchType := 13 }, [], [], 5, 2, 1, by decide, rfl, by decide, by decide, aw_247, by decide +kernel, (fun z hz => by cases hz), Or.inr ⟨dL_begin_12, rfl⟩, by decide, dL_begin_14, by decide, dL_begin_15, rfl⟩
abbrev cs_begin : List (String × Int32) := [("java/lang/IllegalArgumentException", 1)]
set_option maxRecDepth 100000 in
set_option maxHeartbeats 4000000 in
theorem e_L_begin {ox : List (Nat × (Nat → Int32))} {cc d w : Nat} {H : am_H} {x0 x1 x2 x3 : Int32} {P1 : Option Value ⊕ String → am_H → Prop} (hC : am_DB cc ox d yX6_begin mX6_begin [.ref 0, .int x0, .int x1, .int x2, .int x3] H P1) (hs : am_sh H 0 = (6, am_Nf 6)) (hb : 0 < am_nx H) (hw : w < am_nx H) (hP : ∀ o G, P1 o G → am_nx G = am_nx H ∧ lov cs_begin o) : am_DW cc ox (d + 1) yL_begin mL_begin hL_begin [.ref 0, .int x0, .int x1, .int x2, .int x3] H (lxv P1 cs_begin) := by
  refine ae_enterW rfl rfl rfl rfl (Nat.le_of_ble_eq_true rfl) ?_
  show am_EB cc ox (d + 1) mL_begin 0 [(0, .ref 0), (1, .int x0), (2, .int x1), (3, .int x2), (4, .int x3)] [] H _
  refine ae_aload_n (q := 1) dL_begin_0 rfl rfl rfl ?_
  refine ae_iload_n (q := 2) dL_begin_1 rfl rfl rfl ?_
  refine ae_iload_n (q := 3) dL_begin_2 rfl rfl rfl ?_
  refine ae_iload_n (q := 4) dL_begin_3 rfl rfl rfl ?_
  refine ae_iload (q := 6) dL_begin_4 rfl rfl ?_
  refine ae_callVX (c2 := 0) (ci := 6) (as := [.int x0, .int x1, .int x2, .int x3]) (b := 0) (st := []) (q := 9) dL_begin_6 hC myX6_begin lk_L_21 im_X6_begin se_X6_begin rfl (by decide) hs hb rfl rfl (Nat.le_of_ble_eq_true rfl) rfl (Nat.le_refl _) (fun v G hv => ?_) (fun E G hE => ?_)
  · obtain ⟨h1, h2⟩ := hP _ _ hv
    refine ⟨Or.inl h1, ?_⟩
    rcases h2 with h2 | ⟨E, k, -, h2⟩ <;> cases h2
    refine ae_goto (q := 16) dL_begin_9 (by decide) ?_
    refine ae_iconst (v := 0) (q := 17) dL_begin_16 (by decide) rfl ?_
    refine ae_iret dL_begin_17 rfl rfl ?_
    exact Or.inl ⟨hv, rfl⟩
  · obtain ⟨h1, h2⟩ := hP _ _ hE
    refine ⟨Or.inl h1, ?_⟩
    rcases h2 with h2 | ⟨E', k, hm, h2⟩
    · cases h2
    · cases h2
      refine ⟨k, ?_, Or.inr ⟨E, k, hm, hE, rfl⟩⟩
      simp only [cs_begin, List.mem_cons, List.not_mem_nil, or_false, Prod.mk.injEq] at hm
      rcases hm with ⟨rfl, rfl⟩
      exact hdL_begin_0
abbrev hL_run : List (Nat × Nat × Nat × Nat) := [(0, 9, 12, 13), (0, 9, 15, 19), (0, 9, 18, 28)]
abbrev mL_run : am_M := (RL, method_6_code, 4, (Option.some Jvm.ClassFile.FieldType.int), "run", am_tb hL_run)
theorem aw_404 : (Jvm.Cond.codeWith ({ cls := "PhaserYardLaw", name := "run", desc := "(LPhaserYard;I[J)I" } : Jvm.MethodName) method_6_code (4 : Nat) (Option.some Jvm.ClassFile.FieldType.int) [((0 : Nat), (9 : Nat), (12 : Nat), (13 : Nat)), ((0 : Nat), (9 : Nat), (15 : Nat), (19 : Nat)), ((0 : Nat), (9 : Nat), (18 : Nat), (28 : Nat))]) ∈ am_words := am_in 404 (by decide +kernel) (by decide +kernel)
theorem mwL_run : am_Mw yL_run mL_run hL_run 3 := ⟨aw_404, aw_0, by decide +kernel, by decide⟩
theorem hdL_run_0 : am_Hd mL_run 4 "java/lang/IllegalArgumentException" 1 := ⟨"java/lang/IllegalArgumentException", { startPc := 0, endPc := 9, handlerPc := 12, catchType := 13 }, [], [{ startPc := 0, endPc := 9, handlerPc := 15, catchType := 19 }, { startPc := 0, endPc := 9, handlerPc := 18, catchType := 28 }], 3, 1, 1, by decide, rfl, by decide, by decide, aw_247, by decide +kernel, (fun z hz => by cases hz), Or.inl ⟨3, dL_run_12, rfl, rfl⟩, by decide, dL_run_13, by decide, dL_run_14, rfl⟩
theorem hdL_run_1 : am_Hd mL_run 4 "java/lang/IllegalStateException" 2 := ⟨"java/lang/IllegalStateException", { startPc := 0, endPc := 9, handlerPc := 15, catchType := 19 }, [{ startPc := 0, endPc := 9, handlerPc := 12, catchType := 13 }], [{ startPc := 0, endPc := 9, handlerPc := 18, catchType := 28 }], 3, 1, 2, by decide, rfl, by decide, by decide, aw_328, by decide +kernel, (fun z hz => by rcases List.mem_singleton.mp hz with rfl; exact ⟨by decide, _, aw_247, by decide⟩), Or.inl ⟨3, dL_run_15, rfl, rfl⟩, by decide, dL_run_16, by decide, dL_run_17, rfl⟩
theorem hdL_run_2 : am_Hd mL_run 4 "java/lang/UnsupportedOperationException" 3 := ⟨"java/lang/UnsupportedOperationException", { startPc := 0, endPc := 9, handlerPc := 18, catchType := 28 }, [{ startPc := 0, endPc := 9, handlerPc := 12, catchType := 13 }, { startPc := 0, endPc := 9, handlerPc := 15, catchType := 19 }], [], 3, 1, 3, by decide, rfl, by decide, by decide, aw_405, by decide +kernel, (fun z hz => by
    simp only [List.mem_cons, List.not_mem_nil, or_false] at hz
    rcases hz with rfl | rfl
    · exact ⟨by decide, _, aw_247, by decide⟩
    · exact ⟨by decide, _, aw_328, by decide⟩), Or.inl ⟨3, dL_run_18, rfl, rfl⟩, by decide, dL_run_19, by decide, dL_run_20, rfl⟩
abbrev cs_run : List (String × Int32) := [("java/lang/IllegalArgumentException", 1), ("java/lang/IllegalStateException", 2), ("java/lang/UnsupportedOperationException", 3)]
set_option maxRecDepth 100000 in
set_option maxHeartbeats 4000000 in
theorem e_L_run {ox : List (Nat × (Nat → Int32))} {cc d w : Nat} {H : am_H} {x0 : Int32} {P1 : Option Value ⊕ String → am_H → Prop} (hC : am_DB cc ox d yX6_run mX6_run [.ref 0, .int x0] H P1) (hs : am_sh H 0 = (6, am_Nf 6)) (hb : 0 < am_nx H) (hw : w < am_nx H) (hP : ∀ o G, P1 o G → am_nx G = am_nx H ∧ am_sh G w = (102, 1) ∧ lo cs_run o) : am_DW cc ox (d + 1) yL_run mL_run hL_run [.ref 0, .int x0, .ref w] H (lx P1 w cs_run) := by
  refine ae_enterW rfl rfl rfl rfl (Nat.le_of_ble_eq_true rfl) ?_
  show am_EB cc ox (d + 1) mL_run 0 [(0, .ref 0), (1, .int x0), (2, .ref w)] [] H _
  refine ae_aload_n (q := 1) dL_run_0 rfl rfl rfl ?_
  refine ae_iconst (v := 0) (q := 2) dL_run_1 (by decide) rfl ?_
  refine ae_aload_n (q := 3) dL_run_2 rfl rfl rfl ?_
  refine ae_iload_n (q := 4) dL_run_3 rfl rfl rfl ?_
  refine ae_callVX (c2 := 0) (ci := 6) (as := [.int x0]) (b := 0) (st := [.int 0, .ref w]) (q := 7) dL_run_4 hC myX6_run lk_L_25 im_X6_run se_X6_run rfl (by decide) hs hb rfl rfl (Nat.le_of_ble_eq_true rfl) rfl (Nat.le_refl _) (fun v G hv => ?_) (fun E G hE => ?_)
  · obtain ⟨h1, h3, h2⟩ := hP _ _ hv
    refine ⟨Or.inl h1, ?_⟩
    rcases h2 with ⟨v', h2⟩ | ⟨E, k, -, h2⟩ <;> cases h2
    show am_EB 0 ox (d + 1) mL_run 7 [(0, .ref 0), (1, .int x0), (2, .ref w)] [.int v', .int 0, .ref w] G _
    refine ae_i2l (q := 8) dL_run_7 rfl ?_
    refine ae_last (q := 9) dL_run_8 h3 (by omega) (by unfold vp_in; decide) rfl ?_
    refine ae_goto (q := 21) dL_run_9 (by decide) ?_
    refine ae_iconst (v := 0) (q := 22) dL_run_21 (by decide) rfl ?_
    refine ae_iret dL_run_22 rfl rfl ?_
    exact Or.inl ⟨v', G, hv, rfl, congrArg (fun k => am_sl G w k v'.toInt64) (by decide)⟩
  · obtain ⟨h1, -, h2⟩ := hP _ _ hE
    refine ⟨Or.inl h1, ?_⟩
    rcases h2 with ⟨v, h2⟩ | ⟨E', k, hm, h2⟩
    · cases h2
    · cases h2
      refine ⟨k, ?_, Or.inr ⟨E, k, hm, hE, rfl⟩⟩
      simp only [cs_run, List.mem_cons, List.not_mem_nil, or_false, Prod.mk.injEq] at hm
      rcases hm with ⟨rfl, rfl⟩ | ⟨rfl, rfl⟩ | ⟨rfl, rfl⟩
      · exact hdL_run_0
      · exact hdL_run_1
      · exact hdL_run_2
abbrev hL_result : List (Nat × Nat × Nat × Nat) := [(0, 8, 11, 19), (0, 8, 14, 34)]
abbrev mL_result : am_M := (RL, method_7_code, 3, (Option.some Jvm.ClassFile.FieldType.int), "result", am_tb hL_result)
theorem aw_605 : (Jvm.Cond.codeWith ({ cls := "PhaserYardLaw", name := "result", desc := "(LPhaserYard;[J)I" } : Jvm.MethodName) method_7_code (3 : Nat) (Option.some Jvm.ClassFile.FieldType.int) [((0 : Nat), (8 : Nat), (11 : Nat), (19 : Nat)), ((0 : Nat), (8 : Nat), (14 : Nat), (34 : Nat))]) ∈ am_words := am_in 605 (by decide +kernel) (by decide +kernel)
theorem mwL_result : am_Mw yL_result mL_result hL_result 2 := ⟨aw_605, aw_0, by decide +kernel, by decide⟩
theorem hdL_result_0 : am_Hd mL_result 3 "java/lang/IllegalStateException" 1 := ⟨"java/lang/IllegalStateException", { startPc := 0, endPc := 8, handlerPc := 11, catchType := 19 }, [], [{ startPc := 0, endPc := 8, handlerPc := 14, catchType := 34 }], 2, 1, 1, by decide, rfl, by decide, by decide, aw_328, by decide +kernel, (fun z hz => by cases hz), Or.inl ⟨2, dL_result_11, rfl, rfl⟩, by decide, dL_result_12, by decide, dL_result_13, rfl⟩
theorem hdL_result_1 : am_Hd mL_result 3 "java/lang/ArithmeticException" 2 := ⟨"java/lang/ArithmeticException", { startPc := 0, endPc := 8, handlerPc := 14, catchType := 34 }, [{ startPc := 0, endPc := 8, handlerPc := 11, catchType := 19 }], [], 2, 1, 2, by decide, rfl, by decide, by decide, aw_606, by decide +kernel, (fun z hz => by rcases List.mem_singleton.mp hz with rfl; exact ⟨by decide, _, aw_328, by decide⟩), Or.inl ⟨2, dL_result_14, rfl, rfl⟩, by decide, dL_result_15, by decide, dL_result_16, rfl⟩
abbrev cs_result : List (String × Int32) := [("java/lang/IllegalStateException", 1), ("java/lang/ArithmeticException", 2)]
set_option maxRecDepth 100000 in
set_option maxHeartbeats 4000000 in
theorem e_L_result {ox : List (Nat × (Nat → Int32))} {cc d w : Nat} {H : am_H} {P1 : Option Value ⊕ String → am_H → Prop} (hC : am_DB cc ox d yX6_result mX6_result [.ref 0] H P1) (hs : am_sh H 0 = (6, am_Nf 6)) (hb : 0 < am_nx H) (hw : w < am_nx H) (hP : ∀ o G, P1 o G → am_nx G = am_nx H ∧ am_sh G w = (102, 1) ∧ lo cs_result o) : am_DW cc ox (d + 1) yL_result mL_result hL_result [.ref 0, .ref w] H (lx P1 w cs_result) := by
  refine ae_enterW rfl rfl rfl rfl (Nat.le_of_ble_eq_true rfl) ?_
  show am_EB cc ox (d + 1) mL_result 0 [(0, .ref 0), (1, .ref w)] [] H _
  refine ae_aload_n (q := 1) dL_result_0 rfl rfl rfl ?_
  refine ae_iconst (v := 0) (q := 2) dL_result_1 (by decide) rfl ?_
  refine ae_aload_n (q := 3) dL_result_2 rfl rfl rfl ?_
  refine ae_callVX (c2 := 0) (ci := 6) (as := []) (b := 0) (st := [.int 0, .ref w]) (q := 6) dL_result_3 hC myX6_result lk_L_30 im_X6_result se_X6_result rfl (by decide) hs hb rfl rfl (Nat.le_of_ble_eq_true rfl) rfl (Nat.le_refl _) (fun v G hv => ?_) (fun E G hE => ?_)
  · obtain ⟨h1, h3, h2⟩ := hP _ _ hv
    refine ⟨Or.inl h1, ?_⟩
    rcases h2 with ⟨v', h2⟩ | ⟨E, k, -, h2⟩ <;> cases h2
    show am_EB 0 ox (d + 1) mL_result 6 [(0, .ref 0), (1, .ref w)] [.int v', .int 0, .ref w] G _
    refine ae_i2l (q := 7) dL_result_6 rfl ?_
    refine ae_last (q := 8) dL_result_7 h3 (by omega) (by unfold vp_in; decide) rfl ?_
    refine ae_goto (q := 17) dL_result_8 (by decide) ?_
    refine ae_iconst (v := 0) (q := 18) dL_result_17 (by decide) rfl ?_
    refine ae_iret dL_result_18 rfl rfl ?_
    exact Or.inl ⟨v', G, hv, rfl, congrArg (fun k => am_sl G w k v'.toInt64) (by decide)⟩
  · obtain ⟨h1, -, h2⟩ := hP _ _ hE
    refine ⟨Or.inl h1, ?_⟩
    rcases h2 with ⟨v, h2⟩ | ⟨E', k, hm, h2⟩
    · cases h2
    · cases h2
      refine ⟨k, ?_, Or.inr ⟨E, k, hm, hE, rfl⟩⟩
      simp only [cs_result, List.mem_cons, List.not_mem_nil, or_false, Prod.mk.injEq] at hm
      rcases hm with ⟨rfl, rfl⟩ | ⟨rfl, rfl⟩
      · exact hdL_result_0
      · exact hdL_result_1
abbrev hL_said : List (Nat × Nat × Nat × Nat) := [(0, 9, 12, 39)]
abbrev mL_said : am_M := (RL, method_8_code, 4, (Option.some Jvm.ClassFile.FieldType.int), "said", am_tb hL_said)
theorem aw_630 : (Jvm.Cond.codeWith ({ cls := "PhaserYardLaw", name := "said", desc := "(LPhaserYard;I[J)I" } : Jvm.MethodName) method_8_code (4 : Nat) (Option.some Jvm.ClassFile.FieldType.int) [((0 : Nat), (9 : Nat), (12 : Nat), (39 : Nat))]) ∈ am_words := am_in 630 (by decide +kernel) (by decide +kernel)
theorem mwL_said : am_Mw yL_said mL_said hL_said 3 := ⟨aw_630, aw_0, by decide +kernel, by decide⟩
theorem hdL_said_0 : am_Hd mL_said 4 "java/lang/IndexOutOfBoundsException" 1 := ⟨"java/lang/IndexOutOfBoundsException", { startPc := 0, endPc := 9, handlerPc := 12, catchType := 39 }, [], [], 3, 1, 1, by decide, rfl, by decide, by decide, aw_631, by decide +kernel, (fun z hz => by cases hz), Or.inl ⟨3, dL_said_12, rfl, rfl⟩, by decide, dL_said_13, by decide, dL_said_14, rfl⟩
abbrev cs_said : List (String × Int32) := [("java/lang/IndexOutOfBoundsException", 1)]
set_option maxRecDepth 100000 in
set_option maxHeartbeats 4000000 in
theorem e_L_said {ox : List (Nat × (Nat → Int32))} {cc d w : Nat} {H : am_H} {x0 : Int32} {P1 : Option Value ⊕ String → am_H → Prop} (hC : am_DB cc ox d yX6_said mX6_said [.ref 0, .int x0] H P1) (hs : am_sh H 0 = (6, am_Nf 6)) (hb : 0 < am_nx H) (hw : w < am_nx H) (hP : ∀ o G, P1 o G → am_nx G = am_nx H ∧ am_sh G w = (102, 1) ∧ lo cs_said o) : am_DW cc ox (d + 1) yL_said mL_said hL_said [.ref 0, .int x0, .ref w] H (lx P1 w cs_said) := by
  refine ae_enterW rfl rfl rfl rfl (Nat.le_of_ble_eq_true rfl) ?_
  show am_EB cc ox (d + 1) mL_said 0 [(0, .ref 0), (1, .int x0), (2, .ref w)] [] H _
  refine ae_aload_n (q := 1) dL_said_0 rfl rfl rfl ?_
  refine ae_iconst (v := 0) (q := 2) dL_said_1 (by decide) rfl ?_
  refine ae_aload_n (q := 3) dL_said_2 rfl rfl rfl ?_
  refine ae_iload_n (q := 4) dL_said_3 rfl rfl rfl ?_
  refine ae_callVX (c2 := 0) (ci := 6) (as := [.int x0]) (b := 0) (st := [.int 0, .ref w]) (q := 7) dL_said_4 hC myX6_said lk_L_36 im_X6_said se_X6_said rfl (by decide) hs hb rfl rfl (Nat.le_of_ble_eq_true rfl) rfl (Nat.le_refl _) (fun v G hv => ?_) (fun E G hE => ?_)
  · obtain ⟨h1, h3, h2⟩ := hP _ _ hv
    refine ⟨Or.inl h1, ?_⟩
    rcases h2 with ⟨v', h2⟩ | ⟨E, k, -, h2⟩ <;> cases h2
    show am_EB 0 ox (d + 1) mL_said 7 [(0, .ref 0), (1, .int x0), (2, .ref w)] [.int v', .int 0, .ref w] G _
    refine ae_i2l (q := 8) dL_said_7 rfl ?_
    refine ae_last (q := 9) dL_said_8 h3 (by omega) (by unfold vp_in; decide) rfl ?_
    refine ae_goto (q := 15) dL_said_9 (by decide) ?_
    refine ae_iconst (v := 0) (q := 16) dL_said_15 (by decide) rfl ?_
    refine ae_iret dL_said_16 rfl rfl ?_
    exact Or.inl ⟨v', G, hv, rfl, congrArg (fun k => am_sl G w k v'.toInt64) (by decide)⟩
  · obtain ⟨h1, -, h2⟩ := hP _ _ hE
    refine ⟨Or.inl h1, ?_⟩
    rcases h2 with ⟨v, h2⟩ | ⟨E', k, hm, h2⟩
    · cases h2
    · cases h2
      refine ⟨k, ?_, Or.inr ⟨E, k, hm, hE, rfl⟩⟩
      simp only [cs_said, List.mem_cons, List.not_mem_nil, or_false, Prod.mk.injEq] at hm
      rcases hm with ⟨rfl, rfl⟩
      exact hdL_said_0
abbrev hL_task : List (Nat × Nat × Nat × Nat) := [(0, 10, 13, 13), (0, 10, 17, 39)]
abbrev mL_task : am_M := (RL, method_9_code, 5, (Option.some Jvm.ClassFile.FieldType.int), "task", am_tb hL_task)
theorem aw_655 : (Jvm.Cond.codeWith ({ cls := "PhaserYardLaw", name := "task", desc := "(LPhaserYard;II[J)I" } : Jvm.MethodName) method_9_code (5 : Nat) (Option.some Jvm.ClassFile.FieldType.int) [((0 : Nat), (10 : Nat), (13 : Nat), (13 : Nat)), ((0 : Nat), (10 : Nat), (17 : Nat), (39 : Nat))]) ∈ am_words := am_in 655 (by decide +kernel) (by decide +kernel)
theorem mwL_task : am_Mw yL_task mL_task hL_task 4 := ⟨aw_655, aw_0, by decide +kernel, by decide⟩
theorem hdL_task_0 : am_Hd mL_task 5 "java/lang/IllegalArgumentException" 1 := ⟨"java/lang/IllegalArgumentException", { startPc := 0, endPc := 10, handlerPc := 13, catchType := 13 }, [], [{ startPc := 0, endPc := 10, handlerPc := 17, catchType := 39 }], 4, 2, 1, by decide, rfl, by decide, by decide, aw_247, by decide +kernel, (fun z hz => by cases hz), Or.inr ⟨dL_task_13, rfl⟩, by decide, dL_task_15, by decide, dL_task_16, rfl⟩
theorem hdL_task_1 : am_Hd mL_task 5 "java/lang/IndexOutOfBoundsException" 2 := ⟨"java/lang/IndexOutOfBoundsException", { startPc := 0, endPc := 10, handlerPc := 17, catchType := 39 }, [{ startPc := 0, endPc := 10, handlerPc := 13, catchType := 13 }], [], 4, 2, 2, by decide, rfl, by decide, by decide, aw_631, by decide +kernel, (fun z hz => by rcases List.mem_singleton.mp hz with rfl; exact ⟨by decide, _, aw_247, by decide⟩), Or.inr ⟨dL_task_17, rfl⟩, by decide, dL_task_19, by decide, dL_task_20, rfl⟩
abbrev cs_task : List (String × Int32) := [("java/lang/IllegalArgumentException", 1), ("java/lang/IndexOutOfBoundsException", 2)]
set_option maxRecDepth 100000 in
set_option maxHeartbeats 4000000 in
theorem e_L_task {ox : List (Nat × (Nat → Int32))} {cc d w : Nat} {H : am_H} {x0 x1 : Int32} {P1 : Option Value ⊕ String → am_H → Prop} (hC : am_DB cc ox d yX6_task mX6_task [.ref 0, .int x0, .int x1] H P1) (hs : am_sh H 0 = (6, am_Nf 6)) (hb : 0 < am_nx H) (hw : w < am_nx H) (hP : ∀ o G, P1 o G → am_nx G = am_nx H ∧ am_sh G w = (102, 1) ∧ lo cs_task o) : am_DW cc ox (d + 1) yL_task mL_task hL_task [.ref 0, .int x0, .int x1, .ref w] H (lx P1 w cs_task) := by
  refine ae_enterW rfl rfl rfl rfl (Nat.le_of_ble_eq_true rfl) ?_
  show am_EB cc ox (d + 1) mL_task 0 [(0, .ref 0), (1, .int x0), (2, .int x1), (3, .ref w)] [] H _
  refine ae_aload_n (q := 1) dL_task_0 rfl rfl rfl ?_
  refine ae_iconst (v := 0) (q := 2) dL_task_1 (by decide) rfl ?_
  refine ae_aload_n (q := 3) dL_task_2 rfl rfl rfl ?_
  refine ae_iload_n (q := 4) dL_task_3 rfl rfl rfl ?_
  refine ae_iload_n (q := 5) dL_task_4 rfl rfl rfl ?_
  refine ae_callVX (c2 := 0) (ci := 6) (as := [.int x0, .int x1]) (b := 0) (st := [.int 0, .ref w]) (q := 8) dL_task_5 hC myX6_task lk_L_41 im_X6_task se_X6_task rfl (by decide) hs hb rfl rfl (Nat.le_of_ble_eq_true rfl) rfl (Nat.le_refl _) (fun v G hv => ?_) (fun E G hE => ?_)
  · obtain ⟨h1, h3, h2⟩ := hP _ _ hv
    refine ⟨Or.inl h1, ?_⟩
    rcases h2 with ⟨v', h2⟩ | ⟨E, k, -, h2⟩ <;> cases h2
    show am_EB 0 ox (d + 1) mL_task 8 [(0, .ref 0), (1, .int x0), (2, .int x1), (3, .ref w)] [.int v', .int 0, .ref w] G _
    refine ae_i2l (q := 9) dL_task_8 rfl ?_
    refine ae_last (q := 10) dL_task_9 h3 (by omega) (by unfold vp_in; decide) rfl ?_
    refine ae_goto (q := 21) dL_task_10 (by decide) ?_
    refine ae_iconst (v := 0) (q := 22) dL_task_21 (by decide) rfl ?_
    refine ae_iret dL_task_22 rfl rfl ?_
    exact Or.inl ⟨v', G, hv, rfl, congrArg (fun k => am_sl G w k v'.toInt64) (by decide)⟩
  · obtain ⟨h1, -, h2⟩ := hP _ _ hE
    refine ⟨Or.inl h1, ?_⟩
    rcases h2 with ⟨v, h2⟩ | ⟨E', k, hm, h2⟩
    · cases h2
    · cases h2
      refine ⟨k, ?_, Or.inr ⟨E, k, hm, hE, rfl⟩⟩
      simp only [cs_task, List.mem_cons, List.not_mem_nil, or_false, Prod.mk.injEq] at hm
      rcases hm with ⟨rfl, rfl⟩ | ⟨rfl, rfl⟩
      · exact hdL_task_0
      · exact hdL_task_1
abbrev hL_future : List (Nat × Nat × Nat × Nat) := [(0, 9, 12, 13), (0, 9, 15, 19)]
abbrev mL_future : am_M := (RL, method_10_code, 4, (Option.some Jvm.ClassFile.FieldType.int), "future", am_tb hL_future)
theorem aw_668 : (Jvm.Cond.codeWith ({ cls := "PhaserYardLaw", name := "future", desc := "(LPhaserYard;I[J)I" } : Jvm.MethodName) method_10_code (4 : Nat) (Option.some Jvm.ClassFile.FieldType.int) [((0 : Nat), (9 : Nat), (12 : Nat), (13 : Nat)), ((0 : Nat), (9 : Nat), (15 : Nat), (19 : Nat))]) ∈ am_words := am_in 668 (by decide +kernel) (by decide +kernel)
theorem mwL_future : am_Mw yL_future mL_future hL_future 3 := ⟨aw_668, aw_0, by decide +kernel, by decide⟩
theorem hdL_future_0 : am_Hd mL_future 4 "java/lang/IllegalArgumentException" 1 := ⟨"java/lang/IllegalArgumentException", { startPc := 0, endPc := 9, handlerPc := 12, catchType := 13 }, [], [{ startPc := 0, endPc := 9, handlerPc := 15, catchType := 19 }], 3, 1, 1, by decide, rfl, by decide, by decide, aw_247, by decide +kernel, (fun z hz => by cases hz), Or.inl ⟨3, dL_future_12, rfl, rfl⟩, by decide, dL_future_13, by decide, dL_future_14, rfl⟩
theorem hdL_future_1 : am_Hd mL_future 4 "java/lang/IllegalStateException" 2 := ⟨"java/lang/IllegalStateException", { startPc := 0, endPc := 9, handlerPc := 15, catchType := 19 }, [{ startPc := 0, endPc := 9, handlerPc := 12, catchType := 13 }], [], 3, 1, 2, by decide, rfl, by decide, by decide, aw_328, by decide +kernel, (fun z hz => by rcases List.mem_singleton.mp hz with rfl; exact ⟨by decide, _, aw_247, by decide⟩), Or.inl ⟨3, dL_future_15, rfl, rfl⟩, by decide, dL_future_16, by decide, dL_future_17, rfl⟩
abbrev cs_future : List (String × Int32) := [("java/lang/IllegalArgumentException", 1), ("java/lang/IllegalStateException", 2)]
set_option maxRecDepth 100000 in
set_option maxHeartbeats 4000000 in
theorem e_L_future {ox : List (Nat × (Nat → Int32))} {cc d w : Nat} {H : am_H} {x0 : Int32} {P1 : Option Value ⊕ String → am_H → Prop} (hC : am_DB cc ox d yX6_future mX6_future [.ref 0, .int x0] H P1) (hs : am_sh H 0 = (6, am_Nf 6)) (hb : 0 < am_nx H) (hw : w < am_nx H) (hP : ∀ o G, P1 o G → am_nx G = am_nx H ∧ am_sh G w = (102, 1) ∧ lo cs_future o) : am_DW cc ox (d + 1) yL_future mL_future hL_future [.ref 0, .int x0, .ref w] H (lx P1 w cs_future) := by
  refine ae_enterW rfl rfl rfl rfl (Nat.le_of_ble_eq_true rfl) ?_
  show am_EB cc ox (d + 1) mL_future 0 [(0, .ref 0), (1, .int x0), (2, .ref w)] [] H _
  refine ae_aload_n (q := 1) dL_future_0 rfl rfl rfl ?_
  refine ae_iconst (v := 0) (q := 2) dL_future_1 (by decide) rfl ?_
  refine ae_aload_n (q := 3) dL_future_2 rfl rfl rfl ?_
  refine ae_iload_n (q := 4) dL_future_3 rfl rfl rfl ?_
  refine ae_callVX (c2 := 0) (ci := 6) (as := [.int x0]) (b := 0) (st := [.int 0, .ref w]) (q := 7) dL_future_4 hC myX6_future lk_L_45 im_X6_future se_X6_future rfl (by decide) hs hb rfl rfl (Nat.le_of_ble_eq_true rfl) rfl (Nat.le_refl _) (fun v G hv => ?_) (fun E G hE => ?_)
  · obtain ⟨h1, h3, h2⟩ := hP _ _ hv
    refine ⟨Or.inl h1, ?_⟩
    rcases h2 with ⟨v', h2⟩ | ⟨E, k, -, h2⟩ <;> cases h2
    show am_EB 0 ox (d + 1) mL_future 7 [(0, .ref 0), (1, .int x0), (2, .ref w)] [.int v', .int 0, .ref w] G _
    refine ae_i2l (q := 8) dL_future_7 rfl ?_
    refine ae_last (q := 9) dL_future_8 h3 (by omega) (by unfold vp_in; decide) rfl ?_
    refine ae_goto (q := 18) dL_future_9 (by decide) ?_
    refine ae_iconst (v := 0) (q := 19) dL_future_18 (by decide) rfl ?_
    refine ae_iret dL_future_19 rfl rfl ?_
    exact Or.inl ⟨v', G, hv, rfl, congrArg (fun k => am_sl G w k v'.toInt64) (by decide)⟩
  · obtain ⟨h1, -, h2⟩ := hP _ _ hE
    refine ⟨Or.inl h1, ?_⟩
    rcases h2 with ⟨v, h2⟩ | ⟨E', k, hm, h2⟩
    · cases h2
    · cases h2
      refine ⟨k, ?_, Or.inr ⟨E, k, hm, hE, rfl⟩⟩
      simp only [cs_future, List.mem_cons, List.not_mem_nil, or_false, Prod.mk.injEq] at hm
      rcases hm with ⟨rfl, rfl⟩ | ⟨rfl, rfl⟩
      · exact hdL_future_0
      · exact hdL_future_1
abbrev hL_count : List (Nat × Nat × Nat × Nat) := [(0, 9, 12, 13)]
abbrev mL_count : am_M := (RL, method_11_code, 4, (Option.some Jvm.ClassFile.FieldType.int), "count", am_tb hL_count)
theorem aw_677 : (Jvm.Cond.codeWith ({ cls := "PhaserYardLaw", name := "count", desc := "(LPhaserYard;I[J)I" } : Jvm.MethodName) method_11_code (4 : Nat) (Option.some Jvm.ClassFile.FieldType.int) [((0 : Nat), (9 : Nat), (12 : Nat), (13 : Nat))]) ∈ am_words := am_in 677 (by decide +kernel) (by decide +kernel)
theorem mwL_count : am_Mw yL_count mL_count hL_count 3 := ⟨aw_677, aw_0, by decide +kernel, by decide⟩
theorem hdL_count_0 : am_Hd mL_count 4 "java/lang/IllegalArgumentException" 1 := ⟨"java/lang/IllegalArgumentException", { startPc := 0, endPc := 9, handlerPc := 12, catchType := 13 }, [], [], 3, 1, 1, by decide, rfl, by decide, by decide, aw_247, by decide +kernel, (fun z hz => by cases hz), Or.inl ⟨3, dL_count_12, rfl, rfl⟩, by decide, dL_count_13, by decide, dL_count_14, rfl⟩
abbrev cs_count : List (String × Int32) := [("java/lang/IllegalArgumentException", 1)]
set_option maxRecDepth 100000 in
set_option maxHeartbeats 4000000 in
theorem e_L_count {ox : List (Nat × (Nat → Int32))} {cc d w : Nat} {H : am_H} {x0 : Int32} {P1 : Option Value ⊕ String → am_H → Prop} (hC : am_DB cc ox d yX6_count mX6_count [.ref 0, .int x0] H P1) (hs : am_sh H 0 = (6, am_Nf 6)) (hb : 0 < am_nx H) (hw : w < am_nx H) (hP : ∀ o G, P1 o G → am_nx G = am_nx H ∧ am_sh G w = (102, 1) ∧ lo cs_count o) : am_DW cc ox (d + 1) yL_count mL_count hL_count [.ref 0, .int x0, .ref w] H (lx P1 w cs_count) := by
  refine ae_enterW rfl rfl rfl rfl (Nat.le_of_ble_eq_true rfl) ?_
  show am_EB cc ox (d + 1) mL_count 0 [(0, .ref 0), (1, .int x0), (2, .ref w)] [] H _
  refine ae_aload_n (q := 1) dL_count_0 rfl rfl rfl ?_
  refine ae_iconst (v := 0) (q := 2) dL_count_1 (by decide) rfl ?_
  refine ae_aload_n (q := 3) dL_count_2 rfl rfl rfl ?_
  refine ae_iload_n (q := 4) dL_count_3 rfl rfl rfl ?_
  refine ae_callVX (c2 := 0) (ci := 6) (as := [.int x0]) (b := 0) (st := [.int 0, .ref w]) (q := 7) dL_count_4 hC myX6_count lk_L_48 im_X6_count se_X6_count rfl (by decide) hs hb rfl rfl (Nat.le_of_ble_eq_true rfl) rfl (Nat.le_refl _) (fun v G hv => ?_) (fun E G hE => ?_)
  · obtain ⟨h1, h3, h2⟩ := hP _ _ hv
    refine ⟨Or.inl h1, ?_⟩
    rcases h2 with ⟨v', h2⟩ | ⟨E, k, -, h2⟩ <;> cases h2
    show am_EB 0 ox (d + 1) mL_count 7 [(0, .ref 0), (1, .int x0), (2, .ref w)] [.int v', .int 0, .ref w] G _
    refine ae_i2l (q := 8) dL_count_7 rfl ?_
    refine ae_last (q := 9) dL_count_8 h3 (by omega) (by unfold vp_in; decide) rfl ?_
    refine ae_goto (q := 15) dL_count_9 (by decide) ?_
    refine ae_iconst (v := 0) (q := 16) dL_count_15 (by decide) rfl ?_
    refine ae_iret dL_count_16 rfl rfl ?_
    exact Or.inl ⟨v', G, hv, rfl, congrArg (fun k => am_sl G w k v'.toInt64) (by decide)⟩
  · obtain ⟨h1, -, h2⟩ := hP _ _ hE
    refine ⟨Or.inl h1, ?_⟩
    rcases h2 with ⟨v, h2⟩ | ⟨E', k, hm, h2⟩
    · cases h2
    · cases h2
      refine ⟨k, ?_, Or.inr ⟨E, k, hm, hE, rfl⟩⟩
      simp only [cs_count, List.mem_cons, List.not_mem_nil, or_false, Prod.mk.injEq] at hm
      rcases hm with ⟨rfl, rfl⟩
      exact hdL_count_0
