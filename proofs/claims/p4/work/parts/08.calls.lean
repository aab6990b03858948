/-! THE ABSTRACT MACHINE, part 6: calls. -/
section AMC
variable {ox : List (Nat × (Nat → Int32))} {d : Nat} {M : am_M} {pc q : Nat} {lv : List (Nat × Value)} {st stk : List Value} {H H1 H' : am_H} {o : Option Value ⊕ String}
/-- may the numbering grow under these values -/
def am_fine (H H1 : am_H) (lv : List (Nat × Value)) (st : List Value) : Prop := am_nx H1 = am_nx H ∨ (am_nx H ≤ am_nx H1 ∧ (∀ v ∈ st, am_ok (am_nx H) v) ∧ ∀ x ∈ lv, am_ok (am_nx H) x.2)
theorem am_fine.le {H H1 : am_H} {lv : List (Nat × Value)} {st : List Value} (h : am_fine H H1 lv st) : am_nx H ≤ am_nx H1 := by
  rcases h with h | h
  · omega
  · exact h.1
/-- the state behind a call -/
theorem am_after {nL : Nat} {s : State} {dC : Nat → ClassId} {dI : Nat → Nat → Nat} {τ : Nat → ClassId} {B0 : Nat} {ρ0 : Nat → Nat} {nx0 n0 z0 : Nat} {ρ ρ' : Nat → Nat} {hp hp1 : Heap} {locs locs1 : List Loc} {cells slots : Nat} {ls : Array Slot} (S : am_St nL lv H s dC dI τ B0 ρ0 nx0 n0 z0 ρ hp locs cells slots ls)
    (hf : am_fine H H1 lv st) (hc : am_nc H ≤ am_nc H1) (hz : am_nz H ≤ am_nz H1) (hJ : am_J (am_nx H) ρ ρ' H1) (hP : am_P dC dI τ B0 ρ' H1 hp1) (hS : va_S (am_A B0) s.heap hp1 locs1) :
    am_St nL lv H1 s dC dI τ B0 ρ0 nx0 n0 z0 ρ' hp1 locs1 (cells + (am_nc H1 - am_nc H)) (slots + (am_nz H1 - am_nz H)) ls ∧ st.map (am_cv ρ') = st.map (am_cv ρ) := by
  obtain ⟨⟨j1, j2, j3⟩, -, -, hcc, hzz, hl⟩ := S
  have hle := hf.le
  have hlv : am_cl ρ' lv = am_cl ρ lv ∧ st.map (am_cv ρ') = st.map (am_cv ρ) := by
    rcases hf with h | h
    · rw [hJ.2.1 h]; exact ⟨rfl, rfl⟩
    · exact ⟨am_cl_ext hJ.2.2 h.2.2, am_cvs_ext hJ.2.2 h.2.1⟩
  refine ⟨⟨⟨by omega, fun h => ?_, j3.trans hJ.2.2 j1⟩, hP, hS, by omega, by omega, by rw [hlv.1]; exact hl⟩, hlv.2⟩
  rw [hJ.2.1 (by omega)]
  exact j2 (by omega)
theorem am_keep {B0 : Nat} {hp H0 : Heap} {st₀ t T' : State} {locs L : List Loc} (h0 : st₀.heap = hp) (e1 : T'.heap = t.heap) (hS : va_S (am_A B0) H0 hp locs) (hL : ∀ q ∈ L, am_A B0 q.base) (hF : va_F (am_A B0) st₀ t) : va_S (am_A B0) H0 T'.heap (locs ++ L) := by
  obtain ⟨hz, hk⟩ := hF
  rw [h0] at hz hk
  refine ⟨Nat.le_trans hS.1 (by rw [e1]; exact hz), fun q h1 h2 => ?_, fun q hq => ?_⟩
  · rw [e1, hk q (Nat.lt_of_lt_of_le h1 hS.1) h2]; exact hS.2.1 q h1 h2
  · rcases List.mem_append.mp hq with h | h
    · exact hS.2.2 q h
    · exact hL q h
theorem am_C.met {d : Nat} {y : MethodName} {M : am_M} {as : List Value} {v : Option Value} (h : am_C ox d y M as H (.inl v) H1) (l : Launch) (hl : l.stackTraces = false) (dC : Nat → ClassId) (dI : Nat → Nat → Nat) (τ : Nat → ClassId) (B0 : Nat) (ρ : Nat → Nat) :
    Met l y (Cond.code y M.2.1 M.2.2.1 M.2.2.2.1 :: am_words) (am_rm d (am_nc H1 - am_nc H) (am_nz H1 - am_nz H)) (va_Pc (as.map (am_cv ρ)) (am_B ox dC dI τ B0 ρ H)) (am_Q dC dI τ B0 ρ (am_nx H) (.inl v) H1) (am_nc H1 - am_nc H) (am_nz H1 - am_nz H) (am_A B0) := by
  refine MetFree.mono (h l hl dC dI τ B0 ρ) (fun _ _ h => h) (fun _ _ _ _ _ h => h) (fun a s o t _ hq => ?_)
  rcases hq with hq | ⟨q, -, E, ce, ⟨⟨⟨ρ', ho, -⟩, -⟩, -⟩, -⟩
  · exact hq
  · cases ho
theorem am_cont {v : Option Value} {l : Launch} {p : Program} {e : Env} {R : Room} {s : State} {m : MethodId} {args a : Array Value} {below : List Frame} {meth : Method} {c : Code} {dC : Nat → ClassId} {dI : Nat → Nat → Nat} {τ : Nat → ClassId} {B0 : Nat} {ρ0 : Nat → Nat} {nx0 n0 z0 : Nat} (C : am_Cx ox d M l p R s m args meth c dC dI τ B0 ρ0 n0 z0 H') {ρ : Nat → Nat} {hp : Heap} {locs : List Loc} {cells slots : Nat} {ls : Array Slot} {st0 : List Value}
    (S : am_St M.2.2.1 lv H s dC dI τ B0 ρ0 nx0 n0 z0 ρ hp locs cells slots ls) (hf : am_fine H H1 lv st) (hc : am_nc H ≤ am_nc H1) (hz : am_nz H ≤ am_nz H1)
    (hr : va_Run p l e R s m args below meth c hp locs cells slots (am_nc H1 - am_nc H) (am_nz H1 - am_nz H) (F0 m pc ls st0) (st.map (am_cv ρ)) (am_Q dC dI τ B0 ρ (am_nx H) (.inl v) H1 a) (am_A B0))
    (kk : am_V ox d M (pc + 3) lv (v.toList ++ st) H1 o H') :
    W p l e R s m args below meth c hp locs cells slots (am_MQ below (am_Q dC dI τ B0 ρ0 nx0 o H') (am_X dC dI τ B0 ρ0 nx0 o H') args s (am_nc H' - n0) (am_nz H' - z0) (am_A B0)) (F0 m pc ls st0) := by
  intro T hT X
  obtain ⟨v', st₀, t, T', L, h0, X', hL, e1, e2, ⟨⟨w, ρ', ho, hv, hJ, hP⟩, hF⟩, stp⟩ := hr T hT X
  cases ho
  have hS1 := am_keep h0 e1 S.2.2.1 hL hF
  obtain ⟨S', est⟩ := am_after S hf hc hz hJ (by rw [e1]; exact hP) hS1
  have hk := kk l p e R s m args below meth c dC dI τ B0 ρ0 nx0 n0 z0 C ρ' T'.heap (locs ++ L) _ _ ls S'
  rw [List.map_append, est] at hk
  obtain ⟨t2, a1, b1⟩ := hk T' rfl X'
  refine ⟨t2, stp t2 ?_, b1⟩
  cases hv
  cases v <;> exact a1
theorem am_pre {y : MethodName} {Mc : am_M} {as : List Value} {l : Launch} {p : Program} {R : Room} {s : State} {m : MethodId} {args : Array Value} {meth : Method} {c : Code} {dC : Nat → ClassId} {dI : Nat → Nat → Nat} {τ : Nat → ClassId} {B0 : Nat} {ρ0 : Nat → Nat} {nx0 n0 z0 : Nat} (C : am_Cx ox d M l p R s m args meth c dC dI τ B0 ρ0 n0 z0 H') {ρ : Nat → Nat} {hp : Heap} {locs : List Loc} {cells slots : Nat} {ls : Array Slot}
    (S : am_St M.2.2.1 lv H s dC dI τ B0 ρ0 nx0 n0 z0 ρ hp locs cells slots ls) : PreS s hp (va_Pc (as.map (am_cv ρ)) (am_B ox dC dI τ B0 ρ H)) (as.map (am_cv ρ)) := by
  refine ⟨fun a U g mk h => ⟨h.1, h.2.1, va_K.moved (u := U) (U := U.calling g mk a) (Vm.Alike.refl U.vm) h.2.2.1, am_O.calling h.2.2.2⟩, fun U hU hW => ⟨rfl, by rw [hU]; exact S.2.1, va_K.moved hW.alike C.2.2.2.2.2.2.2.1, ?_⟩⟩
  exact am_O.to (am_O.ext C.2.2.2.2.2.2.2.2.2.2.2.2.2.2.2.2 S.1.2.2) hW (fun x hx => by rw [hU]; exact S.2.2.1.2.1 x (Nat.lt_of_lt_of_le hx C.2.2.2.2.2.2.2.2.2.1) (Nat.not_le.mpr hx))
def am_My (y : MethodName) (Mc : am_M) (n : Nat) : Prop := Cond.code y Mc.2.1 Mc.2.2.1 Mc.2.2.2.1 ∈ am_words ∧ Cond.initialized y.cls ∈ am_words ∧ (y.cls ≠ "java/lang/invoke/MethodHandle" ∧ y.cls ≠ "java/lang/invoke/VarHandle" ∧ (parseMethodDescriptor y.desc).map (fun d => d.parameters.length) = some n) ∧ Mc.2.2.1 ≤ 7
theorem am_cb {y : MethodName} {Mc : am_M} {n idx : Nat} {l : Launch} {p : Program} {R : Room} {s : State} {m : MethodId} {args : Array Value} {meth : Method} {c : Code} {dC : Nat → ClassId} {dI : Nat → Nat → Nat} {τ : Nat → ClassId} {B0 : Nat} {ρ0 : Nat → Nat} {n0 z0 : Nat} (C : am_Cx ox (d + 1) M l p R s m args meth c dC dI τ B0 ρ0 n0 z0 H') (hy : am_My y Mc n) (hlk : Cond.methodLink M.1 idx y ∈ am_words) (mc ms : Nat) :
    CallB R s args M.1 idx y Mc.2.1 Mc.2.2.1 Mc.2.2.2.1 (Cond.code y Mc.2.1 Mc.2.2.1 Mc.2.2.2.1 :: am_words) (am_rm d mc ms) mc ms n := by
  obtain ⟨hcd, hini, hd, h7⟩ := hy
  refine callB_of (Ts := am_words) n C.2.2.2.2.2.1 (fun w hw => ?_) rfl rfl rfl (C.2.2.2.2.2.1 _ hini) (C.2.2.2.2.2.1 _ hlk) hd ⟨?_, ?_⟩
  · rcases List.mem_cons.mp hw with rfl | hw
    · exact ⟨hcd, am_good _ hcd⟩
    · exact ⟨hw, am_good _ hw⟩
  · have := C.2.2.2.2.2.2.2.2.2.2.1
    show d + 1 ≤ R.frames
    omega
  · have := C.2.2.2.2.2.2.2.2.2.2.2.1
    show 8 + (Mc.2.2.1 + 11) + (116 + 26 * d) ≤ R.locals
    omega
theorem am_room {y : MethodName} {l : Launch} {p : Program} {R : Room} {s : State} {m : MethodId} {args : Array Value} {meth : Method} {c : Code} {dC : Nat → ClassId} {dI : Nat → Nat → Nat} {τ : Nat → ClassId} {B0 : Nat} {ρ0 : Nat → Nat} {nx0 n0 z0 : Nat} (C : am_Cx ox d M l p R s m args meth c dC dI τ B0 ρ0 n0 z0 H') {ρ : Nat → Nat} {hp : Heap} {locs : List Loc} {cells slots : Nat} {ls : Array Slot}
    (S : am_St M.2.2.1 lv H s dC dI τ B0 ρ0 nx0 n0 z0 ρ hp locs cells slots ls) (hc : am_nc H ≤ am_nc H1) (hz : am_nz H ≤ am_nz H1) (hc2 : am_nc H1 ≤ am_nc H') (hz2 : am_nz H1 ≤ am_nz H') : cells + (am_nc H1 - am_nc H) ≤ R.cells ∧ slots + (am_nz H1 - am_nz H) ≤ R.slots := by
  have h1 := S.2.2.2.1
  have h2 := S.2.2.2.2.1
  have h3 := C.2.2.2.2.2.2.2.2.2.2.2.2.1
  have h4 := C.2.2.2.2.2.2.2.2.2.2.2.2.2.1
  omega
theorem am_callS {y : MethodName} {Mc : am_M} {as : List Value} {v : Option Value} {idx n : Nat} (hd : decode M.2.1 pc = .ok (.invokestatic idx, 3)) (hC : am_C ox d y Mc as H (.inl v) H1) (hy : am_My y Mc n) (hlk : Cond.methodLink M.1 idx y ∈ am_words) (hs : Cond.static y ∈ am_words) (hn : as.length = n) (hst : stk = as.reverse ++ st) (hc8 : (st.map fun v => v.category).sum ≤ 8) (hf : am_fine H H1 lv st) (hc : am_nc H ≤ am_nc H1) (hz : am_nz H ≤ am_nz H1) (hc2 : am_nc H1 ≤ am_nc H') (hz2 : am_nz H1 ≤ am_nz H') (hq : pc + 3 = q) (kk : am_V ox (d + 1) M q lv (v.toList ++ st) H1 o H') : am_V ox (d + 1) M pc lv stk H o H' := by
  subst hq
  subst hst
  intro l p e R s m args below meth c dC dI τ B0 ρ0 nx0 n0 z0 C ρ hp locs cells slots ls S
  refine am_cont C S hf hc hz (va_runS (As := as.map (am_cv ρ)) (rest := st.map (am_cv ρ)) ⟨C.1, C.2.1, C.2.2.1, C.2.2.2.2.1, C.2.2.2.2.2.1⟩ (hC.met l C.2.2.2.2.2.2.2.2.1 dC dI τ B0 ρ) ⟨am_cb C hy hlk _ _, C.2.2.2.2.2.1 _ hs⟩ (am_pre (y := y) (Mc := Mc) C S) rfl (by rw [List.length_map]; exact hn) S.2.2.2.2.2.1 (by simp) ?_ hd (am_room (y := y) C S hc hz hc2 hz2)) kk
  rw [am_cat]
  show 2 * 0 + _ ≤ 8
  omega
theorem am_callV {y : MethodName} {Mc : am_M} {as : List Value} {v : Option Value} {idx n b ci N : Nat} {r : vw_C} (hd : decode M.2.1 pc = .ok (.invokevirtual idx, 3)) (hC : am_C ox d y Mc (.ref b :: as) H (.inl v) H1) (hy : am_My y Mc n) (hlk : Cond.methodLink M.1 idx y ∈ am_words) (hi : Cond.instanceMethod y ∈ am_words) (hse : Cond.selects r.1 y y ∈ am_words) (hr : vwCl[ci]? = some r) (h100 : ci < 100) (hs : am_sh H b = (ci, N)) (hb : b < am_nx H) (hn : as.length = n) (hst : stk = as.reverse ++ .ref b :: st) (hc8 : (st.map fun v => v.category).sum ≤ 8) (hf : am_fine H H1 lv st) (hc : am_nc H ≤ am_nc H1) (hz : am_nz H ≤ am_nz H1) (hc2 : am_nc H1 ≤ am_nc H') (hz2 : am_nz H1 ≤ am_nz H') (hq : pc + 3 = q) (kk : am_V ox (d + 1) M q lv (v.toList ++ st) H1 o H') : am_V ox (d + 1) M pc lv stk H o H' := by
  subst hq
  subst hst
  intro l p e R s m args below meth c dC dI τ B0 ρ0 nx0 n0 z0 C ρ hp locs cells slots ls S
  have hcell := am_ws_at (τ := τ) (ρ := ρ) hb
  rw [am_cell_o hs h100] at hcell
  have hp9 := am_pre (y := y) (Mc := Mc) (as := .ref b :: as) C S
  refine am_cont C S hf hc hz (va_runV (C := r.1) (b := ρ b) (As := as.map (am_cv ρ)) (rest := st.map (am_cv ρ)) ⟨C.1, C.2.1, C.2.2.1, C.2.2.2.2.1, C.2.2.2.2.2.1⟩ (hC.met l C.2.2.2.2.2.2.2.2.1 dC dI τ B0 ρ) ⟨am_cb C hy hlk _ _, C.2.2.2.2.2.1 _ hi, C.2.2.2.2.2.1 _ hse⟩ ⟨hp9.1, va_recv C.2.2.2.2.2.2.2.1 S.2.1.1 hr hcell, hp9.2⟩ rfl (by rw [List.length_map]; exact hn) S.2.2.2.2.2.1 (by simp [am_cv]) ?_ hd (am_room (y := y) C S hc hz hc2 hz2)) kk
  rw [am_cat]
  show 2 * 0 + _ ≤ 8
  omega
theorem am_callI {y : MethodName} {Mc : am_M} {as : List Value} {idx n b : Nat} (hd : decode M.2.1 pc = .ok (.invokespecial idx, 3)) (hC : am_C ox d y Mc (.ref b :: as) H (.inl none) H1) (hy : am_My y Mc n) (hret : Mc.2.2.2.1 = none) (hy1 : y.name = "<init>") (hlk : Cond.methodLink M.1 idx y ∈ am_words) (hi : Cond.instanceMethod y ∈ am_words) (hn : as.length = n) (hst : stk = as.reverse ++ .ref b :: st) (hc8 : (st.map fun v => v.category).sum ≤ 8) (hf : am_fine H H1 lv st) (hc : am_nc H ≤ am_nc H1) (hz : am_nz H ≤ am_nz H1) (hc2 : am_nc H1 ≤ am_nc H') (hz2 : am_nz H1 ≤ am_nz H') (hq : pc + 3 = q) (kk : am_V ox (d + 1) M q lv st H1 o H') : am_V ox (d + 1) M pc lv stk H o H' := by
  subst hq
  subst hst
  intro l p e R s m args below meth c dC dI τ B0 ρ0 nx0 n0 z0 C ρ hp locs cells slots ls S
  have hp9 := am_pre (y := y) (Mc := Mc) (as := .ref b :: as) C S
  have hcb := am_cb C hy hlk (am_nc H1 - am_nc H) (am_nz H1 - am_nz H)
  have hM := hC.met l C.2.2.2.2.2.2.2.2.1 dC dI τ B0 ρ
  rw [hret] at hcb hM
  refine am_cont (v := none) C S hf hc hz (va_runI (b := ρ b) (As := as.map (am_cv ρ)) (rest := st.map (am_cv ρ)) ⟨C.1, C.2.1, C.2.2.1, C.2.2.2.2.1, C.2.2.2.2.2.1⟩ hM ⟨hcb, hy1, C.2.2.2.2.2.1 _ hi⟩ hp9 rfl (by rw [List.length_map]; exact hn) S.2.2.2.2.2.1 (by simp [am_cv]) ?_ hd (am_room (y := y) C S hc hz hc2 hz2)) kk
  rw [am_cat]
  show 2 * 0 + _ ≤ 8
  omega
end AMC
