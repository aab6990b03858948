/-! CATCHES over the abstract machine: methods with handlers; a call that throws, caught by a handler that answers a number. -/
section AMZ
variable {p : Program} {l : Launch} {e : Env} {R : Room} {s : State} {m : MethodId} {args : Array Value} {below : List Frame} {meth : Method} {c : Code} {U : State} {locs : List Loc} {cells slots : Nat}
set_option maxHeartbeats 4000000 in
/-- a callee that throws, run from a frame with its arguments taken off -/
theorem am_thrownBy {y : MethodName} {mk : MethodId} {methY : Method} {cY : Code} {ws : List Cond} {rm : Room} {Pc : Array Value → State → Prop} {Qc : Array Value → State → Outcome → State → Prop} {XC : String → State → State → Prop} {mc ms maxL : Nat} {free : Addr → Prop} {g : JFrame} {ig : Instr} {a : Array Value}
    (X : Stand p l e R s m args below meth c U locs cells slots) (hM : am_Met l y ws rm Pc Qc XC mc ms free) (hno : ∀ st v t, ¬ Qc a st (.returned v) t) (hno2 : ∀ st q t, ¬ Qc a st (.threw q) t)
    (hrm : rm.cells = mc ∧ rm.slots = ms ∧ rm.frames + 1 ≤ R.frames ∧ 8 + (maxL + 11) + rm.locals ≤ R.locals) (hroom : cells + mc ≤ R.cells ∧ slots + ms ≤ R.slots)
    (hws : ∀ w ∈ ws, w.before a U = true) (hn : U.methodNamed? y = some mk) (hmY : U.vm.method? mk = some methY) (hcY : methY.code = some cY) (hlY : cY.maxLocals = maxL) (hini : (Cond.initialized y.cls).before a U = true)
    (hg : g.method = m) (hsize : g.locals.size = c.maxLocals) (hdg : decode c.code g.pc = .ok (ig, 3)) (hW8 : 2 * g.monitorRoom + (g.stack.map fun v => v.category).sum ≤ 8) (hPc : Pc a (U.calling g mk a)) :
    ∃ (q : Addr) (t T' : State) (E : String) (ce : Cell) (L : List Loc), XC E (U.calling g mk a) t ∧ t.heap[q]? = some ce ∧ ce.vm = .none ∧ U.vm.findClass E = some ce.cls ∧ T'.heap = t.heap ∧ (∀ z ∈ L, free z.base) ∧ Stand p l e R s m args below meth c T' (locs ++ L) (cells + mc) (slots + ms) ∧
      Steps p.tables e below (doInvoke e (U.setTop g) [] mk a).1 ((T'.setTop g).pushFrame (.throwing q)) := by
  subst hg
  obtain ⟨hrc, hrs, hrf, hrl⟩ := hrm
  obtain ⟨kY, hkY, -⟩ := className_of_methodNamed hn
  have hiY : kY.init = .initialized := Cond.initialized_spec (findClass_of_methodNamed hn) hkY hini
  have happ : (headSpec ws rm).appliesLoose y e.platform (U.calling g mk a) = true :=
    Spec.appliesLoose_calling (g := g) X.here hdg hn hkY hiY (X.room_calling (g := g) (R' := (headSpec ws rm).room) hsize hmY hcY hrf (by rw [hlY]; show _ + (maxL + 11) + rm.locals ≤ _; omega) (by show cells + rm.cells ≤ _; rw [hrc]; exact hroom.1) (by show slots + rm.slots ≤ _; rw [hrs]; exact hroom.2)) (atoms_intro hws)
  obtain ⟨mid, hmid⟩ := X.here.above
  have hfr : (U.setTop g).frames = (.java g :: mid) ++ below := by rw [State.frames_setTop' g X.here.top, hmid]; rfl
  obtain ⟨o, s₂, hsteps, -, hend, hq⟩ := Steps.callFree hM p X.admits X.cas X.clock (acts := []) hfr happ hPc trivial
  rw [State.frames_setTop' g X.here.top] at hend
  obtain ⟨g₀, hg0⟩ := Option.isSome_iff_exists.mp X.here.top
  obtain ⟨r, hr⟩ := State.topJava?_eq_some.mp hg0
  obtain ⟨th, hth, -⟩ := State.frames_cons hr
  have hq' : am_QQ Qc XC mc ms free a (U.calling g mk a) o s₂ := hq
  rcases hq' with ⟨hqc, -⟩ | ⟨q, rfl, E, ce, ⟨hx, hce, hcv, hcl⟩, L, hW₂, hsm, hL⟩
  · cases o with
    | returned v => exact absurd hqc (hno _ _ _)
    | threw q => exact absurd hqc (hno2 _ _ _)
  · have hWU : U.WarmedH s₂.vm := hW₂
    obtain ⟨U2, hU2⟩ : ∃ z : State, z = ({ U with heap := s₂.heap, slotsUsed := s₂.slotsUsed } : State) := ⟨_, rfl⟩
    have hr2 : (U2.setVm s₂.vm).frames = .java g₀ :: r := by rw [hU2]; exact hr
    have hf2 : s₂.frames = .throwing q :: .java g :: U.frames.tail := hend
    obtain ⟨e1, e2⟩ := hsm
    have es : s₂ = ({ (U.calling g mk a).setFrames s₂.frames with heap := s₂.heap, slotsUsed := s₂.slotsUsed } : State).setVm s₂.vm := by
      have h9 : s₂ = ({ s₂ with vm := (U.calling g mk a).vm } : State).setVm s₂.vm := rfl
      rw [e1] at h9
      exact h9
    have hs₂ : s₂ = ((U2.setVm s₂.vm).setTop g).pushFrame (.throwing q) := by
      refine es.trans ?_
      rw [hf2, State.calling_eq X.here.top, State.setFrames_setFrames, State.pushFrame, State.frames_setTop _ hr2, State.setTop_of_frames _ hr2, State.setFrames_setFrames, hU2, hr]
      rfl
    have hsame : U.sameButNew U2 L mc ms := by
      rw [hU2]
      refine ⟨?_, e2⟩
      show ({ U with heap := s₂.heap, slotsUsed := s₂.slotsUsed } : State) = { U.setFrames U.frames with heap := s₂.heap, slotsUsed := s₂.slotsUsed }
      rw [State.setFrames_self hth]
    have hhere : At (U2.setVm s₂.vm) g.method c below := by rw [hU2]; exact (X.here.setHeapUsed s₂.heap s₂.slotsUsed).setVm hWU.alike
    refine ⟨q, s₂, U2.setVm s₂.vm, E, ce, L, hx, hce, hcv, hcl, by rw [hU2]; rfl, hL, ?_, by rw [← hs₂]; exact hsteps⟩
    refine ⟨X.admits, X.cas, X.clock, X.frames, X.room, X.hears, X.method, X.code, hhere, ?_, State.WarmedH.trans X.warmed hWU, ?_, ?_, ?_⟩
    · rw [hU2]; exact X.tail
    · rw [hU2]; exact X.limits
    · rw [hU2]; exact X.bytes
    · have h5 := X.same.trans (hsame.setVm s.vm)
      rw [hU2] at h5 ⊢
      exact h5
end AMZ
section AMV
variable {ox : List (Nat × (Nat → Int32))} {d : Nat} {M : am_M} {pc q : Nat} {lv : List (Nat × Value)} {st stk : List Value} {H H1 H' : am_H} {o : Option Value ⊕ String}
/-- a method with handlers: its table by its word -/
def am_tb (hh : List (Nat × Nat × Nat × Nat)) : List ExceptionTableEntry := hh.map (fun z => { startPc := z.1, endPc := z.2.1, handlerPc := z.2.2.1, catchType := z.2.2.2 })
theorem am_tb_eq {t : List ExceptionTableEntry} {hh : List (Nat × Nat × Nat × Nat)} (h : t.map (fun h => (h.startPc, h.endPc, h.handlerPc, h.catchType)) = hh) : t = am_tb hh := by
  subst h
  unfold am_tb
  rw [List.map_map]
  exact (List.map_id t).symm
def am_CW (ox : List (Nat × (Nat → Int32))) (d : Nat) (y : MethodName) (M : am_M) (hh : List (Nat × Nat × Nat × Nat)) (as : List Value) (H : am_H) (o : Option Value ⊕ String) (H' : am_H) : Prop :=
  ∀ (l : Launch), l.stackTraces = false → ∀ (dC : Nat → ClassId) (dI : Nat → Nat → Nat) (τ : Nat → ClassId) (B0 : Nat) (ρ : Nat → Nat),
    am_Met l y (Cond.codeWith y M.2.1 M.2.2.1 M.2.2.2.1 hh :: am_words) (am_rm d (am_nc H' - am_nc H) (am_nz H' - am_nz H)) (va_Pc (as.map (am_cv ρ)) (am_B ox dC dI τ B0 ρ H)) (am_Q dC dI τ B0 ρ (am_nx H) o H') (am_X dC dI τ B0 ρ (am_nx H) o H') (am_nc H' - am_nc H) (am_nz H' - am_nz H) (am_A B0)
set_option maxHeartbeats 4000000 in
theorem am_enterW {y : MethodName} {hh : List (Nat × Nat × Nat × Nat)} {as : List Value} (hy : plainName y.cls = true) (hc : M.1 = y.cls) (hnm : M.2.2.2.2.1 = y.name) (htb : M.2.2.2.2.2 = am_tb hh) (hls : (lg_sl as).length ≤ M.2.2.1) (h1 : am_nc H ≤ am_nc H') (h2 : am_nz H ≤ am_nz H') (h : am_V ox d M 0 (lv_args 0 as) [] H o H') : am_CW ox d y M hh as H o H' := by
  intro l hl dC dI τ B0 ρ
  refine MetFree.of_bodyS (code := M.2.1) (maxLocals := M.2.2.1) (ret := M.2.2.2.1) hy (fun args s m hp hn => ?_) (fun p e s m args below meth c s₁ B hml hv _ => ?_)
  · obtain ⟨m9, meth9, c9, hn9, q1, q2, q3, q4, -, q6, q7, -⟩ := Cond.codeWith_spec (atoms_spec (ws := Cond.codeWith y M.2.1 M.2.2.1 M.2.2.2.1 hh :: am_words) hp _ List.mem_cons_self)
    cases Option.some.inj (hn9.symm.trans hn)
    exact ⟨meth9, c9, q1, q2, q3, q4, q6, q7⟩
  · obtain ⟨rfl, hP, hK, hO⟩ := hv
    have hts := atoms_spec (ws := Cond.codeWith y M.2.1 M.2.2.1 M.2.2.2.1 hh :: am_words) B.pre
    obtain ⟨m9, meth9, c9, hn9, q1, q2, -, -, q5, -⟩ := Cond.codeWith_spec (hts _ List.mem_cons_self)
    cases Option.some.inj (hn9.symm.trans B.named)
    cases Option.some.inj (q1.symm.trans B.method)
    cases Option.some.inj (q2.symm.trans (Stand.of_body B).code)
    have hle := lv_entry (as.map (am_cv ρ)) (n := M.2.2.1) (by rw [am_sll]; exact hls)
    have hh0 : s₁.heap = s.heap := by rw [B.state]; rfl
    have K : W p l e (am_rm d (am_nc H' - am_nc H) (am_nz H' - am_nz H)) s m (as.map (am_cv ρ)).toArray below meth c s.heap [] 0 0 (am_MQ below (am_Q dC dI τ B0 ρ (am_nx H) o H') (am_X dC dI τ B0 ρ (am_nx H) o H') (as.map (am_cv ρ)).toArray s (am_nc H' - am_nc H) (am_nz H' - am_nz H) (am_A B0)) (entryFrame m (as.map (am_cv ρ)).toArray M.2.2.1) := by
      rw [lg_entry_eq]
      generalize (lg_sl (as.map (am_cv ρ)) ++ List.replicate (M.2.2.1 - (lg_sl (as.map (am_cv ρ))).length) Slot.unset).toArray = ls at hle ⊢
      rw [am_args] at hle
      refine h l p e (am_rm d (am_nc H' - am_nc H) (am_nz H' - am_nz H)) s m _ below meth c dC dI τ B0 ρ (am_nx H) (am_nc H) (am_nz H) ⟨B.exec, B.bytes, hml, B.returns, by rw [hc]; exact findClass_of_methodNamed B.named, fun w hw => hts w (List.mem_cons_of_mem _ hw), B.notSynchronized, hK, hl, hP.2.2.2.2, Nat.le_refl _, Nat.le_refl _, ?_, ?_, ?_, ?_, hO⟩ ρ s.heap [] 0 0 ls ⟨⟨Nat.le_refl _, fun _ => rfl, am_ext.rf⟩, hP, va_S.rf, Nat.zero_add _, Nat.zero_add _, hle⟩
      · show am_nc H' ≤ am_nc H + (am_nc H' - am_nc H); omega
      · show am_nz H' ≤ am_nz H + (am_nz H' - am_nz H); omega
      · intro _; rw [hnm]; exact (name_of_methodNamed B.named B.method).1
      · intro _; rw [htb]; exact am_tb_eq q5
    obtain ⟨t, a1, o1, b1, b2, b3⟩ := K s₁ hh0 (Stand.of_body B)
    exact ⟨t, o1, a1, b1, b2, b3⟩
theorem am_CW.met {y : MethodName} {hh : List (Nat × Nat × Nat × Nat)} {as : List Value} {v : Option Value} (h : am_CW ox d y M hh as H (.inl v) H1) (l : Launch) (hl : l.stackTraces = false) (dC : Nat → ClassId) (dI : Nat → Nat → Nat) (τ : Nat → ClassId) (B0 : Nat) (ρ : Nat → Nat) :
    Met l y (Cond.codeWith y M.2.1 M.2.2.1 M.2.2.2.1 hh :: am_words) (am_rm d (am_nc H1 - am_nc H) (am_nz H1 - am_nz H)) (va_Pc (as.map (am_cv ρ)) (am_B ox dC dI τ B0 ρ H)) (am_Q dC dI τ B0 ρ (am_nx H) (.inl v) H1) (am_nc H1 - am_nc H) (am_nz H1 - am_nz H) (am_A B0) := by
  refine MetFree.mono (h l hl dC dI τ B0 ρ) (fun _ _ h => h) (fun _ _ _ _ _ h => h) (fun a s o t _ hq => ?_)
  rcases hq with hq | ⟨q, -, E, ce, ⟨⟨⟨ρ', ho, -⟩, -⟩, -⟩, -⟩
  · exact hq
  · cases ho
set_option maxHeartbeats 4000000 in
/-- a static call of a method with handlers -/
theorem am_callSW {y : MethodName} {Mc : am_M} {hh : List (Nat × Nat × Nat × Nat)} {as : List Value} {v : Option Value} {idx n : Nat} (hd : decode M.2.1 pc = .ok (.invokestatic idx, 3)) (hC : am_CW ox d y Mc hh as H (.inl v) H1) (hcd : Cond.codeWith y Mc.2.1 Mc.2.2.1 Mc.2.2.2.1 hh ∈ am_words) (hini : Cond.initialized y.cls ∈ am_words) (hyd : y.cls ≠ "java/lang/invoke/MethodHandle" ∧ y.cls ≠ "java/lang/invoke/VarHandle" ∧ (parseMethodDescriptor y.desc).map (fun d => d.parameters.length) = some n) (h7 : Mc.2.2.1 ≤ 7) (hlk : Cond.methodLink M.1 idx y ∈ am_words) (hs : Cond.static y ∈ am_words) (hn : as.length = n) (hst : stk = as.reverse ++ st) (hc8 : (st.map fun v => v.category).sum ≤ 8) (hf : am_fine H H1 lv st) (hc : am_nc H ≤ am_nc H1) (hz : am_nz H ≤ am_nz H1) (hc2 : am_nc H1 ≤ am_nc H') (hz2 : am_nz H1 ≤ am_nz H') (hq : pc + 3 = q) (kk : am_V ox (d + 1) M q lv (v.toList ++ st) H1 o H') : am_V ox (d + 1) M pc lv stk H o H' := by
  subst hq
  subst hst
  intro l p e R s m args below meth c dC dI τ B0 ρ0 nx0 n0 z0 C ρ hp locs cells slots ls S
  have hRf := C.2.2.2.2.2.2.2.2.2.2.1
  have hRl := C.2.2.2.2.2.2.2.2.2.2.2.1
  have hp9 := am_pre (y := y) (Mc := Mc) (as := as) C S
  have hM := hC.met l C.2.2.2.2.2.2.2.2.1 dC dI τ B0 ρ
  have hws : ∀ w ∈ Cond.codeWith y Mc.2.1 Mc.2.2.1 Mc.2.2.2.1 hh :: am_words, ∀ (a' : Array Value) (U : State), s.WarmedH U.vm → w.before a' U = true := fun w hw a' U hW => by
    have hw' : w ∈ am_words := (List.mem_cons.mp hw).elim (fun h => by rw [h]; exact hcd) id
    exact word_at hW (am_good w hw') (C.2.2.2.2.2.1 w hw')
  have hK : Back l R p e below s args y 3 8 (PreOf R (am_nc H1 - am_nc H) (am_nz H1 - am_nz H) (va_Pc (as.map (am_cv ρ)) (am_B ox dC dI τ B0 ρ H))) (PostOf (am_Q dC dI τ B0 ρ (am_nx H) (.inl v) H1) (am_nc H1 - am_nc H) (am_nz H1 - am_nz H) (am_A B0)) :=
    va_backW (hh := hh) (bytes := Mc.2.1) (maxL := Mc.2.2.1) (ret := Mc.2.2.2.1) hM hp9.1 rfl rfl (show d + 1 ≤ R.frames by omega) (show 8 + (Mc.2.2.1 + 11) + (116 + 26 * d) ≤ R.locals by omega) hws List.mem_cons_self (fun a' U hW => word_at hW (am_good _ hini) (C.2.2.2.2.2.1 _ hini))
  have hroom := am_room (y := y) C S hc hz hc2 hz2
  refine am_cont C S hf hc hz (a := (as.map (am_cv ρ)).toArray) (fun T hT X => ?_) kk
  obtain ⟨mk, methM, cM, hnamed, hmethM, -, -, -, -, -, -, hsigM⟩ := Cond.codeWith_spec (C.2.2.2.2.2.1 _ hcd)
  have hstatic : methM.isStatic = true := Cond.static_spec hnamed hmethM (C.2.2.2.2.2.1 _ hs)
  obtain ⟨kP, hkP, -⟩ := className_of_methodNamed hnamed
  have hinitP : kP.init = .initialized := Cond.initialized_spec (findClass_of_methodNamed hnamed) hkP (C.2.2.2.2.2.1 _ hini)
  have hlen : (as.map (am_cv ρ)).length = methM.sig.parameters.length := by
    have h2 := hyd.2.2
    rw [hsigM] at h2
    rw [List.length_map, hn]
    exact (Option.some.inj h2).symm
  obtain ⟨vm₁, X₁, hstep₁⟩ := X.invokestatic C.1 C.2.2.2.2.1 (C.2.2.2.2.2.1 _ hlk) hnamed hmethM hstatic hkP hinitP ⟨hyd.1, hyd.2.1⟩ (g := F0 m pc ls ((as.reverse ++ st).map (am_cv ρ))) rfl (argsL := as.map (am_cv ρ)) (rest := st.map (am_cv ρ)) hlen (by simp) (by rw [C.2.1]; exact hd)
  obtain ⟨w, ⟨U', l2, c2, s2⟩, X', ⟨g', mk', t, L, e1, e2, hq, h1, hL, h2, h3⟩, hsteps⟩ := hK m meth c ⟨T.setVm vm₁, locs, cells, slots⟩ (F0 m pc ls (st.map (am_cv ρ))) (.invokestatic idx) mk (as.map (am_cv ρ)).toArray X₁ rfl (by rw [C.2.2.1]; exact S.2.2.2.2.2.1) (by rw [C.2.1]; exact hd) (by rw [am_cat]; show 2 * 0 + _ ≤ 8; omega) (X₁.named hnamed) ⟨hroom.1, hroom.2, hp9.2 (T.setVm vm₁) hT X₁.warmed⟩
  dsimp only [Pt.U, Pt.locs, Pt.cells, Pt.slots] at X' e1 e2 h1 h2 h3 hsteps
  subst h1; subst h2; subst h3
  exact ⟨w, (T.setVm vm₁).calling g' mk' (as.map (am_cv ρ)).toArray, t, U', L, hT, X', hL, e1, e2, hq, fun target h => hstep₁ _ fun acts => by rw [doInvoke_state]; exact hsteps.trans h⟩
set_option maxHeartbeats 4000000 in
/-- a call that throws, caught by a handler that stores the exception and answers a number -/
theorem am_callX {y : MethodName} {Mc : am_M} {as : List Value} {idx n b ci N : Nat} {r : vw_C} {E nm : String} {x : ExceptionTableEntry} {pre suf : List ExceptionTableEntry} {i hl : Nat} {kn : Int} {v : Int32} (hd : decode M.2.1 pc = .ok (.invokevirtual idx, 3)) (hC : am_C ox d y Mc (.ref b :: as) H (.inr E) H1) (hy : am_My y Mc n) (hlk : Cond.methodLink M.1 idx y ∈ am_words) (hi : Cond.instanceMethod y ∈ am_words) (hse : Cond.selects r.1 y y ∈ am_words) (hr : vwCl[ci]? = some r) (h100 : ci < 100) (hs : am_sh H b = (ci, N)) (hb : b < am_nx H) (hn : as.length = n) (hst : stk = as.reverse ++ .ref b :: st) (hc8 : (st.map fun v => v.category).sum ≤ 8) (hf : am_fine H H1 lv st) (hc : am_nc H ≤ am_nc H1) (hz : am_nz H ≤ am_nz H1)
    (hnn : M.2.2.2.2.1 ≠ "") (htab : M.2.2.2.2.2 = pre ++ x :: suf) (hx : covers x pc = true) (h0 : x.catchType ≠ 0) (hcl : Cond.classLink M.1 x.catchType nm ∈ am_words) (hca : Cond.castable E nm ∈ am_nst) (hps : ∀ z ∈ pre, z.catchType ≠ 0 ∧ ∃ nm' : String, Cond.classLink M.1 z.catchType nm' ∈ am_words ∧ (E, nm') ∈ am_ncs)
    (d1 : (∃ w : Fin 4, decode M.2.1 x.handlerPc = .ok (.astore_n w, 1) ∧ (w : Nat) = i ∧ hl = 1) ∨ (decode M.2.1 x.handlerPc = .ok (.astore i, 2) ∧ hl = 2)) (hi7 : i < M.2.2.1) (d2 : decode M.2.1 (x.handlerPc + hl) = .ok (.iconst kn, 1)) (hv : Int32.ofInt kn = v) (d3 : decode M.2.1 (x.handlerPc + hl + 1) = .ok (.ireturn, 1)) (hrt : M.2.2.2.1 = some .int) : am_V ox (d + 1) M pc lv stk H (.inl (some (.int v))) H1 := by
  subst hst
  intro l p e R s m args below meth c dC dI τ B0 ρ0 nx0 n0 z0 C ρ hp locs cells slots ls S T hT X
  obtain ⟨hcd, hini, hyd, h7⟩ := hy
  have hRf := C.2.2.2.2.2.2.2.2.2.2.1
  have hRl := C.2.2.2.2.2.2.2.2.2.2.2.1
  have hp9 := am_pre (y := y) (Mc := Mc) (as := .ref b :: as) C S
  have hcell := am_ws_at (τ := τ) (ρ := ρ) hb
  rw [am_cell_o hs h100] at hcell
  obtain ⟨cellB, hcB, hoB, hclB⟩ := va_recv C.2.2.2.2.2.2.2.1 S.2.1.1 hr hcell
  have hroom := am_room (y := y) C S hc hz (Nat.le_refl _) (Nat.le_refl _)
  obtain ⟨mk, methM, hnamed, hmethM, hstM, habM⟩ := Cond.instanceMethod_spec (C.2.2.2.2.2.1 _ hi)
  obtain ⟨methM', cM, hmethM', hcM, -, hlM, -, -, -, hsigM⟩ := Cond.code_spec hnamed (C.2.2.2.2.2.1 _ hcd)
  cases Option.some.inj (hmethM.symm.trans hmethM')
  obtain ⟨c2, r2, m2, q1, q2, q3, q4, kP, hkP, hkPi⟩ := Cond.selects_spec (C.2.2.2.2.2.1 _ hse)
  cases Option.some.inj (hclB.symm.trans q1)
  cases Option.some.inj ((State.methodFound?_of_named hnamed ⟨hyd.1, hyd.2.1⟩).symm.trans q2)
  cases Option.some.inj (hnamed.symm.trans q3)
  have hselP : selectMethod e.platform s.vm cellB.cls mk = .method mk := by rw [Launch.admits_selectMethod X.admits]; exact q4
  have hlen : (as.map (am_cv ρ)).length = methM.sig.parameters.length := by
    have h2 := hyd.2.2
    rw [hsigM] at h2
    rw [List.length_map, hn]
    exact (Option.some.inj h2).symm
  obtain ⟨vm₁, X₁, hstep₁⟩ := X.invokevirtual C.1 C.2.2.2.2.1 (C.2.2.2.2.2.1 _ hlk) hnamed hmethM hstM hkP hkPi ⟨hyd.1, hyd.2.1⟩ (a := ρ b) (cell := cellB) (by rw [hT]; exact hcB) (fun z h => by rw [h] at hoB; cases hoB) hselP hmethM habM hkP hkPi (g := F0 m pc ls ((as.reverse ++ .ref b :: st).map (am_cv ρ))) rfl (argsL := as.map (am_cv ρ)) (rest := st.map (am_cv ρ)) hlen (by simp [am_cv]) (by rw [C.2.1]; exact hd)
  have hWv : s.WarmedH vm₁ := X₁.warmed
  obtain ⟨methV, hmV⟩ : ∃ z, (T.setVm vm₁).vm.method? mk = some z := ⟨methM, (hWv.alike.method? mk).trans hmethM⟩
  have hmV' : methV = methM := Option.some.inj (hmV.symm.trans ((hWv.alike.method? mk).trans hmethM))
  subst hmV'
  obtain ⟨q, t, T', E', ce, L, ⟨⟨ρ', ho, hJ, hP⟩, hF⟩, hce, hcv, hcE, eh, hL, X', hgo⟩ := am_thrownBy (maxL := Mc.2.2.1) (ig := .invokevirtual idx) X₁ (hC l C.2.2.2.2.2.2.2.2.1 dC dI τ B0 ρ) (fun st v t h => by obtain ⟨⟨_, _, ho, -⟩, -⟩ := h; cases ho) (fun st q t h => by obtain ⟨⟨_, _, ho, -⟩, -⟩ := h; cases ho)
    ⟨rfl, rfl, show d + 1 ≤ R.frames by omega, show 8 + (Mc.2.2.1 + 11) + (116 + 26 * d) ≤ R.locals by omega⟩ hroom (a := (Value.ref (ρ b) :: as.map (am_cv ρ)).toArray) (fun w hw => by
      have hw' : w ∈ am_words := (List.mem_cons.mp hw).elim (fun h => by rw [h]; exact hcd) id
      exact word_at hWv (am_good w hw') (C.2.2.2.2.2.1 w hw')) (X₁.named hnamed) hmV hcM hlM (word_at hWv (am_good _ hini) (C.2.2.2.2.2.1 _ hini)) (g := F0 m pc ls (st.map (am_cv ρ))) rfl (by rw [C.2.2.1]; exact S.2.2.2.2.2.1) (by rw [C.2.1]; exact hd) (by rw [am_cat]; show 2 * 0 + _ ≤ 8; omega) (hp9.1 _ _ _ _ (hp9.2 (T.setVm vm₁) hT hWv))
  cases ho
  have hS1 := am_keep (st₀ := (T.setVm vm₁).calling (F0 m pc ls (st.map (am_cv ρ))) mk (Value.ref (ρ b) :: as.map (am_cv ρ)).toArray) hT eh S.2.2.1 hL hF
  obtain ⟨S', est⟩ := am_after S hf hc hz hJ (by rw [eh]; exact hP) hS1
  have hpl : e.platform.magicAccessors = ({} : Platform).magicAccessors := by rw [X.admits.platform]
  have hO := C.2.2.2.2.2.2.2.2.2.2.2.2.2.2.2.2
  have hcls : s.vm.findClass E = some ce.cls := by
    have h9 : vm₁.findClass E = some ce.cls := hcE
    rw [hWv.alike.findClass] at h9
    exact h9
  obtain ⟨c3, c4, hc3, hc4, hasg⟩ := Cond.castable_spec (va_Nw.use (A := args) (am_nst_tab _ hca) (hO.2.2.2.2.1 _ hca))
  cases Option.some.inj (hc3.symm.trans hcls)
  obtain ⟨c5, hc5, hcl5⟩ := Cond.classLink_spec C.2.2.2.2.1 (C.2.2.2.2.2.1 _ hcl) e.platform hpl
  cases Option.some.inj (hc4.symm.trans hc5)
  obtain ⟨vm', X2, st2⟩ := X'.thenCaughtThrough q (g := F0 m pc ls (st.map (am_cv ρ))) rfl hgo (cell := ce) (by rw [eh]; exact hce) (by rw [hcv]; rfl) (by obtain ⟨k9, h9, -⟩ := Vm.findClass_spec hcls; exact ⟨k9, h9⟩) pre x suf ((C.2.2.2.2.2.2.2.2.2.2.2.2.2.2.2.1 hnn).trans htab)
    (fun z hz => by
      obtain ⟨hz0, nm', hl1, hn1⟩ := hps z hz
      obtain ⟨c6, hc6, hcl6⟩ := Cond.classLink_spec C.2.2.2.2.1 (C.2.2.2.2.2.1 _ hl1) e.platform hpl
      obtain ⟨a8, b8, g1, g2, g3⟩ := hO.2.2.2.2.2.2 _ hn1
      cases Option.some.inj (g1.symm.trans hcls)
      cases Option.some.inj (g2.symm.trans hc6)
      exact Or.inr ⟨hz0, _, hcl6, g3⟩) hx (Or.inr ⟨h0, c4, hcl5, hasg⟩)
  have hcc := S.2.2.2.1
  have hzz := S.2.2.2.2.1
  have e1 : am_nc H1 - n0 = cells + (am_nc H1 - am_nc H) := by omega
  have e2 : am_nz H1 - z0 = slots + (am_nz H1 - am_nz H) := by omega
  have hend : ∀ ls' : Array Slot, W p l e R s m args below meth c T'.heap (locs ++ L) (cells + (am_nc H1 - am_nc H)) (slots + (am_nz H1 - am_nz H)) (am_MQ below (am_Q dC dI τ B0 ρ0 nx0 (.inl (some (.int v))) H1) (am_X dC dI τ B0 ρ0 nx0 (.inl (some (.int v))) H1) args s (am_nc H1 - n0) (am_nz H1 - z0) (am_A B0)) (F0 m (x.handlerPc + hl) ls' []) := fun ls' => by
    rw [e1, e2]
    exact lv_iconst C.1 C.2.1 d2 hv (am_ret (W.iret C.1 C.2.1 (C.2.2.2.1.trans hrt) (fun t9 ht9 hW9 => ⟨⟨some (.int v), ρ', rfl, rfl, S'.1, by rw [ht9]; exact S'.2.1⟩, S'.2.2.1.F ht9⟩) S'.2.2.1.2.2 d3 (hlocks := C.2.2.2.2.2.2.1)))
  have hfin : W p l e R s m args below meth c T'.heap (locs ++ L) (cells + (am_nc H1 - am_nc H)) (slots + (am_nz H1 - am_nz H)) (am_MQ below (am_Q dC dI τ B0 ρ0 nx0 (.inl (some (.int v))) H1) (am_X dC dI τ B0 ρ0 nx0 (.inl (some (.int v))) H1) args s (am_nc H1 - n0) (am_nz H1 - z0) (am_A B0)) (F0 m x.handlerPc ls [.ref q]) := by
    rcases d1 with ⟨w, d1, hwi, rfl⟩ | ⟨d1, rfl⟩
    · exact lv_astore_n C.1 C.2.1 d1 hwi S'.2.2.2.2.2 hi7 rfl (fun ls' _ => hend ls')
    · exact lv_astore C.1 C.2.1 d1 S'.2.2.2.2.2 hi7 rfl (fun ls' _ => hend ls')
  obtain ⟨t9, a9, b9⟩ := hfin (T'.setVm vm') rfl X2
  exact ⟨t9, hstep₁ _ fun acts => by rw [doInvoke_state]; exact st2.trans a9, b9⟩
end AMV
section AMF
variable {c cc : Nat} {ox : List (Nat × (Nat → Int32))} {d : Nat} {M : am_M} {pc q : Nat} {lv : List (Nat × Value)} {st stk : List Value} {H : am_H} {P P1 : Option Value ⊕ String → am_H → Prop}
theorem ae_throw {ik is ic : Nat} {cls text : String} {names : List String} (d0 : decode M.2.1 pc = .ok (.new ik, 3)) (d3 : decode M.2.1 (pc + 3) = .ok (.dup, 1)) (d4 : decode M.2.1 (pc + 4) = .ok (.ldc is, 2)) (d6 : decode M.2.1 (pc + 6) = .ok (.invokespecial ic, 3)) (d9 : decode M.2.1 (pc + 9) = .ok (.athrow, 1))
    (hcls : Bundle.fit cls = true) (hnames : ∀ n ∈ names, Bundle.fit n = true) (hk : Cond.classLink M.1 ik cls ∈ am_words) (hini : Cond.initialized cls ∈ am_words) (htx : (M.1, is, text) ∈ am_txs) (hat : (Bundle.ownAtoms M.1 ic cls names).all am_tw = true) (hnn : M.2.2.2.2.1 ≠ "") (htab : M.2.2.2.2.2 = []) (hnl : names.length + 4 ≤ d) (hc8 : (st.map fun v => v.category).sum ≤ 8) (h1c : 1 ≤ c) (hP : P (.inr cls) (am_ga H 1 6)) : am_EB c ox d M pc lv st H P :=
  ⟨_, _, am_throw d0 d3 d4 d6 d9 hcls hnames hk hini htx hat hnn htab hnl hc8, Nat.le_add_right _ _, Nat.le_add_right _ _, ⟨Nat.le_refl _, show am_nc H + 1 + am_nx H ≤ am_nc H + am_nx H + c by omega, show am_nz H + 6 + 512 * am_nc H ≤ am_nz H + 512 * (am_nc H + 1) by omega⟩, hP⟩
def am_DW (c : Nat) (ox : List (Nat × (Nat → Int32))) (d : Nat) (y : MethodName) (M : am_M) (hh : List (Nat × Nat × Nat × Nat)) (as : List Value) (H : am_H) (P : Option Value ⊕ String → am_H → Prop) : Prop :=
  ∃ (o : Option Value ⊕ String) (H' : am_H), am_CW ox d y M hh as H o H' ∧ am_nc H ≤ am_nc H' ∧ am_nz H ≤ am_nz H' ∧ am_Ac c H H' ∧ P o H'
theorem ae_enterW {y : MethodName} {hh : List (Nat × Nat × Nat × Nat)} {as : List Value} (hy : plainName y.cls = true) (hc : M.1 = y.cls) (hnm : M.2.2.2.2.1 = y.name) (htb : M.2.2.2.2.2 = am_tb hh) (hls : (lg_sl as).length ≤ M.2.2.1) (h : am_EB c ox d M 0 (lv_args 0 as) [] H P) : am_DW c ox d y M hh as H P := by
  obtain ⟨o, H', hV, h1, h2, h3⟩ := h
  exact ⟨o, H', am_enterW hy hc hnm htb hls h1 h2 hV, h1, h2, h3⟩
def am_Mw (y : MethodName) (Mc : am_M) (hh : List (Nat × Nat × Nat × Nat)) (n : Nat) : Prop := Cond.codeWith y Mc.2.1 Mc.2.2.1 Mc.2.2.2.1 hh ∈ am_words ∧ Cond.initialized y.cls ∈ am_words ∧ (y.cls ≠ "java/lang/invoke/MethodHandle" ∧ y.cls ≠ "java/lang/invoke/VarHandle" ∧ (parseMethodDescriptor y.desc).map (fun d => d.parameters.length) = some n) ∧ Mc.2.2.1 ≤ 7
theorem ae_callSW {c2 : Nat} {y : MethodName} {Mc : am_M} {hh : List (Nat × Nat × Nat × Nat)} {as : List Value} {idx n : Nat} (hd : decode M.2.1 pc = .ok (.invokestatic idx, 3)) (hC : am_DW cc ox d y Mc hh as H P1) (hy : am_Mw y Mc hh n) (hlk : Cond.methodLink M.1 idx y ∈ am_words) (hs : Cond.static y ∈ am_words) (hn : as.length = n) (hst : stk = as.reverse ++ st) (hc8 : (st.map fun v => v.category).sum ≤ 8) (hq : pc + 3 = q) (h2c : cc + c2 ≤ c) (hx : ∀ o H1, P1 o H1 → ∃ v, o = .inl v) (kk : ∀ v H1, P1 (.inl v) H1 → am_fine H H1 lv st ∧ am_EB c2 ox (d + 1) M q lv (v.toList ++ st) H1 P) : am_EB c ox (d + 1) M pc lv stk H P := by
  obtain ⟨o1, H1, hc, g1, g2, hb0, hp⟩ := hC
  obtain ⟨v, rfl⟩ := hx o1 H1 hp
  obtain ⟨hf, o, H', hV, h1, h2, h3⟩ := kk v H1 hp
  exact ⟨o, H', am_callSW hd hc hy.1 hy.2.1 hy.2.2.1 hy.2.2.2 hlk hs hn hst hc8 hf g1 g2 h1 h2 hq hV, Nat.le_trans g1 h1, Nat.le_trans g2 h2, hb0.trans h3.1 h2c, h3.2⟩
/-- E, thrown at pc of M, comes to a handler that answers v -/
def am_Hd (M : am_M) (pc : Nat) (E : String) (v : Int32) : Prop := ∃ (nm : String) (x : ExceptionTableEntry) (pre suf : List ExceptionTableEntry) (i hl : Nat) (kn : Int), M.2.2.2.2.1 ≠ "" ∧ M.2.2.2.2.2 = pre ++ x :: suf ∧ covers x pc = true ∧ x.catchType ≠ 0 ∧ Cond.classLink M.1 x.catchType nm ∈ am_words ∧ Cond.castable E nm ∈ am_nst ∧ (∀ z ∈ pre, z.catchType ≠ 0 ∧ ∃ nm' : String, Cond.classLink M.1 z.catchType nm' ∈ am_words ∧ (E, nm') ∈ am_ncs) ∧
  ((∃ w : Fin 4, decode M.2.1 x.handlerPc = .ok (.astore_n w, 1) ∧ (w : Nat) = i ∧ hl = 1) ∨ (decode M.2.1 x.handlerPc = .ok (.astore i, 2) ∧ hl = 2)) ∧ i < M.2.2.1 ∧ decode M.2.1 (x.handlerPc + hl) = .ok (.iconst kn, 1) ∧ Int32.ofInt kn = v ∧ decode M.2.1 (x.handlerPc + hl + 1) = .ok (.ireturn, 1) ∧ M.2.2.2.1 = some .int
/-- a call that returns, or throws and is caught -/
theorem ae_callVX {c2 : Nat} {y : MethodName} {Mc : am_M} {as : List Value} {idx n b ci N : Nat} {r : vw_C} (hd : decode M.2.1 pc = .ok (.invokevirtual idx, 3)) (hC : am_DB cc ox d y Mc (.ref b :: as) H P1) (hy : am_My y Mc n) (hlk : Cond.methodLink M.1 idx y ∈ am_words) (hi : Cond.instanceMethod y ∈ am_words) (hse : Cond.selects r.1 y y ∈ am_words) (hr : vwCl[ci]? = some r) (h100 : ci < 100) (hs : am_sh H b = (ci, N)) (hb : b < am_nx H) (hn : as.length = n) (hst : stk = as.reverse ++ .ref b :: st) (hc8 : (st.map fun v => v.category).sum ≤ 8) (hq : pc + 3 = q) (h2c : cc + c2 ≤ c) (kk : ∀ v H1, P1 (.inl v) H1 → am_fine H H1 lv st ∧ am_EB c2 ox (d + 1) M q lv (v.toList ++ st) H1 P) (kx : ∀ E H1, P1 (.inr E) H1 → am_fine H H1 lv st ∧ ∃ v, am_Hd M pc E v ∧ P (.inl (some (.int v))) H1) : am_EB c ox (d + 1) M pc lv stk H P := by
  obtain ⟨o1, H1, hc, u1, u2, hb0, hp⟩ := hC
  cases o1 with
  | inl v =>
    obtain ⟨hf, o, H', hV, h1, h2, h3⟩ := kk v H1 hp
    exact ⟨o, H', am_callV hd hc hy hlk hi hse hr h100 hs hb hn hst hc8 hf u1 u2 h1 h2 hq hV, Nat.le_trans u1 h1, Nat.le_trans u2 h2, hb0.trans h3.1 h2c, h3.2⟩
  | inr E =>
    obtain ⟨hf, v, ⟨nm, x, pre, suf, i, hl, kn, g1, g2, g3, g4, g5, g6, g7, g8, g9, g10, g11, g12, g13⟩, hPv⟩ := kx E H1 hp
    exact ⟨_, _, am_callX hd hc hy hlk hi hse hr h100 hs hb hn hst hc8 hf u1 u2 g1 g2 g3 g4 g5 g6 g7 g8 g9 g10 g11 g12 g13, u1, u2, hb0.le (by omega), hPv⟩
end AMF
