/-! EXCEPTIONS over the abstract machine: 'throw new E("text")' ends a method; a call that throws, caught where it stands by a handler that answers a number. -/
section AMX
variable {p : Program} {l : Launch} {e : Env} {R : Room} {s : State} {m : MethodId} {args : Array Value} {below : List Frame} {meth : Method} {c : Code} {T : State} {locs : List Loc} {cells slots : Nat}
/-- a walk begun anew where it stands: nothing written yet, k cells and n slots left of its room -/
theorem am_anew (X : Stand p l e R s m args below meth c T locs cells slots) (k n : Nat) (hk : cells + k ≤ R.cells) (hn : slots + n ≤ R.slots) :
    Stand p l e { frames := R.frames, cells := k, slots := n, locals := R.locals } ((T.setVm s.vm).setFrames (.invoking m args :: below)) m args below meth c T [] 0 0 := by
  obtain ⟨g₀, hg0⟩ := Option.isSome_iff_exists.mp (show (T.setVm s.vm).topJava?.isSome from X.here.top)
  obtain ⟨r, hr⟩ := State.topJava?_eq_some.mp hg0
  obtain ⟨th, hth, -⟩ := State.frames_cons hr
  have hF : ((T.setVm s.vm).setFrames (.invoking m args :: below)).frames = .invoking m args :: below := State.frames_setFrames _ (State.cur_lt_of_top (show (T.setVm s.vm).topJava?.isSome from X.here.top))
  have hlim : e.platform.stackLimits ((T.setVm s.vm).setFrames (.invoking m args :: below)).me = e.platform.stackLimits s.me := by
    rw [State.stackLimits_setFrames]; exact X.limits
  have hbyt : ((T.setVm s.vm).setFrames (.invoking m args :: below)).me.stackBytes = s.me.stackBytes := by
    rw [State.stackBytes_setFrames]; exact X.bytes
  have huse : ((T.setVm s.vm).setFrames (.invoking m args :: below)).localsInUse = s.localsInUse := by
    rw [State.localsInUse_invoking hF (meth := meth) (c := c) X.method X.code, State.localsInUse_invoking X.frames X.method X.code]
  have hnil : (T.heap.toList.drop T.heap.size).map (·.slots.size) = [] := by
    rw [List.drop_eq_nil_of_le (Nat.le_of_eq Array.length_toList)]; rfl
  have z1 := X.heapSize
  have z2 := X.used
  have hroom := X.room
  simp only [State.hasRoom, Bool.and_eq_true, decide_eq_true_eq] at hroom
  obtain ⟨⟨⟨⟨h1, h2, h3, h4, h5, h6⟩, h7⟩, h8⟩, h9⟩ := hroom
  rw [X.frames, List.length_cons] at h2 h3
  constructor
  case admits => exact X.admits
  case cas => exact X.cas
  case clock => exact X.clock
  case frames => exact hF
  case hears => exact X.hears
  case method => exact X.method
  case code => exact X.code
  case here => exact X.here
  case tail => exact X.tail
  case warmed => exact X.warmed
  case limits => rw [State.stackLimits_setFrames]; rfl
  case bytes => rw [State.stackBytes_setFrames]; rfl
  case room =>
    simp only [State.hasRoom, Bool.and_eq_true, decide_eq_true_eq, hF, huse, List.length_cons, hlim, hbyt]
    refine ⟨⟨⟨⟨by omega, by omega, by omega, by omega, by omega, h6⟩, ?_⟩, ?_⟩, X.book⟩
    · show T.heap.size + k ≤ e.platform.maxCells
      omega
    · show T.slotsUsed + n ≤ e.platform.maxSlots
      omega
  case same =>
    refine ⟨?_, Nat.le_refl _, Nat.le_refl _, ?_, ?_, fun a c9 h9 => ⟨c9, h9, rfl, rfl, fun _ _ => rfl⟩⟩
    · show T.setVm s.vm = { ((T.setVm s.vm).setFrames (.invoking m args :: below)).setFrames (T.setVm s.vm).frames with heap := T.heap, slotsUsed := T.slotsUsed }
      rw [State.setFrames_setFrames, State.setFrames_self hth]
      rfl
    · show T.slotsUsed = T.slotsUsed + ((T.heap.toList.drop T.heap.size).map (·.slots.size)).sum
      rw [hnil]; rfl
    · show ((T.heap.toList.drop T.heap.size).map (·.slots.size)).sum ≤ 0
      rw [hnil]; exact Nat.le_refl _
/-- cells that were there and are in no row of what was written stay -/
theorem am_stay {U : State} {k n : Nat} (h : s.sameButNew ({ U with vm := s.vm } : State) [] k n) : s.heap.size ≤ U.heap.size ∧ ∀ q : Nat, q < s.heap.size → U.heap[q]? = s.heap[q]? :=
  ⟨h.2.1, fun q hq => by rw [Array.getElem?_eq_getElem hq]; exact State.sameButNew.old_cell h (Array.getElem?_eq_getElem hq)⟩
end AMX
section AMY
variable {ox : List (Nat × (Nat → Int32))} {d : Nat} {M : am_M} {pc q : Nat} {lv : List (Nat × Value)} {st stk : List Value} {H H1 H' : am_H} {o : Option Value ⊕ String}
theorem am_P.old {dC : Nat → ClassId} {dI : Nat → Nat → Nat} {τ : Nat → ClassId} {B0 : Nat} {ρ : Nat → Nat} {hp hp1 : Heap} (h : am_P dC dI τ B0 ρ H hp) (hsz : hp.size ≤ hp1.size) (hk : ∀ a : Nat, a < hp.size → hp1[a]? = hp[a]?) : am_P dC dI τ B0 ρ H hp1 :=
  ⟨h.1.kept (fun k x hx => hk x.1 ((h.1 k x hx).lt)), h.2.1, h.2.2.1, h.2.2.2.1, Nat.le_trans h.2.2.2.2 hsz⟩
/-- which words a throw asks for -/
def am_tw (w : Cond) : Bool := decide (w ∈ am_words) || decide (w ∈ am_nst) || am_tsq.any (fun z => decide (w = .laysStatic z.1 z.2.1 z.2.2) || decide (w = .isRef (.static z.1 z.2.1 z.2.2)))
theorem am_tw_at {w : Cond} (hw : am_tw w = true) {B0 : Nat} {ρ : Nat → Nat} {s U : State} {args a' : Array Value} (hts : ∀ w ∈ am_words, w.before args s = true) (hW : s.WarmedH U.vm) (hO : am_O ox B0 ρ U) : w.before a' U = true := by
  simp only [am_tw, Bool.or_eq_true, decide_eq_true_eq, List.any_eq_true] at hw
  rcases hw with (hw | hw) | ⟨z, hz, hw | hw⟩
  · exact word_at hW (am_good w hw) (hts w hw)
  · exact va_Nw.use (am_nst_tab w hw) (hO.2.2.2.2.1 w hw)
  · rw [hw]; exact (hO.2.2.2.2.2.1 z hz).lays
  · rw [hw]; exact (hO.2.2.2.2.2.1 z hz).isRef
set_option maxHeartbeats 4000000 in
/-- throw new cls("text") ends the method -/
theorem am_throw {ik is ic : Nat} {cls text : String} {names : List String} (d0 : decode M.2.1 pc = .ok (.new ik, 3)) (d3 : decode M.2.1 (pc + 3) = .ok (.dup, 1)) (d4 : decode M.2.1 (pc + 4) = .ok (.ldc is, 2)) (d6 : decode M.2.1 (pc + 6) = .ok (.invokespecial ic, 3)) (d9 : decode M.2.1 (pc + 9) = .ok (.athrow, 1))
    (hcls : Bundle.fit cls = true) (hnames : ∀ n ∈ names, Bundle.fit n = true) (hk : Cond.classLink M.1 ik cls ∈ am_words) (hini : Cond.initialized cls ∈ am_words) (htx : (M.1, is, text) ∈ am_txs) (hat : (Bundle.ownAtoms M.1 ic cls names).all am_tw = true) (hnn : M.2.2.2.2.1 ≠ "") (htab : M.2.2.2.2.2 = []) (hnl : names.length + 4 ≤ d) (hc8 : (st.map fun v => v.category).sum ≤ 8) : am_V ox d M pc lv st H (.inr cls) (am_ga H 1 6) := by
  intro l p e R s m args below meth c dC dI τ B0 ρ0 nx0 n0 z0 C ρ hp locs cells slots ls S T hT X
  have hcc := S.2.2.2.1
  have hzz := S.2.2.2.2.1
  have hRc : am_nc H + 1 ≤ n0 + R.cells := C.2.2.2.2.2.2.2.2.2.2.2.2.1
  have hRz : am_nz H + 6 ≤ z0 + R.slots := C.2.2.2.2.2.2.2.2.2.2.2.2.2.1
  have hRf := C.2.2.2.2.2.2.2.2.2.2.1
  have hRl := C.2.2.2.2.2.2.2.2.2.2.2.1
  have htr : e.platform.stackTraces = false := (show e.platform.stackTraces = l.stackTraces by rw [X.admits.platform]).trans C.2.2.2.2.2.2.2.2.1
  have Y := am_anew X 1 6 (by omega) (by omega)
  obtain ⟨s', hs'⟩ : ∃ z, z = (T.setVm s.vm).setFrames (.invoking m args :: below) := ⟨_, rfl⟩
  rw [← hs'] at Y
  have hvm : s'.vm = s.vm := by rw [hs']; rfl
  have hhp : s'.heap = hp := by rw [hs']; exact hT
  have hW0 : s.WarmedH s'.vm := by rw [hvm]; exact State.WarmedH.refl s
  have hO : am_O ox B0 ρ s' := am_O.to (am_O.ext C.2.2.2.2.2.2.2.2.2.2.2.2.2.2.2.2 S.1.2.2) hW0 (fun x hx => by rw [hhp]; exact S.2.2.1.2.1 x (Nat.lt_of_lt_of_le hx C.2.2.2.2.2.2.2.2.2.1) (Nat.not_le.mpr hx))
  have hown' : s'.vm.findClass M.1 = some m.cls := by rw [hvm]; exact C.2.2.2.2.1
  have hwd : ∀ w ∈ am_words, w.before args s' = true := fun w hw => word_at hW0 (am_good w hw) (C.2.2.2.2.2.1 w hw)
  have hat' : ∀ w ∈ Bundle.ownAtoms M.1 ic cls names, w.before args s' = true := fun w hw => am_tw_at (List.all_eq_true.mp hat w hw) C.2.2.2.2.2.1 hW0 hO
  obtain ⟨sa, hsa1, hsa2⟩ := hO.2.2.1 _ htx
  have hs1 : (Cond.stringRef M.1 is text).before args s' = true := hsa1
  have hs2 : (Term.string M.1 is).eval args s' none [] s' = some (.ref sa) := hsa2
  have hb := C.2.1
  obtain ⟨vm₁, cX, kX, hfX, hkX, -, -, X₁, st1⟩ := Y.newCold C.1 (own := M.1) (C := cls) (index := ik) (n := 6) hown' (hwd _ hk) (hat' _ (by simp [Bundle.ownAtoms])) (hwd _ hini) (g := F0 m pc ls (st.map (am_cv ρ))) rfl (by rw [hb]; exact d0) (Nat.le_refl _) (Nat.le_refl _)
  generalize hT1 : (T.setVm vm₁).pushCell { cls := cX, slots := kX.instanceTypes.map defaultValue, vm := .none } = T1 at X₁ st1
  have hcA : T1.heap[T.heap.size]? = some (freshCell cX kX) := by rw [← hT1]; exact State.heap_pushCell_size _ _
  obtain ⟨U, hsteps, hrun, hend, hW, hsame, ce, hce, hO9⟩ := X₁.ctorThrowS C.1 htr (own := M.1) (cls := cls) (names := names) (ic := ic) hown' hcls hnames hat' (fun x hx => by cases hx) hfX hkX hcA (by rw [hhp, hT]; exact Nat.le_refl _) (msg := .ref sa) rfl
    (g := { method := m, pc := pc + 6, locals := ls, stack := .ref sa :: .ref T.heap.size :: .ref T.heap.size :: st.map (am_cv ρ), locked := none }) rfl (by rw [C.2.2.1]; exact S.2.2.2.2.2.1) rfl rfl (rest := st.map (am_cv ρ)) rfl (by rw [hb]; exact d6) (by rw [hb]; exact d9)
    (fun x hx => by rw [C.2.2.2.2.2.2.2.2.2.2.2.2.2.2.2.1 hnn, htab] at hx; cases hx) (show names.length + 3 < R.frames by omega) (by
      show 2 * 0 + (1 + ((st.map (am_cv ρ)).map fun v => v.category).sum) + (13 * (names.length + 1) + 42) ≤ R.locals
      rw [am_cat]; omega) C.2.2.2.2.2.2.1
  obtain ⟨f1, f2⟩ := am_stay hsame
  rw [hhp] at f1 f2
  refine ⟨U, ?_, .threw T.heap.size, hrun, hend, Or.inr ⟨T.heap.size, rfl, cls, ce, ⟨⟨⟨ρ, rfl, S.1, (am_P.old S.2.1 f1 f2 : am_P dC dI τ B0 ρ H U.heap)⟩, Nat.le_trans S.2.2.1.1 f1, fun x hx hA => (f2 x (Nat.lt_of_lt_of_le hx S.2.2.1.1)).trans (S.2.2.1.2.1 x hx hA)⟩, hce, hO9.vm, by have h9 := hO9.cls; rw [hvm] at h9; exact h9⟩, locs, State.WarmedH.trans hW0 hW, ?_, S.2.2.1.2.2⟩⟩
  · refine st1 _ ?_
    show Steps p.tables e below (T1.setTop { method := m, pc := pc + 3, locals := ls, stack := .ref T.heap.size :: st.map (am_cv ρ), locked := none }) _
    have d3' : decode c.code (pc + 3) = .ok (.dup, 1) := by rw [hb]; exact d3
    jvm_step X₁.here [X₁.here.top, C.1, d3', Value.category]
    exact X₁.ldcString C.1 (own := M.1) (text := text) (index := is) (a := sa) hown' hs1 hs2 (g := { method := m, pc := pc + 4, locals := ls, stack := .ref T.heap.size :: .ref T.heap.size :: st.map (am_cv ρ), locked := none }) rfl (by rw [hb]; exact d4) _ hsteps
  · subst hs'
    obtain ⟨e1, e2⟩ := hsame
    rw [State.setFrames_setFrames] at e1
    have h2 : (T.setVm s.vm).sameButNew ({ U with vm := s.vm } : State) [] (0 + 1) (0 + 6) := ⟨e1, e2⟩
    have h3 := X.same.trans h2
    rw [List.append_nil] at h3
    refine h3.mono ?_ ?_
    · show cells + (0 + 1) ≤ am_nc H + 1 - n0; omega
    · show slots + (0 + 6) ≤ am_nz H + 6 - z0; omega
end AMY
