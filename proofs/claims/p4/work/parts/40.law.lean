/-! THE CLAIM OUT OF ONE WALK OF THE LAW'S BODY. Your part is whole_start (and what it stands on); all else here is the same for every law, but numbers. -/
def R_law : String := "PhaserYardLaw"
def lw_P (b : Addr) (xs : List Int32) (args : Array Value) (s : State) : Prop := args = #[.ref b] ∧ s.IntsAt b xs ∧ xs.length ≤ 2560 ∧ (Jvm.Cond.and given_1 narrow_1).before args s = true
def lw_Q (_ : Array Value) (s : State) (o : Outcome) (t : State) : Prop := o = .returned (some (.int 1)) ∧ Framed s o t [] 601024 7293034
def lw_Z (below : List Frame) (a : Array Value) (s : State) : State → Prop := fun t => ∃ o, t.status = .running ∧ Ended t below o ∧ lw_Q a s o t
/-- the law's own end, with 1 on the stack, nothing written that was there before, its room as the claim has it -/
theorem lw_ret {p : Program} {l : Launch} {e : Env} {s : State} {m : MethodId} {below : List Frame} {meth : Method} {c : Code} {b : Nat} (hx : p.tables.exec = Jvm.exec) (hb : c.code = code) (hr : meth.sig.returnType = ret) (hlocks : meth.locks = false) {pc : Nat} {H : Heap} {ls : Array Slot} (hdg : decode code pc = .ok (.ireturn, 1)) : W p l e room_1 s m #[Value.ref b] below meth c H [] 601024 7293034 (lw_Z below #[Value.ref b] s) (F0 m pc ls [.int 1]) := by
  intro T hT X
  obtain ⟨fs, hret, hrun, hended, hW, hframe⟩ := X.leave (v := some (.int 1)) (hlocks := hlocks) (fun h => by rw [hr] at h; cases h)
  have hmeth' : T.vm.method? m = some meth := X.method'
  refine ⟨T.setFrames fs, ?_, .returned (some (.int 1)), hrun, hended, rfl, ⟨_, rfl⟩, hW, hframe⟩
  jvm_step X.here [X.here.top, hx, hb, hdg, hmeth', hr, ret, narrow_b1]
  (try refine ⟨rfl, ?_⟩); (try refine ⟨rfl, ?_⟩)
  first | (intro acts; rw [hret _ acts rfl rfl rfl]) | rw [hret _ _ rfl rfl rfl]
  exact Steps.refl _
/-- what holds at the law's entry: the machine, the code, the tables' words (any of lw_tbl by 'hts w (by decide +kernel)'), the script of L ints xs at the cell b, what the Statement gives of the start (any of its parts by flat_of_before) -/
def lw_At (p : Program) (s : State) (m : MethodId) (meth : Method) (c : Code) (b L : Nat) (xs : Nat → Int32) : Prop :=
  p.tables.exec = Jvm.exec ∧ c.code = code ∧ meth.sig.returnType = ret ∧ c.maxLocals = 7 ∧ s.vm.findClass R_law = some m.cls ∧ (∀ w ∈ lw_tbl, w.before #[Value.ref b] s = true) ∧ va_X b L xs s s.heap ∧ b < s.heap.size ∧ meth.locks = false ∧ (Jvm.Cond.and given_1 narrow_1).before #[Value.ref b] s = true
/-! THE LAW'S START over the abstract machine. -/
theorem am_eqi {args : Array Value} {s : State} {t : Term} {z : Int32} (h : (Cond.eq t (.int z)).before args s = true) : t.eval args s none [] s = some (.int z) := by
  cases hv : t.eval args s none [] s with
  | none => simp [Cond.before, Cond.holds, Cond.value, hv] at h
  | some w =>
    have hz : (Term.int z).eval args s none [] s = some (.int z) := rfl
    simp only [Cond.before, Cond.holds, Cond.value, hv, hz] at h
    cases w <;> simp_all
theorem am_len {args : Array Value} {s : State} {t : Term} {v : Value} (h : (Term.length t).eval args s none [] s = some v) : ∃ a cell, t.eval args s none [] s = some (.ref a) ∧ s.arrayAt? a = some cell ∧ cell.slots.size < 2147483648 ∧ v = .int cell.slots.size.toInt32 := by
  simp only [Term.eval, Option.bind_eq_bind] at h
  cases ht : t.eval args s none [] s with
  | none => simp [ht] at h
  | some x =>
    cases x <;> simp [ht] at h
    case ref a =>
      obtain ⟨cell, hcell, h⟩ := Option.bind_eq_some_iff.mp h
      by_cases hn : cell.slots.size < 2147483648
      · rw [if_pos hn] at h; cases h; exact ⟨a, cell, rfl, hcell, hn, rfl⟩
      · rw [if_neg hn] at h; cases h
/-- a static array whose places are told -/
theorem am_stx {args : Array Value} {s : State} {t : Term} {L : Nat} {f : Nat → Int32} (hL : L < 2 ^ 31) (ha : (Cond.arrayOf t .int).before args s = true) (hl : (Cond.eq (.length t) (.int (nI L))).before args s = true) (he : ∀ k, k < L → (Cond.eq (.elem t (.int (nI k))) (.int (f k))).before args s = true) : ∃ a, t.eval args s none [] s = some (.ref a) ∧ va_X a L f s s.heap ∧ a < s.heap.size := by
  obtain ⟨a, cell, h1, h2, h3, h4⟩ := am_len (am_eqi hl)
  obtain ⟨hc, hkn, -, -⟩ := State.arrayAt?_spec h2
  have hof := Cond.arrayOf_spec (show (Cond.arrayOf t .int).holds args s none s [] = true from ha) h1 hc
  have hsz : cell.slots.size = L := by
    have h5 : nI L = nI cell.slots.size := Value.int.inj h4
    exact ((nI_eq hL h3).mp h5).symm
  refine ⟨a, h1, ⟨cell, hc, hof.1, hof.2, hsz, fun j hj => ?_⟩, (Array.getElem?_eq_some_iff.mp hc).1⟩
  obtain ⟨a', j', cell', g1, g2, g3, g4, g5⟩ := Term.elem_spec (am_eqi (he j hj))
  cases h1.symm.trans g1
  cases h2.symm.trans g3
  have ej : nI j = j' := Value.int.inj (Option.some.inj (show some (Value.int (nI j)) = some (.int j') from g2))
  rw [← ej, nI_clamp (by omega)] at g5
  exact g5
def am_t1 : List Int32 := [-2147483648, -2147483648, 0, 0, 0, -2147483648, -2147483648, 0, 0, 0, 0, 0, -2147483648, 10, -2147483648, 0, 0]
def am_t2 : List Int32 := [2147483647, 2147483647, 7, 7, 63, 2147483647, 2147483647, 3, 3, 31, 7, 1, 2147483647, 99, 2147483647, 15, 15]
def am_t3 : List Int32 := [0, 2147483647, -2147483648, 1]
def am_ox (L : Nat) (xs : Nat → Int32) : List (Nat × (Nat → Int32)) := [(L, xs), (17, fun k => am_t1.getD k 0), (17, fun k => am_t2.getD k 0), (4, fun k => am_t3.getD k 0)]
def am_H0 : am_H := (0, fun _ => (0, 0), fun _ _ => 0, fun _ _ => none, fun _ _ => 0, 0, 0)
abbrev mLw : am_M := (RL, code, 7, ret, "", [])
theorem am_fa1 : Cond.arrayOf (.static "PhaserYard" "LEAST_A" "[I") .int ∈ flatC (Jvm.Cond.and given_1 narrow_1) := by decide +kernel
theorem am_fl1 : Cond.eq (.length (.static "PhaserYard" "LEAST_A" "[I")) (.int (nI 17)) ∈ flatC (Jvm.Cond.and given_1 narrow_1) := by decide +kernel
theorem am_fe1 : ∀ k, k < 17 → Cond.eq (.elem (.static "PhaserYard" "LEAST_A" "[I") (.int (nI k))) (.int (am_t1.getD k 0)) ∈ flatC (Jvm.Cond.and given_1 narrow_1) := by decide +kernel
theorem am_fa2 : Cond.arrayOf (.static "PhaserYard" "GREATEST_A" "[I") .int ∈ flatC (Jvm.Cond.and given_1 narrow_1) := by decide +kernel
theorem am_fl2 : Cond.eq (.length (.static "PhaserYard" "GREATEST_A" "[I")) (.int (nI 17)) ∈ flatC (Jvm.Cond.and given_1 narrow_1) := by decide +kernel
theorem am_fe2 : ∀ k, k < 17 → Cond.eq (.elem (.static "PhaserYard" "GREATEST_A" "[I") (.int (nI k))) (.int (am_t2.getD k 0)) ∈ flatC (Jvm.Cond.and given_1 narrow_1) := by decide +kernel
theorem am_fa3 : Cond.arrayOf (.static "PhaserYard" "TOTAL_OF_NOTHING" "[I") .int ∈ flatC (Jvm.Cond.and given_1 narrow_1) := by decide +kernel
theorem am_fl3 : Cond.eq (.length (.static "PhaserYard" "TOTAL_OF_NOTHING" "[I")) (.int (nI 4)) ∈ flatC (Jvm.Cond.and given_1 narrow_1) := by decide +kernel
theorem am_fe3 : ∀ k, k < 4 → Cond.eq (.elem (.static "PhaserYard" "TOTAL_OF_NOTHING" "[I") (.int (nI k))) (.int (am_t3.getD k 0)) ∈ flatC (Jvm.Cond.and given_1 narrow_1) := by decide +kernel
theorem am_ws1 : ∀ z ∈ am_sts, Cond.laysStatic z.1 z.2.1 z.2.2.1 ∈ lw_tbl := by decide +kernel
theorem am_ws2 : ∀ z ∈ am_txs, z.1 = RX6 ∧ Cond.stringRef z.1 z.2.1 z.2.2 ∈ lw_tbl := by decide +kernel
theorem am_ws3 : ∀ C ∈ am_aos, Cond.arrayOver (.object C) ∈ lw_tbl := by decide +kernel
theorem am_ws4 : ∀ w ∈ am_nst, w ∈ lw_tbl := by decide +kernel
theorem am_ws5 : ∀ z ∈ am_tsq, Cond.laysStatic z.1 z.2.1 z.2.2 ∈ lw_tbl ∧ Cond.initialized z.1 ∈ lw_tbl ∧ Cond.isRef (.static z.1 z.2.1 z.2.2) ∈ flatC (Jvm.Cond.and given_1 narrow_1) := by decide +kernel
theorem am_ws6 : ∀ z ∈ am_ncs, Cond.not (.castable z.1 z.2) ∈ flatC (Jvm.Cond.and given_1 narrow_1) := by decide +kernel
theorem am_arp {args : Array Value} {s : State} {ty : FieldType} (h : (Cond.arrayClass ty).before args s = true) : ∃ cA, ArrOfT s cA ty ∧ s.vm.findClass ("[" ++ ty.toString) = some cA := by
  obtain ⟨c, k, comp, h1, h2, h3⟩ := Cond.arrayClass_spec (show (Cond.arrayClass ty).holds args s none s [] = true from h)
  exact ⟨c, fun n z => ⟨fun x h => (by cases h), k, h2, comp, h3⟩, h1⟩
theorem am_aro {args : Array Value} {s : State} {n : String} (h : (Cond.arrayOver (.object n)).before args s = true) : ∃ cA, ArrOfT s cA (.object n) ∧ va_RA s cA (.object n) := by
  obtain ⟨comp, c, k, h1, -, h3, h4, h5⟩ := Cond.arrayOver_spec (show (Cond.arrayOver (.object n)).holds args s none s [] = true from h)
  exact ⟨c, fun N z => ⟨fun x h => (by cases h), k, h3, comp, h4⟩, k, comp, h3, h4, h1, h5⟩
set_option maxHeartbeats 4000000 in
set_option maxRecDepth 100000 in
theorem am_begin {p : Program} {s : State} {m : MethodId} {meth : Method} {c : Code} {b L : Nat} {xs : Nat → Int32} (C0 : lw_At p s m meth c b L xs) : ∃ (dC : Nat → ClassId) (dI : Nat → Nat → Nat) (τ : Nat → ClassId) (ρ : Nat → Nat), va_K (dC, dI) vwCl (am_tys τ) s ∧ am_O (am_ox L xs) s.heap.size ρ s ∧ ρ 1000000 = b := by
  obtain ⟨-, -, -, -, -, hts, hX, hbl, -, hgv⟩ := C0
  have hw : ∀ w ∈ am_words, w.before #[Value.ref b] s = true := fun w h => hts w (am_tbl h)
  have hfl := flat_of_before _ hgv
  obtain ⟨c0, s0, k0⟩ := u_known (C := RX0) (T := TX0) (N := 3) (n := 3) hw am_uw0 (hw _ aw_30)
  obtain ⟨c1, s1, k1⟩ := u_known (C := RX1) (T := TX1) (N := 4) (n := 4) hw am_uw1 (hw _ aw_141)
  obtain ⟨c2, s2, k2⟩ := u_known (C := RX2) (T := TX2) (N := 15) (n := 15) hw am_uw2 (hw _ aw_51)
  obtain ⟨c3, s3, k3⟩ := u_known (C := RX3) (T := TX3) (N := 6) (n := 6) hw am_uw3 (hw _ aw_57)
  obtain ⟨c4, s4, k4⟩ := u_known (C := RX4) (T := TX4) (N := 10) (n := 10) hw am_uw4 (hw _ aw_89)
  obtain ⟨c5, s5, k5⟩ := u_known (C := RX5) (T := TX5) (N := 3) (n := 3) hw am_uw5 (hw _ aw_163)
  obtain ⟨c6, s6, k6⟩ := u_known (C := RX6) (T := TX6) (N := 2) (n := 2) hw am_uw6 (hw _ aw_21)
  obtain ⟨c7, s7, k7⟩ := u_known (C := RX7) (T := TX7) (N := 40) (n := 40) hw am_uw7 (hw _ aw_693)
  obtain ⟨q0, r0, n0⟩ := am_arp (hw _ ac_int)
  obtain ⟨q1, r1, n1⟩ := am_arp (hw _ ac_boolean)
  obtain ⟨q2, r2, n2⟩ := am_arp (hw _ ac_long)
  obtain ⟨q3, r3, n3⟩ := am_aro (hts _ (am_ws3 RX0 (by decide +kernel)))
  obtain ⟨q4, r4, n4⟩ := am_aro (hts _ (am_ws3 RX1 (by decide +kernel)))
  obtain ⟨q5, r5, n5⟩ := am_aro (hts _ (am_ws3 RX3 (by decide +kernel)))
  obtain ⟨q6, r6, n6⟩ := am_aro (hts _ (am_ws3 RX4 (by decide +kernel)))
  obtain ⟨q7, r7, n7⟩ := am_aro (hts _ (am_ws3 RX5 (by decide +kernel)))
  obtain ⟨a1, e1, x1, b1⟩ := am_stx (f := fun k => am_t1.getD k 0) (by decide) (hfl _ am_fa1) (hfl _ am_fl1) (fun k hk => hfl _ (am_fe1 k hk))
  obtain ⟨a2, e2, x2, b2⟩ := am_stx (f := fun k => am_t2.getD k 0) (by decide) (hfl _ am_fa2) (hfl _ am_fl2) (fun k hk => hfl _ (am_fe2 k hk))
  obtain ⟨a3, e3, x3, b3⟩ := am_stx (f := fun k => am_t3.getD k 0) (by decide) (hfl _ am_fa3) (hfl _ am_fl3) (fun k hk => hfl _ (am_fe3 k hk))
  refine ⟨fun k => [c0, c1, c2, c3, c4, c5, c6, c7].getD k 0, fun k => [s0, s1, s2, s3, s4, s5, s6, s7].getD k (fun _ => 0), fun k => if k = 100 then q0 else if k = 101 then q1 else if k = 102 then q2 else if k = 103 + 0 then q3 else if k = 103 + 1 then q4 else if k = 103 + 3 then q5 else if k = 103 + 4 then q6 else q7, fun k => if k = 1000000 then b else if k = 1000001 then a1 else if k = 1000002 then a2 else a3, ⟨?_, ?_⟩, ⟨?_, ?_, ?_, ?_, ?_, ?_, ?_⟩, rfl⟩
  · intro k q hq
    match k, hq with
    | 0, hq => cases hq; exact k0
    | 1, hq => cases hq; exact k1
    | 2, hq => cases hq; exact k2
    | 3, hq => cases hq; exact k3
    | 4, hq => cases hq; exact k4
    | 5, hq => cases hq; exact k5
    | 6, hq => cases hq; exact k6
    | 7, hq => cases hq; exact k7
    | k + 8, hq => simp [vwCl] at hq
  · intro k q hq
    match k, hq with
    | 0, hq => cases hq; exact ⟨r0, n0⟩
    | 1, hq => cases hq; exact ⟨r1, n1⟩
    | 2, hq => cases hq; exact ⟨r2, n2⟩
    | 3, hq => cases hq; exact ⟨r3, n3⟩
    | 4, hq => cases hq; exact ⟨r4, n4⟩
    | 5, hq => cases hq; exact ⟨r5, n5⟩
    | 6, hq => cases hq; exact ⟨r6, n6⟩
    | 7, hq => cases hq; exact ⟨r7, n7⟩
    | k + 8, hq => simp [am_tys, am_kinds] at hq
  · intro i r hi
    match i, hi with
    | 0, hi => cases hi; exact ⟨hX, hbl⟩
    | 1, hi => cases hi; exact ⟨x1, b1⟩
    | 2, hi => cases hi; exact ⟨x2, b2⟩
    | 3, hi => cases hi; exact ⟨x3, b3⟩
    | i + 4, hi => simp [am_ox] at hi
  · intro z hz
    have hl := hts _ (am_ws1 z hz)
    simp only [am_sts, List.mem_cons, List.not_mem_nil, or_false] at hz
    rcases hz with rfl | rfl | rfl
    · exact va_Zof hl (hw _ aw_1) e1 (fun a ha h => Nat.not_le.mpr ha h)
    · exact va_Zof hl (hw _ aw_1) e2 (fun a ha h => Nat.not_le.mpr ha h)
    · exact va_Zof hl (hw _ aw_1) e3 (fun a ha h => Nat.not_le.mpr ha h)
  · intro z hz
    obtain ⟨h1, h2⟩ := am_ws2 z hz
    obtain ⟨-, -, -, a, -, -, -, -, -, hev⟩ := Cond.stringRef_spec (by rw [h1]; exact k6.2.1) (show (Cond.stringRef z.1 z.2.1 z.2.2).holds #[Value.ref b] s none s [] = true from hts _ h2)
    exact ⟨a, vk_R.of (hts _ h2) hev⟩
  · exact fun C hC => va_AO.of (hts _ (am_ws3 C hC))
  · exact fun w hw9 => va_Nw.of (am_nst_tab w hw9) (hts _ (am_ws4 w hw9))
  · exact fun z hz => am_Sq.of (hts _ (am_ws5 z hz).1) (hts _ (am_ws5 z hz).2.1) (hfl _ (am_ws5 z hz).2.2)
  · exact fun z hz => va_Nc.of (hfl _ (am_ws6 z hz))
theorem am_monoW {p : Program} {l : Launch} {e : Env} {R : Room} {s : State} {m : MethodId} {args : Array Value} {below : List Frame} {meth : Method} {c : Code} {H : Heap} {locs : List Loc} {cells slots : Nat} {Q Q' : State → Prop} {g : JFrame} (h : ∀ t, Q t → Q' t) (k : W p l e R s m args below meth c H locs cells slots Q g) : W p l e R s m args below meth c H locs cells slots Q' g := fun T hT X => by
  obtain ⟨t, a1, b1⟩ := k T hT X
  exact ⟨t, a1, h t b1⟩
set_option maxHeartbeats 4000000 in
/-- the law's walk out of the abstract machine's -/
theorem am_whole {p : Program} {e : Env} {s : State} {m : MethodId} {below : List Frame} {meth : Method} {c : Code} (l : Launch) (hl : l.stackTraces = false) {b L cb : Nat} {xs : Nat → Int32} (hE : am_EB cb (am_ox L xs) 10 mLw 0 [(0, .ref 1000000)] [] am_H0 (fun o H' => o = .inl (some (.int 1)) ∧ am_nx H' + cb ≤ 14000)) (C0 : lw_At p s m meth c b L xs) : W p l e room_1 s m #[Value.ref b] below meth c s.heap [] 0 0 (lw_Z below #[Value.ref b] s) (entryFrame m ([Value.ref b] : List Value).toArray 7) := by
  obtain ⟨dC, dI, τ, ρ, hK, hO, hρ⟩ := am_begin C0
  obtain ⟨hx, hb, hr, hml, hown, hts, hX, hbl, hlocks, hgv⟩ := id C0
  obtain ⟨o, H', hV, h1, h2, ⟨-, q2, q3⟩, rfl, h5⟩ := hE
  have h3 : am_nc H' ≤ 601024 := by have : am_nc H' + 0 ≤ 0 + am_nx H' + cb := q2; omega
  have h4 : am_nz H' ≤ 7293034 := by
    have r2 : am_nc H' + 0 ≤ 0 + am_nx H' + cb := q2
    have r3 : am_nz H' + 512 * 0 ≤ 0 + 512 * am_nc H' := q3
    omega
  have hle := lv_entry ([.ref b]) (n := 7) (Nat.le_of_ble_eq_true rfl)
  rw [lg_entry_eq]
  generalize (lg_sl ([.ref b]) ++ List.replicate (7 - (lg_sl ([.ref b])).length) Slot.unset).toArray = ls at hle ⊢
  have hle : lv_has ls 7 [(0, .ref b)] := hle
  have hP0 : am_P dC dI τ s.heap.size ρ am_H0 s.heap := ⟨fun k q h => by simp [am_ws, am_H0, am_nx] at h, ⟨fun i j p q h => by simp [am_ws, am_H0, am_nx] at h, fun k q h => by simp [am_ws, am_H0, am_nx] at h⟩, fun a i b h => (by cases h), Nat.zero_le _, Nat.le_refl _⟩
  have hW := hV l p e room_1 s m #[Value.ref b] below meth c dC dI τ s.heap.size ρ 0 0 0 ⟨hx, hb, hml, hr, hown, fun w h => hts w (am_tbl h), hlocks, hK, hl, Nat.le_refl _, by decide, by decide, by rw [Nat.zero_add]; exact h3, by rw [Nat.zero_add]; exact h4, fun h => absurd rfl h, fun h => absurd rfl h, hO⟩ ρ s.heap [] 0 0 ls ⟨⟨Nat.le_refl _, fun _ => rfl, am_ext.rf⟩, hP0, va_S.rf, rfl, rfl, by show lv_has ls 7 [(0, .ref (ρ 1000000))]; rw [hρ]; exact hle⟩
  refine am_monoW (fun t ht => ?_) hW
  obtain ⟨o, g1, g2, g3⟩ := ht
  refine ⟨o, g1, g2, ?_⟩
  rcases g3 with ⟨⟨⟨v, ρ', hv, ho, -⟩, -⟩, Lc, ⟨w1, w2, w3⟩, hLc⟩ | ⟨q, -, E, ce, ⟨⟨⟨ρ', ho, -⟩, -⟩, -⟩, -⟩
  · cases hv
    refine ⟨ho, w1, w2, ?_⟩
    have w4 := State.sameButNew.drop_fresh (L := []) (J := Lc) w3 (fun z hz => hLc z hz)
    exact w4.mono (by rw [Nat.sub_zero]; exact h3) (by rw [Nat.sub_zero]; exact h4)
  · cases ho
