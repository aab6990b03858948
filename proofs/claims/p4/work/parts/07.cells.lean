/-! THE ABSTRACT MACHINE, part 5: new cells, ends, calls. -/
section AMN
variable {ox : List (Nat × (Nat → Int32))} {d : Nat} {M : am_M} {pc q : Nat} {lv : List (Nat × Value)} {st : List Value} {H H' : am_H} {o : Option Value ⊕ String}
theorem am_grown {nL : Nat} {s : State} {dC : Nat → ClassId} {dI : Nat → Nat → Nat} {τ : Nat → ClassId} {B0 : Nat} {ρ0 : Nat → Nat} {nx0 n0 z0 : Nat} {ρ : Nat → Nat} {hp : Heap} {locs : List Loc} {cells slots : Nat} {ls : Array Slot} (S : am_St nL lv H s dC dI τ B0 ρ0 nx0 n0 z0 ρ hp locs cells slots ls) (hB : B0 ≤ s.heap.size) (hlv : ∀ x ∈ lv, am_ok (am_nx H) x.2) (h6 : am_nx H + 1 ≤ 1000000) {k n a : Nat} {H1 : Heap} {e : va_E} (he : am_cell τ (va_up ρ (am_nx H) a) (am_nw H k n) (am_nx H) = e)
    (hP1 : va_P (dC, dI) vwCl (am_ws τ ρ H ++ [(a, e)]) H1) (hD1 : va_D (am_A B0) (am_ws τ ρ H ++ [(a, e)])) (hS1 : va_S (am_A B0) s.heap H1 locs) :
    am_St nL lv (am_nw H k n) s dC dI τ B0 ρ0 nx0 n0 z0 (va_up ρ (am_nx H) a) H1 locs (cells + 1) (slots + n) ls ∧ am_ext (am_nx H) ρ (va_up ρ (am_nx H) a) := by
  obtain ⟨⟨j1, j2, j3⟩, ⟨-, -, hg, h5, -⟩, -, hc, hz, hl⟩ := S
  have hex : am_ext (am_nx H) ρ (va_up ρ (am_nx H) a) := fun b hb => va_up_ne _ _ (by omega)
  rw [am_ws_nw hg he] at hP1 hD1
  refine ⟨⟨⟨?_, ?_, j3.trans hex j1⟩, ⟨hP1, hD1, ?_, ?_, Nat.le_trans hB hS1.1⟩, hS1, ?_, ?_, ?_⟩, hex⟩
  · show nx0 ≤ am_nx H + 1; omega
  · intro h; exact absurd (show am_nx H + 1 = nx0 from h) (by omega)
  · intro x i b hb
    show b < am_nx H + 1
    by_cases hx : x = am_nx H
    · have e1 : am_gr (am_nw H k n) x i = none := if_pos hx
      rw [e1] at hb; cases hb
    · have e1 : am_gr (am_nw H k n) x i = am_gr H x i := if_neg hx
      rw [e1] at hb
      have := hg x i b hb
      omega
  · exact h6
  · show cells + 1 + n0 = am_nc H + 1; omega
  · show slots + n + z0 = am_nz H + n; omega
  · rw [am_cl_ext hex hlv]; exact hl
theorem am_sh_nw {k n : Nat} : am_sh (am_nw H k n) (am_nx H) = (k, n) := va_up_self _ _ _
theorem am_fresh_o {τ : Nat → ClassId} {ρ : Nat → Nat} {k n : Nat} (hk : k < 100) : am_cell τ ρ (am_nw H k n) (am_nx H) = .inr (k, (List.range n).map (fun i => if am_isr k i = true then .null else .int 0)) := by
  rw [am_cell_o (k := k) (n := n) am_sh_nw hk]
  unfold am_fs
  congr 2
  apply List.map_congr_left
  intro i _
  have e1 : am_gr (am_nw H k n) (am_nx H) i = none := if_pos rfl
  have e2 : am_gi (am_nw H k n) (am_nx H) i = 0 := if_pos rfl
  rw [e1, e2]; rfl
theorem am_new {idx ci : Nat} (hd : decode M.2.1 pc = .ok (.new idx, 3)) (hc : am_Cn M.1 idx ci) (hst : ∀ v ∈ st, am_ok (am_nx H) v) (hlv : ∀ x ∈ lv, am_ok (am_nx H) x.2) (h6 : am_nx H + 1 ≤ 1000000) (hcn : am_nc H + 1 ≤ am_nc H') (hzn : am_nz H + am_Nf ci ≤ am_nz H') (hq : pc + 3 = q) (kk : am_V ox d M q lv (.ref (am_nx H) :: st) (am_nw H ci (am_Nf ci)) o H') : am_V ox d M pc lv st H o H' := by
  subst hq
  intro l p e R s m args below meth c dC dI τ B0 ρ0 nx0 n0 z0 C ρ hp locs cells slots ls S
  obtain ⟨Cn, T, N, tys, ⟨hcl, hN, h100, hin, hty, hnm, hdf⟩, hlk, hins, hini⟩ := hc
  subst hN
  have hcc := S.2.2.2.1
  have hzz := S.2.2.2.2.1
  have hRc := C.2.2.2.2.2.2.2.2.2.2.2.2.1
  have hRz := C.2.2.2.2.2.2.2.2.2.2.2.2.2.1
  refine va_new (D := (dC, dI)) (ci := ci) (fs := (List.range (am_Nf ci)).map (fun i => if am_isr ci i = true then Value.null else .int 0)) (C := Cn) (T := T) (N := am_Nf ci) C.1 C.2.1 C.2.2.2.2.2.1 hin tys hty C.2.2.2.2.1 (C.2.2.2.2.2.1 _ hlk) (C.2.2.2.2.2.1 _ hins) (C.2.2.2.2.2.1 _ hini) C.2.2.2.2.2.2.2.1 S.2.1.1 S.2.1.2.1 S.2.2.1 (fun x hx => Nat.le_trans C.2.2.2.2.2.2.2.2.2.1 hx) hcl (fun j hj => by rw [hdf j hj]; simp [vp_V, hj]) (by omega) (by omega) hd (fun a H1 hP1 hD1 hS1 => ?_)
  obtain ⟨S', hex⟩ := am_grown S C.2.2.2.2.2.2.2.2.2.1 hlv h6 (am_fresh_o (n := am_Nf ci) h100) hP1 hD1 hS1
  have hk := kk l p e R s m args below meth c dC dI τ B0 ρ0 nx0 n0 z0 C _ H1 locs _ _ ls S'
  rw [List.map_cons, am_cvs_ext hex hst, show am_cv (va_up ρ (am_nx H) a) (.ref (am_nx H)) = .ref a from by show Value.ref (va_up ρ (am_nx H) a (am_nx H)) = .ref a; rw [va_up_self]] at hk
  exact hk
theorem am_newI {n : Int32} {N : Nat} (hd : decode M.2.1 pc = .ok (.newarray .int, 2)) (hw : Cond.arrayClass .int ∈ am_words) (hn : ¬ n < 0) (hN : n.toNatClampNeg = N) (hby : N ≤ 100000) (hst : ∀ v ∈ st, am_ok (am_nx H) v) (hlv : ∀ x ∈ lv, am_ok (am_nx H) x.2) (h6 : am_nx H + 1 ≤ 1000000) (hcn : am_nc H + 1 ≤ am_nc H') (hzn : am_nz H + N ≤ am_nz H') (hq : pc + 2 = q) (kk : am_V ox d M q lv (.ref (am_nx H) :: st) (am_nw H 100 N) o H') : am_V ox d M pc lv (.int n :: st) H o H' := by
  subst hq
  intro l p e R s m args below meth c dC dI τ B0 ρ0 nx0 n0 z0 C ρ hp locs cells slots ls S
  have hcc := S.2.2.2.1
  have hzz := S.2.2.2.2.1
  have hRc := C.2.2.2.2.2.2.2.2.2.2.2.2.1
  have hRz := C.2.2.2.2.2.2.2.2.2.2.2.2.2.1
  refine va_newa (atype := .int) (D := (dC, dI)) (ty := .int) (a0 := (N, .inl (fun _ => 0))) C.1 C.2.1 (C.2.2.2.2.2.1 _ hw) rfl C.2.2.2.2.2.2.2.1 S.2.1.1 S.2.1.2.1 S.2.2.1 (fun x hx => Nat.le_trans C.2.2.2.2.2.2.2.2.2.1 hx) (fun cA => rfl) hn hN (by show N * 4 ≤ 536870912; omega) (by omega) (by omega) hd (fun a cA H1 hK1 hP1 hD1 hS1 => ?_)
  have hcA : cA = τ 100 := am_ra_eq (hK1.2 (am_tys τ).length (cA, .int) (by simp)).2 (C.2.2.2.2.2.2.2.1.2 0 (τ 100, .int) (am_tys_at rfl)).2
  subst hcA
  have he : am_cell τ (va_up ρ (am_nx H) a) (am_nw H 100 N) (am_nx H) = .inl (τ 100, N, .inl (fun _ => 0)) := by
    rw [am_cell_i (n := N) am_sh_nw]
    congr 4
    funext y
    exact if_pos rfl
  obtain ⟨S', hex⟩ := am_grown S C.2.2.2.2.2.2.2.2.2.1 hlv h6 he hP1 hD1 hS1
  have hk := kk l p e R s m args below meth c dC dI τ B0 ρ0 nx0 n0 z0 C _ H1 locs _ _ ls S'
  rw [List.map_cons, am_cvs_ext hex hst, show am_cv (va_up ρ (am_nx H) a) (.ref (am_nx H)) = .ref a from by show Value.ref (va_up ρ (am_nx H) a (am_nx H)) = .ref a; rw [va_up_self]] at hk
  exact hk
theorem am_newZ {n : Int32} {N : Nat} (hd : decode M.2.1 pc = .ok (.newarray .boolean, 2)) (hw : Cond.arrayClass .boolean ∈ am_words) (hn : ¬ n < 0) (hN : n.toNatClampNeg = N) (hby : N ≤ 100000) (hst : ∀ v ∈ st, am_ok (am_nx H) v) (hlv : ∀ x ∈ lv, am_ok (am_nx H) x.2) (h6 : am_nx H + 1 ≤ 1000000) (hcn : am_nc H + 1 ≤ am_nc H') (hzn : am_nz H + N ≤ am_nz H') (hq : pc + 2 = q) (kk : am_V ox d M q lv (.ref (am_nx H) :: st) (am_nw H 101 N) o H') : am_V ox d M pc lv (.int n :: st) H o H' := by
  subst hq
  intro l p e R s m args below meth c dC dI τ B0 ρ0 nx0 n0 z0 C ρ hp locs cells slots ls S
  have hcc := S.2.2.2.1
  have hzz := S.2.2.2.2.1
  have hRc := C.2.2.2.2.2.2.2.2.2.2.2.2.1
  have hRz := C.2.2.2.2.2.2.2.2.2.2.2.2.2.1
  refine va_newa (atype := .boolean) (D := (dC, dI)) (ty := .boolean) (a0 := (N, .inl (fun _ => 0))) C.1 C.2.1 (C.2.2.2.2.2.1 _ hw) rfl C.2.2.2.2.2.2.2.1 S.2.1.1 S.2.1.2.1 S.2.2.1 (fun x hx => Nat.le_trans C.2.2.2.2.2.2.2.2.2.1 hx) (fun cA => rfl) hn hN (by show N * 1 ≤ 536870912; omega) (by omega) (by omega) hd (fun a cA H1 hK1 hP1 hD1 hS1 => ?_)
  have hcA : cA = τ 101 := am_ra_eq (hK1.2 (am_tys τ).length (cA, .boolean) (by simp)).2 (C.2.2.2.2.2.2.2.1.2 1 (τ 101, .boolean) (am_tys_at rfl)).2
  subst hcA
  have he : am_cell τ (va_up ρ (am_nx H) a) (am_nw H 101 N) (am_nx H) = .inl (τ 101, N, .inl (fun _ => 0)) := by
    rw [am_cell_z (n := N) am_sh_nw]
    congr 4
    funext y
    exact if_pos rfl
  obtain ⟨S', hex⟩ := am_grown S C.2.2.2.2.2.2.2.2.2.1 hlv h6 he hP1 hD1 hS1
  have hk := kk l p e R s m args below meth c dC dI τ B0 ρ0 nx0 n0 z0 C _ H1 locs _ _ ls S'
  rw [List.map_cons, am_cvs_ext hex hst, show am_cv (va_up ρ (am_nx H) a) (.ref (am_nx H)) = .ref a from by show Value.ref (va_up ρ (am_nx H) a (am_nx H)) = .ref a; rw [va_up_self]] at hk
  exact hk
theorem am_newL {n : Int32} {N : Nat} (hd : decode M.2.1 pc = .ok (.newarray .long, 2)) (hw : Cond.arrayClass .long ∈ am_words) (hn : ¬ n < 0) (hN : n.toNatClampNeg = N) (hby : N ≤ 100000) (hst : ∀ v ∈ st, am_ok (am_nx H) v) (hlv : ∀ x ∈ lv, am_ok (am_nx H) x.2) (h6 : am_nx H + 1 ≤ 1000000) (hcn : am_nc H + 1 ≤ am_nc H') (hzn : am_nz H + N ≤ am_nz H') (hq : pc + 2 = q) (kk : am_V ox d M q lv (.ref (am_nx H) :: st) (am_nw H 102 N) o H') : am_V ox d M pc lv (.int n :: st) H o H' := by
  subst hq
  intro l p e R s m args below meth c dC dI τ B0 ρ0 nx0 n0 z0 C ρ hp locs cells slots ls S
  have hcc := S.2.2.2.1
  have hzz := S.2.2.2.2.1
  have hRc := C.2.2.2.2.2.2.2.2.2.2.2.2.1
  have hRz := C.2.2.2.2.2.2.2.2.2.2.2.2.2.1
  refine va_newa (atype := .long) (D := (dC, dI)) (ty := .long) (a0 := (N, .inr (.inl (fun _ => 0)))) C.1 C.2.1 (C.2.2.2.2.2.1 _ hw) rfl C.2.2.2.2.2.2.2.1 S.2.1.1 S.2.1.2.1 S.2.2.1 (fun x hx => Nat.le_trans C.2.2.2.2.2.2.2.2.2.1 hx) (fun cA => rfl) hn hN (by show N * 8 ≤ 536870912; omega) (by omega) (by omega) hd (fun a cA H1 hK1 hP1 hD1 hS1 => ?_)
  have hcA : cA = τ 102 := am_ra_eq (hK1.2 (am_tys τ).length (cA, .long) (by simp)).2 (C.2.2.2.2.2.2.2.1.2 2 (τ 102, .long) (am_tys_at rfl)).2
  subst hcA
  have he : am_cell τ (va_up ρ (am_nx H) a) (am_nw H 102 N) (am_nx H) = .inl (τ 102, N, .inr (.inl (fun _ => 0))) := by
    rw [am_cell_l (n := N) am_sh_nw]
    congr 5
    funext y
    exact if_pos rfl
  obtain ⟨S', hex⟩ := am_grown S C.2.2.2.2.2.2.2.2.2.1 hlv h6 he hP1 hD1 hS1
  have hk := kk l p e R s m args below meth c dC dI τ B0 ρ0 nx0 n0 z0 C _ H1 locs _ _ ls S'
  rw [List.map_cons, am_cvs_ext hex hst, show am_cv (va_up ρ (am_nx H) a) (.ref (am_nx H)) = .ref a from by show Value.ref (va_up ρ (am_nx H) a (am_nx H)) = .ref a; rw [va_up_self]] at hk
  exact hk
theorem am_newQ {idx k t : Nat} {Cn : String} {n : Int32} {N : Nat} (hd : decode M.2.1 pc = .ok (.anewarray idx, 3)) (hlk : Cond.classLink M.1 idx Cn ∈ am_words) (hov : ∀ (B0 : Nat) (ρ : Nat → Nat) (s : State), am_O ox B0 ρ s → va_AO Cn s) (ht : am_kinds[t]? = some (103 + k, .object Cn)) (hn : ¬ n < 0) (hN : n.toNatClampNeg = N) (hby : N ≤ 100000) (hst : ∀ v ∈ st, am_ok (am_nx H) v) (hlv : ∀ x ∈ lv, am_ok (am_nx H) x.2) (h6 : am_nx H + 1 ≤ 1000000) (hcn : am_nc H + 1 ≤ am_nc H') (hzn : am_nz H + N ≤ am_nz H') (hq : pc + 3 = q) (kk : am_V ox d M q lv (.ref (am_nx H) :: st) (am_nw H (103 + k) N) o H') : am_V ox d M pc lv (.int n :: st) H o H' := by
  subst hq
  intro l p e R s m args below meth c dC dI τ B0 ρ0 nx0 n0 z0 C ρ hp locs cells slots ls S
  have hcc := S.2.2.2.1
  have hzz := S.2.2.2.2.1
  have hRc := C.2.2.2.2.2.2.2.2.2.2.2.2.1
  have hRz := C.2.2.2.2.2.2.2.2.2.2.2.2.2.1
  refine va_newq (D := (dC, dI)) C.1 C.2.1 C.2.2.2.2.1 (C.2.2.2.2.2.1 _ hlk) (hov _ _ _ C.2.2.2.2.2.2.2.2.2.2.2.2.2.2.2.2) C.2.2.2.2.2.2.2.1 S.2.1.1 S.2.1.2.1 S.2.2.1 (fun x hx => Nat.le_trans C.2.2.2.2.2.2.2.2.2.1 hx) hn hN (by omega) (by omega) (by omega) hd (fun a cA H1 hK1 hP1 hD1 hS1 => ?_)
  have hcA : cA = τ (103 + k) := am_ra_eq (hK1.2 (am_tys τ).length (cA, .object Cn) (by simp)).2 (C.2.2.2.2.2.2.2.1.2 t (τ (103 + k), .object Cn) (am_tys_at ht)).2
  subst hcA
  have he : am_cell τ (va_up ρ (am_nx H) a) (am_nw H (103 + k) N) (am_nx H) = .inl (τ (103 + k), N, .inr (.inr (.inr (.inr (fun _ => none))))) := by
    rw [am_cell_q (n := N) am_sh_nw]
    congr 8
    funext y
    have e1 : am_gr (am_nw H (103 + k) N) (am_nx H) y = none := if_pos rfl
    rw [e1]; rfl
  obtain ⟨S', hex⟩ := am_grown S C.2.2.2.2.2.2.2.2.2.1 hlv h6 he hP1 hD1 hS1
  have hk := kk l p e R s m args below meth c dC dI τ B0 ρ0 nx0 n0 z0 C _ H1 locs _ _ ls S'
  rw [List.map_cons, am_cvs_ext hex hst, show am_cv (va_up ρ (am_nx H) a) (.ref (am_nx H)) = .ref a from by show Value.ref (va_up ρ (am_nx H) a (am_nx H)) = .ref a; rw [va_up_self]] at hk
  exact hk
theorem am_cat {st : List Value} (ρ : Nat → Nat) : ((st.map (am_cv ρ)).map fun v => v.category) = st.map fun v => v.category := by
  rw [List.map_map]
  apply List.map_congr_left
  intro v _
  exact am_cv_cat ρ v
theorem am_objInit {idx a : Nat} (hd : decode M.2.1 pc = .ok (.invokespecial idx, 3)) (hd1 : 1 ≤ d) (h1 : Cond.methodLink M.1 idx Lib.objectInit ∈ am_words) (h2 : Cond.instanceMethod Lib.objectInit ∈ am_words) (h3 : Cond.code Lib.objectInit ⟨#[0xb1]⟩ 1 none ∈ am_words) (hc8 : (st.map fun v => v.category).sum ≤ 8) (hq : pc + 3 = q) (kk : am_V ox d M q lv st H o H') : am_V ox d M pc lv (.ref a :: st) H o H' := by
  subst hq
  intro l p e R s m args below meth c dC dI τ B0 ρ0 nx0 n0 z0 C ρ hp locs cells slots ls S
  refine W.objInit C.1 C.2.1 C.2.2.2.2.1 (C.2.2.2.2.2.1 _ h1) (C.2.2.2.2.2.1 _ h2) (C.2.2.2.2.2.1 _ h3) rfl (by rw [C.2.2.1]; exact S.2.2.2.2.2.1) (a := ρ a) (rest := st.map (am_cv ρ)) rfl hd (by have := C.2.2.2.2.2.2.2.2.2.2.1; omega) ?_ (kk l p e R s m args below meth c dC dI τ B0 ρ0 nx0 n0 z0 C ρ hp locs cells slots ls S)
  rw [am_cat]
  have := C.2.2.2.2.2.2.2.2.2.2.2.1
  show 2 * 0 + _ + 12 ≤ _
  omega
-- ends
theorem am_iret {v : Int32} {ty : FieldType} (hd : decode M.2.1 pc = .ok (.ireturn, 1)) (ht : M.2.2.2.1 = some ty) (hn : narrow ty (.int v) = .int v) : am_V ox d M pc lv [.int v] H (.inl (some (.int v))) H := by
  intro l p e R s m args below meth c dC dI τ B0 ρ0 nx0 n0 z0 C ρ hp locs cells slots ls S
  have e1 : am_nc H - n0 = cells := by have := S.2.2.2.1; omega
  have e2 : am_nz H - z0 = slots := by have := S.2.2.2.2.1; omega
  rw [e1, e2]
  exact am_ret (W.zret C.1 C.2.1 (C.2.2.2.1.trans ht) hn (fun t ht hW => ⟨⟨some (.int v), ρ, rfl, rfl, S.1, by rw [ht]; exact S.2.1⟩, S.2.2.1.F ht⟩) S.2.2.1.2.2 hd (hlocks := C.2.2.2.2.2.2.1))
theorem am_aret {b : Nat} {ty : FieldType} (hd : decode M.2.1 pc = .ok (.areturn, 1)) (ht : M.2.2.2.1 = some ty) (hr : (∃ n, ty = .object n) ∨ ∃ t, ty = .array t) : am_V ox d M pc lv [.ref b] H (.inl (some (.ref b))) H := by
  intro l p e R s m args below meth c dC dI τ B0 ρ0 nx0 n0 z0 C ρ hp locs cells slots ls S
  have e1 : am_nc H - n0 = cells := by have := S.2.2.2.1; omega
  have e2 : am_nz H - z0 = slots := by have := S.2.2.2.2.1; omega
  rw [e1, e2]
  exact am_ret (W.aret (v := .ref (ρ b)) C.1 C.2.1 (C.2.2.2.1.trans ht) hr (Or.inr ⟨_, rfl⟩) (fun t ht hW => ⟨⟨some (.ref b), ρ, rfl, rfl, S.1, by rw [ht]; exact S.2.1⟩, S.2.2.1.F ht⟩) S.2.2.1.2.2 hd (hlocks := C.2.2.2.2.2.2.1))
theorem am_vret (hd : decode M.2.1 pc = .ok (.return_, 1)) (ht : M.2.2.2.1 = none) : am_V ox d M pc lv [] H (.inl none) H := by
  intro l p e R s m args below meth c dC dI τ B0 ρ0 nx0 n0 z0 C ρ hp locs cells slots ls S
  have e1 : am_nc H - n0 = cells := by have := S.2.2.2.1; omega
  have e2 : am_nz H - z0 = slots := by have := S.2.2.2.2.1; omega
  rw [e1, e2]
  exact am_ret (W.vret C.1 C.2.1 (C.2.2.2.1.trans ht) (fun t ht hW => ⟨⟨none, ρ, rfl, rfl, S.1, by rw [ht]; exact S.2.1⟩, S.2.2.1.F ht⟩) S.2.2.1.2.2 hd (hlocks := C.2.2.2.2.2.2.1))
/-- more cells may be counted than were made -/
theorem am_widen {H2 : am_H} (h1 : am_nx H = am_nx H2) (h2 : am_sh H = am_sh H2) (h3 : am_gi H = am_gi H2) (h4 : am_gr H = am_gr H2) (h5 : am_gl H = am_gl H2) (hc : am_nc H ≤ am_nc H2) (hz : am_nz H ≤ am_nz H2) (kk : am_V ox d M pc lv st H2 o H') : am_V ox d M pc lv st H o H' := by
  intro l p e R s m args below meth c dC dI τ B0 ρ0 nx0 n0 z0 C ρ hp locs cells slots ls S
  have hcc := S.2.2.2.1
  have hzz := S.2.2.2.2.1
  have ew : am_ws τ ρ H = am_ws τ ρ H2 := by unfold am_ws am_cell am_fs; rw [h1, h2, h3, h4, h5]
  refine W.widen (k := am_nc H2 - n0) (n := am_nz H2 - z0) (by omega) (by omega) (kk l p e R s m args below meth c dC dI τ B0 ρ0 nx0 n0 z0 C ρ hp locs _ _ ls ⟨?_, ?_, S.2.2.1, by omega, by omega, S.2.2.2.2.2⟩)
  · have := S.1; unfold am_J at this ⊢; rw [← h1]; exact this
  · have := S.2.1; unfold am_P at this ⊢; rw [← h1, ← h4, ← ew]; exact this
-- contracts
end AMN
def am_C (ox : List (Nat × (Nat → Int32))) (d : Nat) (y : MethodName) (M : am_M) (as : List Value) (H : am_H) (o : Option Value ⊕ String) (H' : am_H) : Prop :=
  ∀ (l : Launch), l.stackTraces = false → ∀ (dC : Nat → ClassId) (dI : Nat → Nat → Nat) (τ : Nat → ClassId) (B0 : Nat) (ρ : Nat → Nat),
    am_Met l y (Cond.code y M.2.1 M.2.2.1 M.2.2.2.1 :: am_words) (am_rm d (am_nc H' - am_nc H) (am_nz H' - am_nz H)) (va_Pc (as.map (am_cv ρ)) (am_B ox dC dI τ B0 ρ H)) (am_Q dC dI τ B0 ρ (am_nx H) o H') (am_X dC dI τ B0 ρ (am_nx H) o H') (am_nc H' - am_nc H) (am_nz H' - am_nz H) (am_A B0)
theorem am_args {ρ : Nat → Nat} : ∀ (as : List Value) (i : Nat), lv_args i (as.map (am_cv ρ)) = am_cl ρ (lv_args i as)
  | [], _ => rfl
  | v :: vs, i => by
    show (i, am_cv ρ v) :: lv_args (if (am_cv ρ v).category = 2 then i + 2 else i + 1) (vs.map (am_cv ρ)) = (i, am_cv ρ v) :: am_cl ρ (lv_args (if v.category = 2 then i + 2 else i + 1) vs)
    rw [am_cv_cat, am_args vs]
theorem am_sll {ρ : Nat → Nat} : ∀ (as : List Value), (lg_sl (as.map (am_cv ρ))).length = (lg_sl as).length
  | [] => rfl
  | v :: vs => by
    have := am_sll (ρ := ρ) vs
    unfold lg_sl at this ⊢
    rw [List.map_cons, List.flatMap_cons, List.flatMap_cons, List.length_append, List.length_append, this, am_cv_cat]
    by_cases h : v.category = 2
    · rw [if_pos h, if_pos h]; rfl
    · rw [if_neg h, if_neg h]; rfl
theorem am_enter {ox : List (Nat × (Nat → Int32))} {d : Nat} {y : MethodName} {M : am_M} {as : List Value} {H H' : am_H} {o : Option Value ⊕ String} (hy : plainName y.cls = true) (hc : M.1 = y.cls) (hnm : M.2.2.2.2.1 = y.name) (htb : M.2.2.2.2.2 = []) (hls : (lg_sl as).length ≤ M.2.2.1) (h1 : am_nc H ≤ am_nc H') (h2 : am_nz H ≤ am_nz H') (h : am_V ox d M 0 (lv_args 0 as) [] H o H') : am_C ox d y M as H o H' := by
  intro l hl dC dI τ B0 ρ
  refine am_ofW (cc := M.2.1) (maxL := M.2.2.1) (ret := M.2.2.2.1) hy rfl ?_
  intro p e s m args below meth c s₁ B hml htab hv
  obtain ⟨rfl, hP, hK, hO⟩ := hv
  have hts := atoms_spec (ws := Cond.code y M.2.1 M.2.2.1 M.2.2.2.1 :: am_words) B.pre
  have hle := lv_entry (as.map (am_cv ρ)) (n := M.2.2.1) (by rw [am_sll]; exact hls)
  rw [lg_entry_eq]
  generalize (lg_sl (as.map (am_cv ρ)) ++ List.replicate (M.2.2.1 - (lg_sl (as.map (am_cv ρ))).length) Slot.unset).toArray = ls at hle ⊢
  rw [am_args] at hle
  refine h l p e (am_rm d (am_nc H' - am_nc H) (am_nz H' - am_nz H)) s m _ below meth c dC dI τ B0 ρ (am_nx H) (am_nc H) (am_nz H) ⟨B.exec, B.bytes, hml, B.returns, by rw [hc]; exact findClass_of_methodNamed B.named, fun w hw => hts w (List.mem_cons_of_mem _ hw), B.notSynchronized, hK, hl, hP.2.2.2.2, Nat.le_refl _, Nat.le_refl _, ?_, ?_, ?_, ?_, hO⟩ ρ s.heap [] 0 0 ls ⟨⟨Nat.le_refl _, fun _ => rfl, am_ext.rf⟩, hP, va_S.rf, Nat.zero_add _, Nat.zero_add _, hle⟩
  · show am_nc H' ≤ am_nc H + (am_nc H' - am_nc H); omega
  · show am_nz H' ≤ am_nz H + (am_nz H' - am_nz H); omega
  · intro _; rw [hnm]; exact (name_of_methodNamed B.named B.method).1
  · intro _; rw [htb]; exact htab
