/-! THE ABSTRACT MACHINE, part 7: what was there before, throws. -/
section AMT
variable {ox : List (Nat × (Nat → Int32))} {d : Nat} {M : am_M} {pc q : Nat} {lv : List (Nat × Value)} {st : List Value} {H H' : am_H} {o : Option Value ⊕ String}
theorem am_sld {i : Nat} {r : Nat × (Nat → Int32)} {x : Int32} (hd : decode M.2.1 pc = .ok (.iaload, 1)) (ho : ox[i]? = some r) (hin : vp_in x r.1) (hq : pc + 1 = q) (kk : am_V ox d M q lv (.int (r.2 x.toNatClampNeg) :: st) H o H') : am_V ox d M pc lv (.int x :: .ref (1000000 + i) :: st) H o H' := by
  subst hq
  intro l p e R s m args below meth c dC dI τ B0 ρ0 nx0 n0 z0 C ρ hp locs cells slots ls S
  have hO := (am_O.ext C.2.2.2.2.2.2.2.2.2.2.2.2.2.2.2.2 S.1.2.2).1 i r ho
  exact va_sld C.1 C.2.1 hO.1 (Nat.lt_of_lt_of_le hO.2 C.2.2.2.2.2.2.2.2.2.1) (Nat.not_le.mpr hO.2) S.2.2.1 hin hd (kk l p e R s m args below meth c dC dI τ B0 ρ0 nx0 n0 z0 C ρ hp locs cells slots ls S)
theorem am_slen {i : Nat} {r : Nat × (Nat → Int32)} (hd : decode M.2.1 pc = .ok (.arraylength, 1)) (ho : ox[i]? = some r) (hq : pc + 1 = q) (kk : am_V ox d M q lv (.int (nI r.1) :: st) H o H') : am_V ox d M pc lv (.ref (1000000 + i) :: st) H o H' := by
  subst hq
  intro l p e R s m args below meth c dC dI τ B0 ρ0 nx0 n0 z0 C ρ hp locs cells slots ls S
  have hO := (am_O.ext C.2.2.2.2.2.2.2.2.2.2.2.2.2.2.2.2 S.1.2.2).1 i r ho
  exact va_slen C.1 C.2.1 hO.1 (Nat.lt_of_lt_of_le hO.2 C.2.2.2.2.2.2.2.2.2.1) (Nat.not_le.mpr hO.2) S.2.2.1 hd (kk l p e R s m args below meth c dC dI τ B0 ρ0 nx0 n0 z0 C ρ hp locs cells slots ls S)
theorem am_gets {Cn n ds : String} {i idx : Nat} (hd : decode M.2.1 pc = .ok (.getstatic idx, 3)) (hz : (Cn, n, ds, i) ∈ am_sts) (hlk : Cond.fieldLink M.1 idx Cn n ds ∈ am_words) (hq : pc + 3 = q) (kk : am_V ox d M q lv (.ref (1000000 + i) :: st) H o H') : am_V ox d M pc lv st H o H' := by
  subst hq
  intro l p e R s m args below meth c dC dI τ B0 ρ0 nx0 n0 z0 C ρ hp locs cells slots ls S
  have hO := (am_O.ext C.2.2.2.2.2.2.2.2.2.2.2.2.2.2.2.2 S.1.2.2).2.1 _ hz
  exact va_gets C.1 C.2.1 hO S.2.2.1 C.2.2.2.2.1 (C.2.2.2.2.2.1 _ hlk) (fun _ h => h) hd (kk l p e R s m args below meth c dC dI τ B0 ρ0 nx0 n0 z0 C ρ hp locs cells slots ls S)
theorem am_mmax {idx : Nat} {x y : Int32} (hd : decode M.2.1 pc = .ok (.invokestatic idx, 3)) (hd1 : 1 ≤ d) (hlk : Cond.methodLink M.1 idx Lib.Math.max.name ∈ am_words) (hst : Cond.static Lib.Math.max.name ∈ am_words) (hini : Cond.initialized "java/lang/Math" ∈ am_words) (hcd : Cond.code Lib.Math.max.name Lib.Math.max.code 2 (some .int) ∈ am_words) (hc8 : (st.map fun v => v.category).sum ≤ 8) (hcn : am_nc H ≤ am_nc H') (hzn : am_nz H ≤ am_nz H') (hq : pc + 3 = q) (kk : am_V ox d M q lv (.int (if x < y then y else x) :: st) H o H') : am_V ox d M pc lv (.int y :: .int x :: st) H o H' := by
  subst hq
  intro l p e R s m args below meth c dC dI τ B0 ρ0 nx0 n0 z0 C ρ hp locs cells slots ls S
  have hcc := S.2.2.2.1
  have hzz := S.2.2.2.2.1
  have hRc := C.2.2.2.2.2.2.2.2.2.2.2.2.1
  have hRz := C.2.2.2.2.2.2.2.2.2.2.2.2.2.1
  have hRf := C.2.2.2.2.2.2.2.2.2.2.1
  have hRl := C.2.2.2.2.2.2.2.2.2.2.2.1
  exact va_mmax C.1 C.2.1 (by rw [C.2.2.1]; exact S.2.2.2.2.2.1.symm) C.2.2.2.2.1 (C.2.2.2.2.2.1 _ hlk) (C.2.2.2.2.2.1 _ hst) (C.2.2.2.2.2.1 _ hini) (C.2.2.2.2.2.1 _ hcd) (by omega) (by rw [am_cat]; omega) (by omega) (by omega) hd (kk l p e R s m args below meth c dC dI τ B0 ρ0 nx0 n0 z0 C ρ hp locs cells slots ls S)
theorem am_mmin {idx : Nat} {x y : Int32} (hd : decode M.2.1 pc = .ok (.invokestatic idx, 3)) (hd1 : 1 ≤ d) (hlk : Cond.methodLink M.1 idx Lib.Math.min.name ∈ am_words) (hst : Cond.static Lib.Math.min.name ∈ am_words) (hini : Cond.initialized "java/lang/Math" ∈ am_words) (hcd : Cond.code Lib.Math.min.name Lib.Math.min.code 2 (some .int) ∈ am_words) (hc8 : (st.map fun v => v.category).sum ≤ 8) (hcn : am_nc H ≤ am_nc H') (hzn : am_nz H ≤ am_nz H') (hq : pc + 3 = q) (kk : am_V ox d M q lv (.int (if y < x then y else x) :: st) H o H') : am_V ox d M pc lv (.int y :: .int x :: st) H o H' := by
  subst hq
  intro l p e R s m args below meth c dC dI τ B0 ρ0 nx0 n0 z0 C ρ hp locs cells slots ls S
  have hcc := S.2.2.2.1
  have hzz := S.2.2.2.2.1
  have hRc := C.2.2.2.2.2.2.2.2.2.2.2.2.1
  have hRz := C.2.2.2.2.2.2.2.2.2.2.2.2.2.1
  have hRf := C.2.2.2.2.2.2.2.2.2.2.1
  have hRl := C.2.2.2.2.2.2.2.2.2.2.2.1
  exact va_mmin C.1 C.2.1 (by rw [C.2.2.1]; exact S.2.2.2.2.2.1.symm) C.2.2.2.2.1 (C.2.2.2.2.2.1 _ hlk) (C.2.2.2.2.2.1 _ hst) (C.2.2.2.2.2.1 _ hini) (C.2.2.2.2.2.1 _ hcd) (by omega) (by rw [am_cat]; omega) (by omega) (by omega) hd (kk l p e R s m args below meth c dC dI τ B0 ρ0 nx0 n0 z0 C ρ hp locs cells slots ls S)
/-- System.arraycopy over int[] -/
theorem am_copyi {idx a a0 n n0' : Nat} {sp dp cn : Int32} (hd : decode M.2.1 pc = .ok (.invokestatic idx, 3)) (hd1 : 1 ≤ d) (hlk : Cond.methodLink M.1 idx arraycopyName ∈ am_words) (hnat : Cond.native arraycopyName ∈ am_words) (hst : Cond.static arraycopyName ∈ am_words) (hini : Cond.initialized "java/lang/System" ∈ am_words) (hs0 : am_sh H a0 = (100, n0')) (hs : am_sh H a = (100, n)) (ha0 : a0 < am_nx H) (ha : a < am_nx H) (h1 : ¬ sp < 0) (h2 : ¬ dp < 0) (h3 : ¬ cn < 0) (h4 : sp.toNatClampNeg + cn.toNatClampNeg ≤ n0') (h5 : dp.toNatClampNeg + cn.toNatClampNeg ≤ n) (hc8 : (st.map fun v => v.category).sum ≤ 8) (hq : pc + 3 = q) (kk : am_V ox d M q lv st (am_sf H a (va_cpy (am_gi H a0) (am_gi H a) sp.toNatClampNeg dp.toNatClampNeg cn.toNatClampNeg)) o H') : am_V ox d M pc lv (.int cn :: .int dp :: .ref a :: .int sp :: .ref a0 :: st) H o H' := by
  subst hq
  intro l p e R s m args below meth c dC dI τ B0 ρ0 nx0 n0 z0 C ρ hp locs cells slots ls S
  have hRf := C.2.2.2.2.2.2.2.2.2.2.1
  have hRl := C.2.2.2.2.2.2.2.2.2.2.2.1
  have hcell := am_ws_at (τ := τ) (ρ := ρ) ha
  rw [am_cell_i hs] at hcell
  have hcell0 := am_ws_at (τ := τ) (ρ := ρ) ha0
  rw [am_cell_i hs0] at hcell0
  have hnw : nativeFrameWords "java/lang/System" "arraycopy" 5 + 11 ≤ 100 := by decide +kernel
  refine va_copyi (D := (dC, dI)) (ty := .int) C.1 C.2.1 (by rw [C.2.2.1]; exact S.2.2.2.2.2.1.symm) C.2.2.2.2.1 (C.2.2.2.2.2.1 _ hlk) (C.2.2.2.2.2.1 _ hnat) (C.2.2.2.2.2.1 _ hst) (C.2.2.2.2.2.1 _ hini) C.2.2.2.2.2.2.2.1 S.2.1.1 S.2.1.2.1 S.2.2.1 a0 a 0 0 hcell0 hcell (am_tys_at rfl) (am_tys_at rfl) rfl h1 h2 h3 h4 h5 (fun _ _ => rfl) (by omega) (by rw [am_cat]; omega) hd (fun H1 locs1 hP1 hD1 hS1 => ?_)
  have e1 : am_cell τ ρ (am_sf H a (va_cpy (am_gi H a0) (am_gi H a) sp.toNatClampNeg dp.toNatClampNeg cn.toNatClampNeg)) a = .inl (τ 100, n, .inl (va_cpy (am_gi H a0) (am_gi H a) sp.toNatClampNeg dp.toNatClampNeg cn.toNatClampNeg)) := by
    rw [am_cell_i (H := (am_sf H a (va_cpy (am_gi H a0) (am_gi H a) sp.toNatClampNeg dp.toNatClampNeg cn.toNatClampNeg))) hs]
    congr 4
    funext y
    exact if_pos rfl
  rw [am_ws_set (H := H) (H2 := am_sf H a (va_cpy (am_gi H a0) (am_gi H a) sp.toNatClampNeg dp.toNatClampNeg cn.toNatClampNeg)) rfl e1 (fun b hb => am_cell_sf hb)] at hP1 hD1
  exact kk l p e R s m args below meth c dC dI τ B0 ρ0 nx0 n0 z0 C ρ H1 locs1 cells slots ls ⟨S.1, ⟨hP1, hD1, S.2.1.2.2.1, S.2.1.2.2.2.1, Nat.le_trans C.2.2.2.2.2.2.2.2.2.1 hS1.1⟩, hS1, S.2.2.2⟩
end AMT
