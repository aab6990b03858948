/-! THE ABSTRACT MACHINE, part 4: fields, arrays, new cells. -/
/-- a class of vwCl: its name, fields, types -/
def am_Kl (ci : Nat) (C : String) (T : u_T) (N : Nat) (ty : Nat → FieldType) : Prop :=
  vwCl[ci]? = some (C, T, N) ∧ am_Nf ci = N ∧ ci < 100 ∧ (∀ w ∈ u_ws C T N, w ∈ am_words) ∧ (∀ k, k < N → parseFieldDescriptor (T k).2.2.1 = some (ty k)) ∧ (∀ a, a < N → ∀ b, b < N → a ≠ b → (T a).2.1 ≠ (T b).2.1) ∧ (∀ k, k < N → defaultValue (ty k) = if am_isr ci k = true then .null else .int 0)
/-- the field that (own, idx) names is slot k of class ci -/
def am_Fl (own : String) (idx ci k : Nat) (ty : FieldType) (fin : Bool) : Prop := ∃ (C : String) (T : u_T) (N : Nat) (tys : Nat → FieldType), am_Kl ci C T N tys ∧ k < N ∧ tys k = ty ∧ (T k).2.2.2 = fin ∧ Cond.fieldLink own idx (T k).1 (T k).2.1 (T k).2.2.1 ∈ am_words
def am_Cn (own : String) (idx ci : Nat) : Prop := ∃ (C : String) (T : u_T) (N : Nat) (tys : Nat → FieldType), am_Kl ci C T N tys ∧ Cond.classLink own idx C ∈ am_words ∧ Cond.instantiable C N ∈ am_words ∧ Cond.initialized C ∈ am_words
theorem am_ra_eq {U : State} {c1 c2 : ClassId} {ty : FieldType} (h1 : va_RA U c1 ty) (h2 : va_RA U c2 ty) : c1 = c2 := by
  cases ty with
  | object C =>
    obtain ⟨_, _, _, _, _, e1⟩ := h1
    obtain ⟨_, _, _, _, _, e2⟩ := h2
    exact Option.some.inj (e1.symm.trans e2)
  | _ => exact Option.some.inj (Eq.trans (Eq.symm h1) h2)
section AMH
variable {ox : List (Nat × (Nat → Int32))} {d : Nat} {M : am_M} {pc q : Nat} {lv : List (Nat × Value)} {st : List Value} {H H' : am_H} {o : Option Value ⊕ String}
theorem am_getI {idx a ci k : Nat} {ty : FieldType} {fin : Bool} (hd : decode M.2.1 pc = .ok (.getfield idx, 3)) (hf : am_Fl M.1 idx ci k ty fin) (hr : am_isr ci k = false) (hs : am_sh H a = (ci, am_Nf ci)) (ha : a < am_nx H) (hq : pc + 3 = q) (kk : am_V ox d M q lv (.int (am_gi H a k) :: st) H o H') : am_V ox d M pc lv (.ref a :: st) H o H' := by
  subst hq
  intro l p e R s m args below meth c dC dI τ B0 ρ0 nx0 n0 z0 C ρ hp locs cells slots ls S
  obtain ⟨Cn, T, N, tys, ⟨hc, hN, h100, hin, -⟩, hk, -, -, hlk⟩ := hf
  have hcell := am_ws_at (τ := τ) (ρ := ρ) ha
  rw [am_cell_o hs h100] at hcell
  refine va_get (D := (dC, dI)) (ci := ci) (v := .int (am_gi H a k)) (C := Cn) (T := T) (N := N) C.1 C.2.1 C.2.2.2.2.2.1 hin C.2.2.2.2.1 C.2.2.2.2.2.2.2.1 S.2.1.1 a hcell hc k hk (C.2.2.2.2.2.1 _ hlk) (fun _ h => h) ?_ hd (kk l p e R s m args below meth c dC dI τ B0 ρ0 nx0 n0 z0 C ρ hp locs cells slots ls S)
  rw [am_fs_at (by rw [hN]; exact hk), hr]; rfl
theorem am_getR {idx a ci k b : Nat} {ty : FieldType} {fin : Bool} (hd : decode M.2.1 pc = .ok (.getfield idx, 3)) (hf : am_Fl M.1 idx ci k ty fin) (hr : am_isr ci k = true) (hs : am_sh H a = (ci, am_Nf ci)) (ha : a < am_nx H) (hb : am_gr H a k = some b) (hq : pc + 3 = q) (kk : am_V ox d M q lv (.ref b :: st) H o H') : am_V ox d M pc lv (.ref a :: st) H o H' := by
  subst hq
  intro l p e R s m args below meth c dC dI τ B0 ρ0 nx0 n0 z0 C ρ hp locs cells slots ls S
  obtain ⟨Cn, T, N, tys, ⟨hc, hN, h100, hin, -⟩, hk, -, -, hlk⟩ := hf
  have hcell := am_ws_at (τ := τ) (ρ := ρ) ha
  rw [am_cell_o hs h100] at hcell
  refine va_get (D := (dC, dI)) (ci := ci) (v := .ref (ρ b)) (C := Cn) (T := T) (N := N) C.1 C.2.1 C.2.2.2.2.2.1 hin C.2.2.2.2.1 C.2.2.2.2.2.2.2.1 S.2.1.1 a hcell hc k hk (C.2.2.2.2.2.1 _ hlk) (fun _ h => h) ?_ hd (kk l p e R s m args below meth c dC dI τ B0 ρ0 nx0 n0 z0 C ρ hp locs cells slots ls S)
  rw [am_fs_at (by rw [hN]; exact hk), hr, hb]; rfl
theorem am_putI {idx a ci k : Nat} {ty : FieldType} {v : Int32} (hd : decode M.2.1 pc = .ok (.putfield idx, 3)) (hf : am_Fl M.1 idx ci k ty false) (hr : am_isr ci k = false) (hn : narrow ty (.int v) = .int v) (hfit : fits ty (.int v) = true) (hs : am_sh H a = (ci, am_Nf ci)) (ha : a < am_nx H) (hq : pc + 3 = q) (kk : am_V ox d M q lv st (am_si H a k v) o H') : am_V ox d M pc lv (.int v :: .ref a :: st) H o H' := by
  subst hq
  intro l p e R s m args below meth c dC dI τ B0 ρ0 nx0 n0 z0 C ρ hp locs cells slots ls S
  obtain ⟨Cn, T, N, tys, ⟨hc, hN, h100, hin, hty, hnm, -⟩, hk, rfl, hfin, hlk⟩ := hf
  have hcell := am_ws_at (τ := τ) (ρ := ρ) ha
  rw [am_cell_o hs h100] at hcell
  refine va_put (D := (dC, dI)) (ci := ci) (v := .int v) (ty := tys k) (C := Cn) (T := T) (N := N) C.1 C.2.1 C.2.2.2.2.2.1 hin tys hty hnm C.2.2.2.2.1 C.2.2.2.2.2.2.2.1 S.2.1.1 S.2.1.2.1 S.2.2.1 a hcell hc k hk (C.2.2.2.2.2.1 _ hlk) (fun _ h => h) hfin (hty k hk) hn hfit (by rw [am_fs_len, hN]; exact hk) hd (fun H1 locs1 hP1 hD1 hS1 => ?_)
  rw [am_fs_si hr, am_ws_set (H := H) (H2 := am_si H a k v) rfl (am_cell_o hs h100) (fun b hb => am_cell_si hb)] at hP1 hD1
  exact kk l p e R s m args below meth c dC dI τ B0 ρ0 nx0 n0 z0 C ρ H1 locs1 cells slots ls ⟨S.1, ⟨hP1, hD1, S.2.1.2.2.1, S.2.1.2.2.2.1, Nat.le_trans C.2.2.2.2.2.2.2.2.2.1 hS1.1⟩, hS1, S.2.2.2⟩
theorem am_putR {idx a ci k b : Nat} {ty : FieldType} (hd : decode M.2.1 pc = .ok (.putfield idx, 3)) (hf : am_Fl M.1 idx ci k ty false) (hr : am_isr ci k = true) (hn : ∀ x, narrow ty (.ref x) = .ref x) (hfit : ∀ x, fits ty (.ref x) = true) (hs : am_sh H a = (ci, am_Nf ci)) (ha : a < am_nx H) (hb : b < am_nx H) (hq : pc + 3 = q) (kk : am_V ox d M q lv st (am_sr H a k (some b)) o H') : am_V ox d M pc lv (.ref b :: .ref a :: st) H o H' := by
  subst hq
  intro l p e R s m args below meth c dC dI τ B0 ρ0 nx0 n0 z0 C ρ hp locs cells slots ls S
  obtain ⟨Cn, T, N, tys, ⟨hc, hN, h100, hin, hty, hnm, -⟩, hk, rfl, hfin, hlk⟩ := hf
  have hcell := am_ws_at (τ := τ) (ρ := ρ) ha
  rw [am_cell_o hs h100] at hcell
  refine va_put (D := (dC, dI)) (ci := ci) (v := .ref (ρ b)) (ty := tys k) (C := Cn) (T := T) (N := N) C.1 C.2.1 C.2.2.2.2.2.1 hin tys hty hnm C.2.2.2.2.1 C.2.2.2.2.2.2.2.1 S.2.1.1 S.2.1.2.1 S.2.2.1 a hcell hc k hk (C.2.2.2.2.2.1 _ hlk) (fun _ h => h) hfin (hty k hk) (hn _) (hfit _) (by rw [am_fs_len, hN]; exact hk) hd (fun H1 locs1 hP1 hD1 hS1 => ?_)
  rw [show Value.ref (ρ b) = va_rf ((some b).map ρ) from rfl, am_fs_sr hr, am_ws_set (H := H) (H2 := am_sr H a k (some b)) rfl (am_cell_o hs h100) (fun x hx => am_cell_sr hx)] at hP1 hD1
  refine kk l p e R s m args below meth c dC dI τ B0 ρ0 nx0 n0 z0 C ρ H1 locs1 cells slots ls ⟨S.1, ⟨hP1, hD1, fun x i y hxy => ?_, S.2.1.2.2.2.1, Nat.le_trans C.2.2.2.2.2.2.2.2.2.1 hS1.1⟩, hS1, S.2.2.2⟩
  by_cases hx : x = a ∧ i = k
  · obtain ⟨rfl, rfl⟩ := hx
    have e1 : am_gr (am_sr H x i (some b)) x i = some b := am_u2_self _ _ _ _
    cases e1.symm.trans hxy
    exact hb
  · have e1 : am_gr (am_sr H a k (some b)) x i = am_gr H x i := am_u2_ne _ _ hx
    exact S.2.1.2.2.1 x i y (e1.symm.trans hxy)
/-- a final field, in the constructor -/
theorem am_putF {idx a ci k b : Nat} {ty : FieldType} (hd : decode M.2.1 pc = .ok (.putfield idx, 3)) (hf : am_Fl M.1 idx ci k ty true) (hr : am_isr ci k = true) (hi : M.2.2.2.2.1 = "<init>") (ho : ∀ r : vw_C, vwCl[ci]? = some r → (r.2.1 k).1 = M.1) (hn : ∀ x, narrow ty (.ref x) = .ref x) (hfit : ∀ x, fits ty (.ref x) = true) (hs : am_sh H a = (ci, am_Nf ci)) (ha : a < am_nx H) (hb : b < am_nx H) (hq : pc + 3 = q) (kk : am_V ox d M q lv st (am_sr H a k (some b)) o H') : am_V ox d M pc lv (.ref b :: .ref a :: st) H o H' := by
  subst hq
  intro l p e R s m args below meth c dC dI τ B0 ρ0 nx0 n0 z0 C ρ hp locs cells slots ls S
  obtain ⟨Cn, T, N, tys, ⟨hc, hN, h100, hin, hty, hnm, -⟩, hk, rfl, hfin, hlk⟩ := hf
  have hdecl := ho _ hc
  have hcell := am_ws_at (τ := τ) (ρ := ρ) ha
  rw [am_cell_o hs h100] at hcell
  refine va_putF (D := (dC, dI)) (ci := ci) (v := .ref (ρ b)) (ty := tys k) (C := Cn) (T := T) (N := N) C.1 C.2.1 C.2.2.2.2.2.1 hin tys hty hnm C.2.2.2.2.1 C.2.2.2.2.2.2.2.1 S.2.1.1 S.2.1.2.1 S.2.2.1 a hcell hc k hk (C.2.2.2.2.2.1 _ hlk) (fun _ h => h) hfin ((C.2.2.2.2.2.2.2.2.2.2.2.2.2.2.1 (by rw [hi]; decide)).trans hi) hdecl (hty k hk) (hn _) (hfit _) (by rw [am_fs_len, hN]; exact hk) hd (fun H1 locs1 hP1 hD1 hS1 => ?_)
  rw [show Value.ref (ρ b) = va_rf ((some b).map ρ) from rfl, am_fs_sr hr, am_ws_set (H := H) (H2 := am_sr H a k (some b)) rfl (am_cell_o hs h100) (fun x hx => am_cell_sr hx)] at hP1 hD1
  refine kk l p e R s m args below meth c dC dI τ B0 ρ0 nx0 n0 z0 C ρ H1 locs1 cells slots ls ⟨S.1, ⟨hP1, hD1, fun x i y hxy => ?_, S.2.1.2.2.2.1, Nat.le_trans C.2.2.2.2.2.2.2.2.2.1 hS1.1⟩, hS1, S.2.2.2⟩
  by_cases hx : x = a ∧ i = k
  · obtain ⟨rfl, rfl⟩ := hx
    have e1 : am_gr (am_sr H x i (some b)) x i = some b := am_u2_self _ _ _ _
    cases e1.symm.trans hxy
    exact hb
  · have e1 : am_gr (am_sr H a k (some b)) x i = am_gr H x i := am_u2_ne _ _ hx
    exact S.2.1.2.2.1 x i y (e1.symm.trans hxy)
theorem am_putFI {idx a ci k : Nat} {ty : FieldType} {v : Int32} (hd : decode M.2.1 pc = .ok (.putfield idx, 3)) (hf : am_Fl M.1 idx ci k ty true) (hr : am_isr ci k = false) (hi : M.2.2.2.2.1 = "<init>") (ho : ∀ r : vw_C, vwCl[ci]? = some r → (r.2.1 k).1 = M.1) (hn : narrow ty (.int v) = .int v) (hfit : fits ty (.int v) = true) (hs : am_sh H a = (ci, am_Nf ci)) (ha : a < am_nx H) (hq : pc + 3 = q) (kk : am_V ox d M q lv st (am_si H a k v) o H') : am_V ox d M pc lv (.int v :: .ref a :: st) H o H' := by
  subst hq
  intro l p e R s m args below meth c dC dI τ B0 ρ0 nx0 n0 z0 C ρ hp locs cells slots ls S
  obtain ⟨Cn, T, N, tys, ⟨hc, hN, h100, hin, hty, hnm, -⟩, hk, rfl, hfin, hlk⟩ := hf
  have hdecl := ho _ hc
  have hcell := am_ws_at (τ := τ) (ρ := ρ) ha
  rw [am_cell_o hs h100] at hcell
  refine va_putF (D := (dC, dI)) (ci := ci) (v := .int v) (ty := tys k) (C := Cn) (T := T) (N := N) C.1 C.2.1 C.2.2.2.2.2.1 hin tys hty hnm C.2.2.2.2.1 C.2.2.2.2.2.2.2.1 S.2.1.1 S.2.1.2.1 S.2.2.1 a hcell hc k hk (C.2.2.2.2.2.1 _ hlk) (fun _ h => h) hfin ((C.2.2.2.2.2.2.2.2.2.2.2.2.2.2.1 (by rw [hi]; decide)).trans hi) hdecl (hty k hk) hn hfit (by rw [am_fs_len, hN]; exact hk) hd (fun H1 locs1 hP1 hD1 hS1 => ?_)
  rw [am_fs_si hr, am_ws_set (H := H) (H2 := am_si H a k v) rfl (am_cell_o hs h100) (fun b hb => am_cell_si hb)] at hP1 hD1
  exact kk l p e R s m args below meth c dC dI τ B0 ρ0 nx0 n0 z0 C ρ H1 locs1 cells slots ls ⟨S.1, ⟨hP1, hD1, S.2.1.2.2.1, S.2.1.2.2.2.1, Nat.le_trans C.2.2.2.2.2.2.2.2.2.1 hS1.1⟩, hS1, S.2.2.2⟩
-- arrays
theorem am_iald {a n : Nat} {i : Int32} (hd : decode M.2.1 pc = .ok (.iaload, 1)) (hs : am_sh H a = (100, n)) (ha : a < am_nx H) (hin : vp_in i n) (hq : pc + 1 = q) (kk : am_V ox d M q lv (.int (am_gi H a i.toNatClampNeg) :: st) H o H') : am_V ox d M pc lv (.int i :: .ref a :: st) H o H' := by
  subst hq
  intro l p e R s m args below meth c dC dI τ B0 ρ0 nx0 n0 z0 C ρ hp locs cells slots ls S
  have hcell := am_ws_at (τ := τ) (ρ := ρ) ha
  rw [am_cell_i hs] at hcell
  exact va_iald (D := (dC, dI)) C.1 C.2.1 C.2.2.2.2.2.2.2.1 S.2.1.1 a 0 hcell (am_tys_at rfl) hin hd (kk l p e R s m args below meth c dC dI τ B0 ρ0 nx0 n0 z0 C ρ hp locs cells slots ls S)
theorem am_zald {a n : Nat} {i : Int32} (hd : decode M.2.1 pc = .ok (.baload, 1)) (hs : am_sh H a = (101, n)) (ha : a < am_nx H) (hin : vp_in i n) (hq : pc + 1 = q) (kk : am_V ox d M q lv (.int (am_gi H a i.toNatClampNeg) :: st) H o H') : am_V ox d M pc lv (.int i :: .ref a :: st) H o H' := by
  subst hq
  intro l p e R s m args below meth c dC dI τ B0 ρ0 nx0 n0 z0 C ρ hp locs cells slots ls S
  have hcell := am_ws_at (τ := τ) (ρ := ρ) ha
  rw [am_cell_z hs] at hcell
  exact va_zald (D := (dC, dI)) C.1 C.2.1 C.2.2.2.2.2.2.2.1 S.2.1.1 a 1 hcell (am_tys_at rfl) hin hd (kk l p e R s m args below meth c dC dI τ B0 ρ0 nx0 n0 z0 C ρ hp locs cells slots ls S)
theorem am_lald {a n : Nat} {i : Int32} (hd : decode M.2.1 pc = .ok (.laload, 1)) (hs : am_sh H a = (102, n)) (ha : a < am_nx H) (hin : vp_in i n) (hq : pc + 1 = q) (kk : am_V ox d M q lv (.long (am_gl H a i.toNatClampNeg) :: st) H o H') : am_V ox d M pc lv (.int i :: .ref a :: st) H o H' := by
  subst hq
  intro l p e R s m args below meth c dC dI τ B0 ρ0 nx0 n0 z0 C ρ hp locs cells slots ls S
  have hcell := am_ws_at (τ := τ) (ρ := ρ) ha
  rw [am_cell_l hs] at hcell
  exact va_lald (D := (dC, dI)) C.1 C.2.1 C.2.2.2.2.2.2.2.1 S.2.1.1 a 2 hcell (am_tys_at rfl) hin hd (kk l p e R s m args below meth c dC dI τ B0 ρ0 nx0 n0 z0 C ρ hp locs cells slots ls S)
theorem am_aald {a n k t b : Nat} {Cn : String} {i : Int32} (hd : decode M.2.1 pc = .ok (.aaload, 1)) (hs : am_sh H a = (103 + k, n)) (ht : am_kinds[t]? = some (103 + k, .object Cn)) (ha : a < am_nx H) (hin : vp_in i n) (hb : am_gr H a i.toNatClampNeg = some b) (hq : pc + 1 = q) (kk : am_V ox d M q lv (.ref b :: st) H o H') : am_V ox d M pc lv (.int i :: .ref a :: st) H o H' := by
  subst hq
  intro l p e R s m args below meth c dC dI τ B0 ρ0 nx0 n0 z0 C ρ hp locs cells slots ls S
  have hcell := am_ws_at (τ := τ) (ρ := ρ) ha
  rw [am_cell_q hs] at hcell
  refine va_aldq (D := (dC, dI)) C.1 C.2.1 C.2.2.2.2.2.2.2.1 S.2.1.1 a t hcell (am_tys_at ht) hin hd ?_
  rw [hb]
  exact kk l p e R s m args below meth c dC dI τ B0 ρ0 nx0 n0 z0 C ρ hp locs cells slots ls S
theorem am_iast {a n : Nat} {i x : Int32} (hd : decode M.2.1 pc = .ok (.iastore, 1)) (hs : am_sh H a = (100, n)) (ha : a < am_nx H) (hin : vp_in i n) (hq : pc + 1 = q) (kk : am_V ox d M q lv st (am_si H a i.toNatClampNeg x) o H') : am_V ox d M pc lv (.int x :: .int i :: .ref a :: st) H o H' := by
  subst hq
  intro l p e R s m args below meth c dC dI τ B0 ρ0 nx0 n0 z0 C ρ hp locs cells slots ls S
  have hcell := am_ws_at (τ := τ) (ρ := ρ) ha
  rw [am_cell_i hs] at hcell
  refine va_iast (D := (dC, dI)) C.1 C.2.1 C.2.2.2.2.2.2.2.1 S.2.1.1 S.2.1.2.1 S.2.2.1 a 0 hcell (am_tys_at rfl) hin hd (fun H1 locs1 hP1 hD1 hS1 => ?_)
  have e1 : am_cell τ ρ (am_si H a i.toNatClampNeg x) a = .inl (τ 100, n, .inl (upd (am_gi H a) i.toNatClampNeg x)) := by
    rw [am_cell_i (H := (am_si H a i.toNatClampNeg x)) hs]
    congr 4
    funext y
    show am_u2 (am_gi H) a i.toNatClampNeg x a y = upd (am_gi H a) i.toNatClampNeg x y
    simp [am_u2, upd]
  rw [am_ws_set (H := H) (H2 := am_si H a i.toNatClampNeg x) rfl e1 (fun b hb => am_cell_si hb)] at hP1 hD1
  exact kk l p e R s m args below meth c dC dI τ B0 ρ0 nx0 n0 z0 C ρ H1 locs1 cells slots ls ⟨S.1, ⟨hP1, hD1, S.2.1.2.2.1, S.2.1.2.2.2.1, Nat.le_trans C.2.2.2.2.2.2.2.2.2.1 hS1.1⟩, hS1, S.2.2.2⟩
theorem am_zast {a n : Nat} {i x : Int32} (hd : decode M.2.1 pc = .ok (.bastore, 1)) (hs : am_sh H a = (101, n)) (ha : a < am_nx H) (hin : vp_in i n) (hx : vp_nar .boolean x = x) (hq : pc + 1 = q) (kk : am_V ox d M q lv st (am_si H a i.toNatClampNeg x) o H') : am_V ox d M pc lv (.int x :: .int i :: .ref a :: st) H o H' := by
  subst hq
  intro l p e R s m args below meth c dC dI τ B0 ρ0 nx0 n0 z0 C ρ hp locs cells slots ls S
  have hcell := am_ws_at (τ := τ) (ρ := ρ) ha
  rw [am_cell_z hs] at hcell
  refine va_zast (D := (dC, dI)) C.1 C.2.1 C.2.2.2.2.2.2.2.1 S.2.1.1 S.2.1.2.1 S.2.2.1 a 1 hcell (am_tys_at rfl) hin hd (fun H1 locs1 hP1 hD1 hS1 => ?_)
  have e1 : am_cell τ ρ (am_si H a i.toNatClampNeg x) a = .inl (τ 101, n, .inl (upd (am_gi H a) i.toNatClampNeg (vp_nar .boolean x))) := by
    rw [am_cell_z (H := (am_si H a i.toNatClampNeg x)) hs, hx]
    congr 4
    funext y
    show am_u2 (am_gi H) a i.toNatClampNeg x a y = upd (am_gi H a) i.toNatClampNeg x y
    simp [am_u2, upd]
  rw [am_ws_set (H := H) (H2 := am_si H a i.toNatClampNeg x) rfl e1 (fun b hb => am_cell_si hb)] at hP1 hD1
  exact kk l p e R s m args below meth c dC dI τ B0 ρ0 nx0 n0 z0 C ρ H1 locs1 cells slots ls ⟨S.1, ⟨hP1, hD1, S.2.1.2.2.1, S.2.1.2.2.2.1, Nat.le_trans C.2.2.2.2.2.2.2.2.2.1 hS1.1⟩, hS1, S.2.2.2⟩
theorem am_last {a n : Nat} {i : Int32} {x : Int64} (hd : decode M.2.1 pc = .ok (.lastore, 1)) (hs : am_sh H a = (102, n)) (ha : a < am_nx H) (hin : vp_in i n) (hq : pc + 1 = q) (kk : am_V ox d M q lv st (am_sl H a i.toNatClampNeg x) o H') : am_V ox d M pc lv (.long x :: .int i :: .ref a :: st) H o H' := by
  subst hq
  intro l p e R s m args below meth c dC dI τ B0 ρ0 nx0 n0 z0 C ρ hp locs cells slots ls S
  have hcell := am_ws_at (τ := τ) (ρ := ρ) ha
  rw [am_cell_l hs] at hcell
  refine va_last (D := (dC, dI)) C.1 C.2.1 C.2.2.2.2.2.2.2.1 S.2.1.1 S.2.1.2.1 S.2.2.1 a 2 hcell (am_tys_at rfl) hin hd (fun H1 locs1 hP1 hD1 hS1 => ?_)
  have e1 : am_cell τ ρ (am_sl H a i.toNatClampNeg x) a = .inl (τ 102, n, .inr (.inl (vp_updL (am_gl H a) i.toNatClampNeg x))) := by
    rw [am_cell_l (H := (am_sl H a i.toNatClampNeg x)) hs]
    congr 5
    funext y
    show am_u2 (am_gl H) a i.toNatClampNeg x a y = vp_updL (am_gl H a) i.toNatClampNeg x y
    simp [am_u2, vp_updL]
  rw [am_ws_set (H := H) (H2 := am_sl H a i.toNatClampNeg x) rfl e1 (fun b hb => am_cell_sl hb)] at hP1 hD1
  exact kk l p e R s m args below meth c dC dI τ B0 ρ0 nx0 n0 z0 C ρ H1 locs1 cells slots ls ⟨S.1, ⟨hP1, hD1, S.2.1.2.2.1, S.2.1.2.2.2.1, Nat.le_trans C.2.2.2.2.2.2.2.2.2.1 hS1.1⟩, hS1, S.2.2.2⟩
theorem am_aast {a n k t b N : Nat} {r : vw_C} {i : Int32} (hd : decode M.2.1 pc = .ok (.aastore, 1)) (hs : am_sh H a = (103 + k, n)) (hr : vwCl[k]? = some r) (h100 : k < 100) (ht : am_kinds[t]? = some (103 + k, .object r.1)) (ha : a < am_nx H) (hsb : am_sh H b = (k, N)) (hb : b < am_nx H) (hin : vp_in i n) (hq : pc + 1 = q) (kk : am_V ox d M q lv st (am_sr H a i.toNatClampNeg (some b)) o H') : am_V ox d M pc lv (.ref b :: .int i :: .ref a :: st) H o H' := by
  subst hq
  intro l p e R s m args below meth c dC dI τ B0 ρ0 nx0 n0 z0 C ρ hp locs cells slots ls S
  have hcell := am_ws_at (τ := τ) (ρ := ρ) ha
  rw [am_cell_q hs] at hcell
  have hcb := am_ws_at (τ := τ) (ρ := ρ) hb
  rw [am_cell_o hsb h100] at hcb
  refine va_astq (D := (dC, dI)) C.1 C.2.1 C.2.2.2.2.2.2.2.1 S.2.1.1 S.2.1.2.1 S.2.2.1 a t b k hcell (am_tys_at ht) hcb hr hin hd (fun H1 locs1 hP1 hD1 hS1 => ?_)
  have e1 : am_cell τ ρ (am_sr H a i.toNatClampNeg (some b)) a = .inl (τ (103 + k), n, .inr (.inr (.inr (.inr (va_up (fun i => (am_gr H a i).map ρ) i.toNatClampNeg (some (ρ b))))))) := by
    rw [am_cell_q (H := (am_sr H a i.toNatClampNeg (some b))) hs]
    congr 8
    funext y
    show (am_u2 (am_gr H) a i.toNatClampNeg (some b) a y).map ρ = va_up (fun i => (am_gr H a i).map ρ) i.toNatClampNeg (some (ρ b)) y
    by_cases hy : y = i.toNatClampNeg
    · simp [am_u2, va_up, hy]
    · simp [am_u2, va_up, hy]
  rw [am_ws_set (H := H) (H2 := am_sr H a i.toNatClampNeg (some b)) rfl e1 (fun x hx => am_cell_sr hx)] at hP1 hD1
  refine kk l p e R s m args below meth c dC dI τ B0 ρ0 nx0 n0 z0 C ρ H1 locs1 cells slots ls ⟨S.1, ⟨hP1, hD1, fun x j y hxy => ?_, S.2.1.2.2.2.1, Nat.le_trans C.2.2.2.2.2.2.2.2.2.1 hS1.1⟩, hS1, S.2.2.2⟩
  by_cases hx : x = a ∧ j = i.toNatClampNeg
  · obtain ⟨rfl, rfl⟩ := hx
    have e1 : am_gr (am_sr H x i.toNatClampNeg (some b)) x i.toNatClampNeg = some b := am_u2_self _ _ _ _
    cases e1.symm.trans hxy
    exact hb
  · have e1 : am_gr (am_sr H a i.toNatClampNeg (some b)) x j = am_gr H x j := am_u2_ne _ _ hx
    exact S.2.1.2.2.1 x j y (e1.symm.trans hxy)
theorem am_alen {a k n t : Nat} {ty : FieldType} {v : Int32} (hd : decode M.2.1 pc = .ok (.arraylength, 1)) (hs : am_sh H a = (k, n)) (hk : 100 ≤ k) (ht : am_kinds[t]? = some (k, ty)) (ha : a < am_nx H) (hv : Int32.ofNat n = v) (hq : pc + 1 = q) (kk : am_V ox d M q lv (.int v :: st) H o H') : am_V ox d M pc lv (.ref a :: st) H o H' := by
  subst hq
  intro l p e R s m args below meth c dC dI τ B0 ρ0 nx0 n0 z0 C ρ hp locs cells slots ls S
  have hcell := am_ws_at (τ := τ) (ρ := ρ) ha
  obtain ⟨z, hz⟩ : ∃ z, am_cell τ ρ H a = .inl (τ k, n, z) := by
    unfold am_cell
    rw [hs, if_neg (by omega)]
    by_cases h1 : k < 102
    · rw [if_pos h1]; exact ⟨_, rfl⟩
    · rw [if_neg h1]
      by_cases h2 : k < 103
      · rw [if_pos h2]; exact ⟨_, rfl⟩
      · rw [if_neg h2]; exact ⟨_, rfl⟩
  rw [hz] at hcell
  exact va_alen (D := (dC, dI)) C.1 C.2.1 C.2.2.2.2.2.2.2.1 S.2.1.1 a t hcell (am_tys_at ht) hv hd (kk l p e R s m args below meth c dC dI τ B0 ρ0 nx0 n0 z0 C ρ hp locs cells slots ls S)
end AMH
