/-! The reference's side. -/
def R3 (B : am_H) : Prop := ∀ k, okins (am_gi B 290 k) (am_gi B 291 k)
def R4 (E : Nat) (H : am_H) : Prop := ∀ t, t < 48 → t ≠ E → 1 ≤ (am_gi H 301 t).toInt → 1 ≤ (am_gi H 297 t).toInt
def km (B H : am_H) : Prop := am_nx H = am_nx B ∧ am_gl H = am_gl B ∧ am_gr H = am_gr B ∧ ∀ a, a < 320 → (ty a < 19 ∨ 20 ≤ ty a ∧ ty a ≤ 22) → am_gi H a = am_gi B a
def jm (N : Nat) (B : am_H) (E : Nat) (H : am_H) : Prop := wt N H ∧ R4 E H ∧ km B H
theorem km.si {B H : am_H} {a k T : Nat} {v : Int32} (h : km B H) (t : ty a = T) (hT : ¬ (T < 19 ∨ 20 ≤ T ∧ T ≤ 22)) : km B (am_si H a k v) := by
  refine ⟨h.1, h.2.1, h.2.2.1, fun x lx hx => ?_⟩
  rw [gi_rowne (fun q => by rw [q, t] at hx; exact hT hx)]
  exact h.2.2.2 x lx hx
theorem ty_m {b k : Nat} (l : b < 320) (t : ty b = 20 + k) : b = 289 + k := by
  have e : ∀ b, b < 320 → 20 ≤ ty b → b = ty b + 269 := by decide +kernel
  have := e b l (by omega)
  omega
section
variable {N E : Nat} {B H : am_H} {a k T : Nat}
theorem jm.up {N' : Nat} (h : jm N B E H) (hN : N ≤ N') : jm N' B E H := ⟨h.1.up hN, h.2⟩
theorem jm.l (h : jm N B E H) (l : a < 320) : a < am_nx H := h.1.l l
theorem jm.s (h : jm N B E H) (l : a < 320) (t : ty a = T) : am_sh H a = tsh T := h.1.s l t
theorem jm.i (h : jm N B E H) (l : a < 320) (t : ty a = T) {p : Int × Int} (e : ir N T k = p) : inr p (am_gi H a k) := h.1.i l t e
theorem jm.nx (h : jm N B E H) : am_nx H = am_nx B := h.2.2.1
theorem jm.mr (h : jm N B E H) {b : Nat} (hk : k < 30) (e : 289 + k = b) : am_gr H 288 k = some b := by
  obtain ⟨c, h1, h2, h3⟩ := h.1.r (a := 288) (k := k) (T := 19) (T' := 20 + k) (by decide) rfl (if_pos hk) (by omega)
  rw [h1, ty_m h2 h3, e]
theorem jm.row (h : jm N B E H) (l : a < 320) (t : ty a = T) (hT : T < 19 ∨ 20 ≤ T ∧ T ≤ 22) : am_gi H a = am_gi B a := h.2.2.2.2.2 a l (by rw [t]; exact hT)
theorem jm.ins (h : jm N B E H) (hR : R3 B) (k : Nat) : okins (am_gi H 290 k) (am_gi H 291 k) := by
  rw [h.row (a := 290) (T := 21) (by decide) rfl (by decide), h.row (a := 291) (T := 22) (by decide) rfl (by decide)]; exact hR k
theorem jm.w {v : Int32} (h : jm N B E H) (t : ty a = T) (hT : ¬ (T < 19 ∨ 20 ≤ T ∧ T ≤ 22)) (h1 : a ≠ 297) (h2 : a ≠ 301) (hr : inr (ir N T k) v) : jm N B E (am_si H a k v) := by
  refine ⟨h.1.si t hr, fun x lx hx => ?_, h.2.2.si t hT⟩
  rw [gi_rowne (fun q => h1 q.symm), gi_rowne (fun q => h2 q.symm)]
  exact h.2.1 x lx hx
theorem jm.wown {v : Int32} (h : jm N B E H) (hr : inr (1, 3) v) : jm N B E (am_si H 297 k v) := by
  refine ⟨h.1.si (T := 28) rfl (show inr (0, 3) v from ⟨Int.le_trans (by decide) hr.1, hr.2⟩), fun x lx hx h1 => ?_, h.2.2.si (T := 28) rfl (by decide)⟩
  rw [gi_rowne (by decide)] at h1
  rw [am_gi_si]
  by_cases q : x = k
  · rw [if_pos ⟨rfl, q⟩]; exact hr.1
  · rw [if_neg (fun z => q z.2)]; exact h.2.1 x lx hx h1
theorem jm.wownz {v : Int32} (h : jm N B E H) (hz : (am_gi H 301 k).toInt ≤ 0) (hr : inr (0, 3) v) : jm N B E (am_si H 297 k v) := by
  refine ⟨h.1.si (T := 28) rfl hr, fun x lx hx h1 => ?_, h.2.2.si (T := 28) rfl (by decide)⟩
  rw [gi_rowne (by decide)] at h1
  rw [am_gi_si]
  by_cases q : x = k
  · rw [q] at h1; omega
  · rw [if_neg (fun z => q z.2)]; exact h.2.1 x lx hx h1
theorem jm.wown0 {v : Int32} (h : jm N B 320 H) (hr : inr (0, 3) v) : jm N B k (am_si H 297 k v) := by
  refine ⟨h.1.si (T := 28) rfl hr, fun x lx hx h1 => ?_, h.2.2.si (T := 28) rfl (by decide)⟩
  rw [gi_rowne (by decide)] at h1
  rw [am_gi_si, if_neg (fun z => hx z.2)]
  exact h.2.1 x lx (by omega) h1
theorem jm.wend1 {v : Int32} (h : jm N B E H) (hq : 1 ≤ (am_gi H 297 k).toInt) (hr : inr (0, 1) v) : jm N B E (am_si H 301 k v) := by
  refine ⟨h.1.si (T := 32) rfl hr, fun x lx hx h1 => ?_, h.2.2.si (T := 32) rfl (by decide)⟩
  rw [gi_rowne (by decide)]
  by_cases q : x = k
  · rw [q]; exact hq
  · rw [am_gi_si, if_neg (fun z => q z.2)] at h1; exact h.2.1 x lx hx h1
theorem jm.wend0 (h : jm N B E H) : jm N B E (am_si H 301 k 0) := by
  refine ⟨h.1.si (T := 32) rfl (show inr (0, 1) 0 from ⟨by decide, by decide⟩), fun x lx hx h1 => ?_, h.2.2.si (T := 32) rfl (by decide)⟩
  rw [gi_rowne (by decide)]
  by_cases q : x = k
  · rw [am_gi_si, if_pos ⟨rfl, q⟩] at h1; exact absurd h1 (by decide)
  · rw [am_gi_si, if_neg (fun z => q z.2)] at h1; exact h.2.1 x lx hx h1
theorem jm.wendE (h : jm N B k H) : jm N B 320 (am_si H 301 k 0) := by
  refine ⟨h.1.si (T := 32) rfl (show inr (0, 1) 0 from ⟨by decide, by decide⟩), fun x lx hx h1 => ?_, h.2.2.si (T := 32) rfl (by decide)⟩
  rw [gi_rowne (by decide)]
  by_cases q : x = k
  · rw [am_gi_si, if_pos ⟨rfl, q⟩] at h1; exact absurd h1 (by decide)
  · rw [am_gi_si, if_neg (fun z => q z.2)] at h1; exact h.2.1 x lx q h1
theorem jm.own1 (h : jm N B 320 H) (l : k < 48) (h1 : 1 ≤ (am_gi H 301 k).toInt) : 1 ≤ (am_gi H 297 k).toInt := h.2.1 k l (by omega) h1
end
/-! Tokens: hands and queued ones are never more than the tasks that are queued or held. -/
def ind (x : Int32) : Int := if x.toInt ≤ 1 then 1 else 0
theorem ind_le (x : Int32) : 0 ≤ ind x ∧ ind x ≤ 1 := by unfold ind; split <;> omega
theorem ind_1 {x : Int32} (h : x.toInt ≤ 1) : ind x = 1 := if_pos h
theorem ind_0 {x : Int32} (h : 2 ≤ x.toInt) : ind x = 0 := if_neg (by omega)
def act (f : Nat → Int32) : Nat → Int
  | 0 => 0
  | n + 1 => act f n + ind (f n)
def h1 (x : Int32) : Int := if 0 ≤ x.toInt then 1 else 0
def dl (H : am_H) : Int := act (am_gi H 292) (am_gi H 288 30).toNatClampNeg - ((am_gi H 316 0).toInt + (am_gi H 316 1).toInt + (am_gi H 316 2).toInt) - (h1 (am_gi H 315 0) + h1 (am_gi H 315 1) + h1 (am_gi H 315 2))
theorem act_le {f : Nat → Int32} : ∀ n : Nat, 0 ≤ act f n ∧ act f n ≤ (n : Int)
  | 0 => ⟨Int.le_refl _, Int.le_refl _⟩
  | n + 1 => by
    have ih := act_le (f := f) n
    have := ind_le (f n)
    unfold act
    omega
theorem act_eq {f g : Nat → Int32} : ∀ n : Nat, (∀ k, k < n → f k = g k) → act f n = act g n
  | 0, _ => rfl
  | n + 1, h => by
    unfold act
    rw [act_eq n (fun k hk => h k (by omega)), h n (by omega)]
theorem act_set {f g : Nat → Int32} {k : Nat} (hg : ∀ j, j ≠ k → g j = f j) : ∀ n : Nat, (k < n → act g n = act f n + ind (g k) - ind (f k)) ∧ (¬ k < n → act g n = act f n)
  | 0 => ⟨fun h => by omega, fun _ => rfl⟩
  | n + 1 => by
    have ih := act_set hg n
    unfold act
    refine ⟨fun h => ?_, fun h => ?_⟩
    · by_cases hk : k = n
      · have := ih.2 (by omega)
        rw [this, hk]; omega
      · have := ih.1 (by omega)
        rw [this, hg n (fun q => hk q.symm)]; omega
    · have := ih.2 (by omega)
      rw [this, hg n (fun q => h (by omega))]
theorem act_out {f : Nat → Int32} {k : Nat} (h : 2 ≤ (f k).toInt) : ∀ n : Nat, k < n → act f n ≤ (n : Int) - 1
  | 0, h => by omega
  | n + 1, hk => by
    unfold act
    have := act_le (f := f) n
    have h1 := ind_le (f n)
    by_cases q : k = n
    · subst q; rw [ind_0 h]; omega
    · have := act_out h n (by omega)
      omega
section
variable {N E : Nat} {B H : am_H} {k : Nat} {v x : Int32}
theorem dl_ne {a : Nat} (h1 : a ≠ 292) (h2 : a ≠ 316) (h3 : a ≠ 315) (h4 : ¬ (a = 288 ∧ k = 30)) : dl (am_si H a k v) = dl H := by
  unfold dl
  rw [gi_rowne (fun q => h1 q.symm), gi_rowne (fun q => h2 q.symm), gi_rowne (fun q => h3 q.symm), gi_si rfl (fun q => h4 ⟨q.1.symm, q.2.symm⟩)]
theorem dl_rows {H1 : am_H} (e1 : am_gi H1 292 = am_gi H 292) (e2 : am_gi H1 316 = am_gi H 316) (e3 : am_gi H1 315 = am_gi H 315) (e4 : am_gi H1 288 = am_gi H 288) : dl H1 = dl H := by
  unfold dl; rw [e1, e2, e3, e4]
theorem dl_hand (hk : k < 3) : dl (am_si H 315 k v) = dl H + h1 (am_gi H 315 k) - h1 v := by
  unfold dl
  rw [gi_rowne (x := 292) (by decide), gi_rowne (x := 316) (by decide), gi_rowne (x := 288) (by decide)]
  rcases (by omega : k = 0 ∨ k = 1 ∨ k = 2) with q | q | q <;> subst q
  · rw [gi_set, gi_si (x := 315) (y := 1) rfl (by decide), gi_si (x := 315) (y := 2) rfl (by decide)]; omega
  · rw [gi_set, gi_si (x := 315) (y := 0) rfl (by decide), gi_si (x := 315) (y := 2) rfl (by decide)]; omega
  · rw [gi_set, gi_si (x := 315) (y := 0) rfl (by decide), gi_si (x := 315) (y := 1) rfl (by decide)]; omega
theorem dl_queued (hk : k < 3) : dl (am_si H 316 k v) = dl H + (am_gi H 316 k).toInt - v.toInt := by
  unfold dl
  rw [gi_rowne (x := 292) (by decide), gi_rowne (x := 315) (by decide), gi_rowne (x := 288) (by decide)]
  rcases (by omega : k = 0 ∨ k = 1 ∨ k = 2) with q | q | q <;> subst q
  · rw [gi_set, gi_si (x := 316) (y := 1) rfl (by decide), gi_si (x := 316) (y := 2) rfl (by decide)]; omega
  · rw [gi_set, gi_si (x := 316) (y := 0) rfl (by decide), gi_si (x := 316) (y := 2) rfl (by decide)]; omega
  · rw [gi_set, gi_si (x := 316) (y := 0) rfl (by decide), gi_si (x := 316) (y := 1) rfl (by decide)]; omega
theorem dl_state (hk : k < (am_gi H 288 30).toNatClampNeg) : dl (am_si H 292 k v) = dl H + ind v - ind (am_gi H 292 k) := by
  have := (act_set (f := am_gi H 292) (g := am_gi (am_si H 292 k v) 292) (k := k) (fun j hj => gi_si rfl (fun q => hj q.2)) (am_gi H 288 30).toNatClampNeg).1 hk
  rw [gi_set] at this
  unfold dl
  rw [gi_rowne (x := 316) (by decide), gi_rowne (x := 315) (by decide), gi_rowne (x := 288) (by decide), this]
  omega
theorem dl_stateN (hk : ¬ k < (am_gi H 288 30).toNatClampNeg) : dl (am_si H 292 k v) = dl H := by
  have := (act_set (f := am_gi H 292) (g := am_gi (am_si H 292 k v) 292) (k := k) (fun j hj => gi_si rfl (fun q => hj q.2)) (am_gi H 288 30).toNatClampNeg).2 hk
  unfold dl
  rw [gi_rowne (x := 316) (by decide), gi_rowne (x := 315) (by decide), gi_rowne (x := 288) (by decide), this]
theorem dl_state1 : dl H - 1 ≤ dl (am_si H 292 k v) := by
  have a := ind_le v
  have b := ind_le (am_gi H 292 k)
  by_cases hk : k < (am_gi H 288 30).toNatClampNeg
  · rw [dl_state hk]; omega
  · rw [dl_stateN hk]; omega
theorem dl_state0 (hv : v.toInt ≤ 1) : dl H ≤ dl (am_si H 292 k v) := by
  have a := ind_1 hv
  have b := ind_le (am_gi H 292 k)
  by_cases hk : k < (am_gi H 288 30).toNatClampNeg
  · rw [dl_state hk]; omega
  · rw [dl_stateN hk]; omega
theorem dl_wake (hv : v.toInt ≤ 1) (hk : k < (am_gi H 288 30).toNatClampNeg) (hx : 2 ≤ (am_gi H 292 k).toInt) : dl (am_si H 292 k v) = dl H + 1 := by
  rw [dl_state hk, ind_1 hv, ind_0 hx]; omega
theorem dl_tasks (h1 : 0 ≤ (am_gi H 288 30).toInt) (hv : v.toInt = (am_gi H 288 30).toInt + 1) : dl (am_si H 288 30 v) = dl H + ind (am_gi H 292 (am_gi H 288 30).toNatClampNeg) := by
  unfold dl
  rw [gi_rowne (x := 316) (by decide), gi_rowne (x := 315) (by decide), gi_rowne (x := 292) (by decide), gi_set]
  have e : v.toNatClampNeg = (am_gi H 288 30).toNatClampNeg + 1 := by
    have e1 : v.toNatClampNeg = v.toInt.toNat := rfl
    have e2 : (am_gi H 288 30).toNatClampNeg = (am_gi H 288 30).toInt.toNat := rfl
    omega
  rw [e]
  show act _ _ + _ - _ - _ = _
  omega
theorem jm.room {w : Nat} (h : jm N B E H) (hw : w < 3) (hd : 1 ≤ dl H) : (am_gi H 316 w).toInt ≤ 47 := by
  have a := act_le (f := am_gi H 292) (am_gi H 288 30).toNatClampNeg
  have t := h.i (a := 288) (T := 19) (k := 30) (p := (0, 48)) (by decide) rfl rfl
  have e2 : (am_gi H 288 30).toNatClampNeg = (am_gi H 288 30).toInt.toNat := rfl
  have q0 := h.i (a := 316) (T := 47) (k := 0) (p := (0, 48)) (by decide) rfl rfl
  have q1 := h.i (a := 316) (T := 47) (k := 1) (p := (0, 48)) (by decide) rfl rfl
  have q2 := h.i (a := 316) (T := 47) (k := 2) (p := (0, 48)) (by decide) rfl rfl
  have g : ∀ x, 0 ≤ h1 x := fun x => by unfold h1; split <;> omega
  have g0 := g (am_gi H 315 0)
  have g1 := g (am_gi H 315 1)
  have g2 := g (am_gi H 315 2)
  unfold dl at hd
  unfold inr at t q0 q1 q2
  simp only at t q0 q1 q2
  rcases (by omega : w = 0 ∨ w = 1 ∨ w = 2) with q | q | q <;> subst q <;> omega
theorem jm.room2 {w : Nat} (h : jm N B E H) (hw : w < 3) (hd : 0 ≤ dl H) (hk : k < (am_gi H 288 30).toNatClampNeg) (hx : 2 ≤ (am_gi H 292 k).toInt) : (am_gi H 316 w).toInt ≤ 47 := by
  have a := act_out hx _ hk
  have t := h.i (a := 288) (T := 19) (k := 30) (p := (0, 48)) (by decide) rfl rfl
  have e2 : (am_gi H 288 30).toNatClampNeg = (am_gi H 288 30).toInt.toNat := rfl
  have q0 := h.i (a := 316) (T := 47) (k := 0) (p := (0, 48)) (by decide) rfl rfl
  have q1 := h.i (a := 316) (T := 47) (k := 1) (p := (0, 48)) (by decide) rfl rfl
  have q2 := h.i (a := 316) (T := 47) (k := 2) (p := (0, 48)) (by decide) rfl rfl
  have g : ∀ x, 0 ≤ h1 x := fun x => by unfold h1; split <;> omega
  have g0 := g (am_gi H 315 0)
  have g1 := g (am_gi H 315 1)
  have g2 := g (am_gi H 315 2)
  unfold dl at hd
  unfold inr at t q0 q1 q2
  simp only at t q0 q1 q2
  rcases (by omega : w = 0 ∨ w = 1 ∨ w = 2) with q | q | q <;> subst q <;> omega
end
/-- rows that a quiet method of the reference leaves -/
def nd (H H1 : am_H) : Prop := am_gi H1 288 = am_gi H 288 ∧ am_gi H1 292 = am_gi H 292 ∧ am_gi H1 297 = am_gi H 297 ∧ am_gi H1 301 = am_gi H 301 ∧ am_gi H1 315 = am_gi H 315 ∧ am_gi H1 316 = am_gi H 316
theorem nd.rf {H : am_H} : nd H H := ⟨rfl, rfl, rfl, rfl, rfl, rfl⟩
theorem nd.trans {H H1 H2 : am_H} (h : nd H H1) (k : nd H1 H2) : nd H H2 := ⟨k.1.trans h.1, k.2.1.trans h.2.1, k.2.2.1.trans h.2.2.1, k.2.2.2.1.trans h.2.2.2.1, k.2.2.2.2.1.trans h.2.2.2.2.1, k.2.2.2.2.2.trans h.2.2.2.2.2⟩
theorem nd.si {H H1 : am_H} {a k : Nat} {v : Int32} (h : nd H H1) (ha : a ≠ 288 ∧ a ≠ 292 ∧ a ≠ 297 ∧ a ≠ 301 ∧ a ≠ 315 ∧ a ≠ 316) : nd H (am_si H1 a k v) :=
  ⟨(gi_rowne (fun q => ha.1 q.symm)).trans h.1, (gi_rowne (fun q => ha.2.1 q.symm)).trans h.2.1, (gi_rowne (fun q => ha.2.2.1 q.symm)).trans h.2.2.1, (gi_rowne (fun q => ha.2.2.2.1 q.symm)).trans h.2.2.2.1, (gi_rowne (fun q => ha.2.2.2.2.1 q.symm)).trans h.2.2.2.2.1, (gi_rowne (fun q => ha.2.2.2.2.2 q.symm)).trans h.2.2.2.2.2⟩
theorem nd.dl {H H1 : am_H} (h : nd H H1) : dl H1 = dl H := dl_rows h.2.1 h.2.2.2.2.2 h.2.2.2.2.1 h.1
theorem nd.hd {H H1 : am_H} (h : nd H H1) : am_gi H1 315 = am_gi H 315 := h.2.2.2.2.1
theorem nd.fr {H H1 : am_H} (h : nd H H1) : am_gi H1 288 38 = am_gi H 288 38 := congrFun h.1 38
/-- what an action on task t leaves -/
def ac (t : Nat) (H H1 : am_H) : Prop := am_gi H1 315 = am_gi H 315 ∧ am_gi H1 288 38 = am_gi H 288 38 ∧ (dl H ≤ dl H1 ∨ dl H - 1 ≤ dl H1 ∧ (am_gi H1 292 t).toInt ≠ 1)
theorem h1_sp (x : Int32) : 0 ≤ x.toInt ∧ h1 x = 1 ∨ x.toInt < 0 ∧ h1 x = 0 := by
  unfold h1
  by_cases h : 0 ≤ x.toInt
  · rw [if_pos h]; exact Or.inl ⟨h, rfl⟩
  · rw [if_neg h]; exact Or.inr ⟨by omega, rfl⟩
theorem dl_zero {H : am_H} (ht : am_gi H 288 30 = 0) (a0 : am_gi H 315 0 = -1) (a1 : am_gi H 315 1 = -1) (a2 : am_gi H 315 2 = -1) (q0 : am_gi H 316 0 = 0) (q1 : am_gi H 316 1 = 0) (q2 : am_gi H 316 2 = 0) : dl H = 0 := by
  unfold dl
  rw [ht, a0, a1, a2, q0, q1, q2]
  rfl
theorem nlt_of {x y : Int32} (h0 : 0 ≤ x.toInt) (h : x.toInt < y.toInt) : x.toNatClampNeg < y.toNatClampNeg := by
  have e1 : x.toNatClampNeg = x.toInt.toNat := rfl
  have e2 : y.toNatClampNeg = y.toInt.toNat := rfl
  omega
theorem l288 : 288 < 320 := by decide
theorem t288 : ty 288 = 19 := rfl
theorem l289 : 289 < 320 := by decide
theorem t289 : ty 289 = 20 := rfl
theorem l290 : 290 < 320 := by decide
theorem t290 : ty 290 = 21 := rfl
theorem l291 : 291 < 320 := by decide
theorem t291 : ty 291 = 22 := rfl
theorem l292 : 292 < 320 := by decide
theorem t292 : ty 292 = 23 := rfl
theorem l293 : 293 < 320 := by decide
theorem t293 : ty 293 = 24 := rfl
theorem l294 : 294 < 320 := by decide
theorem t294 : ty 294 = 25 := rfl
theorem l295 : 295 < 320 := by decide
theorem t295 : ty 295 = 26 := rfl
theorem l296 : 296 < 320 := by decide
theorem t296 : ty 296 = 27 := rfl
theorem l297 : 297 < 320 := by decide
theorem t297 : ty 297 = 28 := rfl
theorem l298 : 298 < 320 := by decide
theorem t298 : ty 298 = 29 := rfl
theorem l299 : 299 < 320 := by decide
theorem t299 : ty 299 = 30 := rfl
theorem l300 : 300 < 320 := by decide
theorem t300 : ty 300 = 31 := rfl
theorem l301 : 301 < 320 := by decide
theorem t301 : ty 301 = 32 := rfl
theorem l302 : 302 < 320 := by decide
theorem t302 : ty 302 = 33 := rfl
theorem l303 : 303 < 320 := by decide
theorem t303 : ty 303 = 34 := rfl
theorem l304 : 304 < 320 := by decide
theorem t304 : ty 304 = 35 := rfl
theorem l305 : 305 < 320 := by decide
theorem t305 : ty 305 = 36 := rfl
theorem l306 : 306 < 320 := by decide
theorem t306 : ty 306 = 37 := rfl
theorem l307 : 307 < 320 := by decide
theorem t307 : ty 307 = 38 := rfl
theorem l308 : 308 < 320 := by decide
theorem t308 : ty 308 = 39 := rfl
theorem l309 : 309 < 320 := by decide
theorem t309 : ty 309 = 40 := rfl
theorem l310 : 310 < 320 := by decide
theorem t310 : ty 310 = 41 := rfl
theorem l311 : 311 < 320 := by decide
theorem t311 : ty 311 = 42 := rfl
theorem l312 : 312 < 320 := by decide
theorem t312 : ty 312 = 43 := rfl
theorem l313 : 313 < 320 := by decide
theorem t313 : ty 313 = 44 := rfl
theorem l314 : 314 < 320 := by decide
theorem t314 : ty 314 = 45 := rfl
theorem l315 : 315 < 320 := by decide
theorem t315 : ty 315 = 46 := rfl
theorem l316 : 316 < 320 := by decide
theorem t316 : ty 316 = 47 := rfl
theorem l317 : 317 < 320 := by decide
theorem t317 : ty 317 = 48 := rfl
theorem l318 : 318 < 320 := by decide
theorem t318 : ty 318 = 49 := rfl
