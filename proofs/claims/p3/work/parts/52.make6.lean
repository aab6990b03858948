/-! The class's own constructors: rows of Bodies, Tasks, Phasers, Workers, at the places where the law's first object lays them. -/
/-- nothing of the rows from lo to hi has changed -/
def am_Kp (lo hi : Nat) (H H1 : am_H) : Prop := ∀ x, lo ≤ x → x < hi → am_sh H1 x = am_sh H x ∧ am_gr H1 x = am_gr H x ∧ am_gi H1 x = am_gi H x
theorem am_Kp.trans {lo hi : Nat} {H H1 H2 : am_H} (h : am_Kp lo hi H H1) (h2 : am_Kp lo hi H1 H2) : am_Kp lo hi H H2 := fun x a b => by
  obtain ⟨p1, p2, p3⟩ := h x a b
  obtain ⟨q1, q2, q3⟩ := h2 x a b
  exact ⟨q1.trans p1, q2.trans p2, q3.trans p3⟩
theorem am_Kp.sub {lo hi l h : Nat} {H H1 : am_H} (k : am_Kp lo hi H H1) (h1 : lo ≤ l) (h2 : h ≤ hi) : am_Kp l h H H1 := fun x a b => k x (by omega) (by omega)
theorem am_Kp.nw {lo hi k m : Nat} {H : am_H} (h : hi ≤ am_nx H) : am_Kp lo hi H (am_nw H k m) := fun x _ b => by
  have hx : x ≠ am_nx H := by omega
  exact ⟨va_up_ne _ _ hx, funext fun y => if_neg hx, funext fun y => if_neg hx⟩
theorem am_Kp.sr {lo hi a k : Nat} {v : Option Nat} {H : am_H} (h : a < lo ∨ hi ≤ a) : am_Kp lo hi H (am_sr H a k v) := fun x h1 h2 => ⟨rfl, funext fun y => if_neg (fun q => by have := q.1; omega), rfl⟩
theorem am_Kp.si {lo hi a k : Nat} {v : Int32} {H : am_H} (h : a < lo ∨ hi ≤ a) : am_Kp lo hi H (am_si H a k v) := fun x h1 h2 => ⟨rfl, rfl, funext fun y => if_neg (fun q => by have := q.1; omega)⟩
theorem am_Same.kp {a n lo hi : Nat} {H H1 : am_H} (h : am_Same a n H H1) (h1 : hi ≤ n) (h2 : a < lo ∨ hi ≤ a) : am_Kp lo hi H H1 := fun x p q => by
  obtain ⟨g1, g2, g3, -⟩ := h x (by omega) (by omega)
  exact ⟨g1, g2, g3⟩
def am_zr (x : Nat) (H : am_H) : Prop := (∀ i, am_gr H x i = none) ∧ ∀ i, am_gi H x i = 0
theorem am_zr.kp {x lo hi : Nat} {H H1 : am_H} (h : am_zr x H) (k : am_Kp lo hi H H1) (h1 : lo ≤ x) (h2 : x < hi) : am_zr x H1 := by
  obtain ⟨-, k2, k3⟩ := k x h1 h2
  exact ⟨fun i => by rw [k2]; exact h.1 i, fun i => by rw [k3]; exact h.2 i⟩
def ly_B (b : Nat) (H : am_H) : Prop := am_sh H (2 + 3 * b) = (0, am_Nf 0) ∧ am_gr H (2 + 3 * b) 0 = some (3 + 3 * b) ∧ am_gr H (2 + 3 * b) 1 = some (4 + 3 * b) ∧ am_gi H (2 + 3 * b) 2 = 0 ∧ am_sh H (3 + 3 * b) = (100, 16) ∧ am_sh H (4 + 3 * b) = (100, 16) ∧ am_zr (3 + 3 * b) H ∧ am_zr (4 + 3 * b) H
theorem ly_B.kp {b : Nat} {H H1 : am_H} (h : ly_B b H) (k : am_Kp (2 + 3 * b) (5 + 3 * b) H H1) : ly_B b H1 := by
  obtain ⟨h1, h2, h3, h4, h5, h6, h7, h8⟩ := h
  obtain ⟨a1, a2, a3⟩ := k (2 + 3 * b) (by omega) (by omega)
  obtain ⟨b1, -, -⟩ := k (3 + 3 * b) (by omega) (by omega)
  obtain ⟨c1, -, -⟩ := k (4 + 3 * b) (by omega) (by omega)
  exact ⟨a1.trans h1, by rw [a2]; exact h2, by rw [a2]; exact h3, by rw [a3]; exact h4, b1.trans h5, c1.trans h6, h7.kp k (by omega) (by omega), h8.kp k (by omega) (by omega)⟩
def iv_6 (b : Nat) (H : am_H) : Prop := am_nx H = 2 + 3 * b ∧ am_sh H 0 = (6, am_Nf 6) ∧ am_gr H 0 0 = some 1 ∧ am_sh H 1 = (103 + 0, 8) ∧ (∀ i, i < b → am_gr H 1 i = some (2 + 3 * i)) ∧ ∀ i, i < b → ly_B i H
set_option maxRecDepth 100000 in
set_option maxHeartbeats 4000000 in
theorem lp_6 {ox : List (Nat × (Nat → Int32))} {d : Nat} {P : Option Value ⊕ String → am_H → Prop} (kx : ∀ H8, iv_6 8 H8 → am_E ox (d + 2) mX6_init 40 [(1, .int 8), (0, .ref 0)] [] H8 P) : ∀ (k b : Nat) (H : am_H), b + k = 8 → iv_6 b H → am_E ox (d + 2) mX6_init 15 [(1, .int (nI b)), (0, .ref 0)] [] H P := by
  intro k
  induction k with
  | zero =>
    intro b H hb h
    obtain rfl : b = 8 := by omega
    refine ae_iload_n (q := 16) dX6_init_15 rfl rfl rfl ?_
    refine ae_bipush (v := 8) (q := 18) dX6_init_16 (by decide) rfl ?_
    refine ae_icmp_ge (t := 40) (q := 21) dX6_init_18 (by decide) rfl (fun _ => ?_) (fun c => absurd (nI_le (a := 8) (b := 8) (Nat.le_refl _) (by decide)) c)
    exact kx H h
  | succ k ih =>
    intro b H hb h
    have hb8 : b < 8 := by omega
    obtain ⟨h1, h2, h3, h4, h5, h6⟩ := h
    refine ae_iload_n (q := 16) dX6_init_15 rfl rfl rfl ?_
    refine ae_bipush (v := 8) (q := 18) dX6_init_16 (by decide) rfl ?_
    refine ae_icmp_ge (t := 40) (q := 21) dX6_init_18 (by decide) rfl (fun c => absurd c (nI_ge (a := b) (b := 8) hb8 (by decide))) (fun _ => ?_)
    refine ae_aload_n (q := 22) dX6_init_21 rfl rfl rfl ?_
    refine ae_getR (q := 25) dX6_init_22 fl_X6_11 rfl h2 (by omega) h3 rfl ?_
    refine ae_iload_n (q := 26) dX6_init_25 rfl rfl rfl ?_
    refine ae_new (q := 29) dX6_init_26 cn_X6_9 (by intro x hx; simp only [List.mem_cons, List.not_mem_nil, or_false] at hx; rcases hx with rfl | rfl <;> first | trivial | exact am_okr (by omega)) (by intro x hx; simp only [List.mem_cons, List.not_mem_nil, or_false] at hx; rcases hx with rfl | rfl <;> first | trivial | exact am_okr (by omega)) (by omega) rfl ?_
    rw [h1]
    refine ae_gen (fun G eG => ?_)
    have g1 : am_nx G = 3 + 3 * b := by rw [eG]; show am_nx H + 1 = _; omega
    have gk : am_Kp 0 (2 + 3 * b) H G := by rw [eG]; exact am_Kp.nw (by omega)
    have gs : am_sh G (2 + 3 * b) = (0, am_Nf 0) := by rw [eG, ← h1]; exact am_sh_nw
    have gz : am_gi G (2 + 3 * b) 2 = 0 := by rw [eG, ← h1]; exact gi_fresh
    refine ae_dup (q := 30) dX6_init_29 rfl rfl ?_
    refine ae_callI (as := []) (b := 2 + 3 * b) (st := [.ref (2 + 3 * b), .int (nI b), .ref 1]) (q := 33) dX6_init_30 (e_X0_init (d := d) g1 (by omega) (by omega) gs gz) myX0_init rfl rfl lk_X6_15 im_X0_init rfl rfl (Nat.le_of_ble_eq_true rfl) rfl (fun o H1 h => h.1) (fun G1 hG => ?_)
    obtain ⟨-, e1, e2, e3, e4, e5, e6, e7, e8, e9, e10⟩ := hG
    refine ⟨Or.inr ⟨by omega, by intro x hx; simp only [List.mem_cons, List.not_mem_nil, or_false] at hx; rcases hx with rfl | rfl | rfl <;> first | trivial | exact am_okr (by omega), by intro x hx; simp only [List.mem_cons, List.not_mem_nil, or_false] at hx; rcases hx with rfl | rfl <;> first | trivial | exact am_okr (by omega)⟩, ?_⟩
    have kk : am_Kp 0 (2 + 3 * b) H G1 := gk.trans (e2.kp (by omega) (by omega))
    have s1 : am_sh G1 1 = (103 + 0, 8) := (kk 1 (by omega) (by omega)).1.trans h4
    refine ae_aast (t := 3) (q := 34) dX6_init_33 s1 rfl (by decide) rfl (by omega) e3 (by omega) (vp_in_nI hb8 (by decide)) rfl ?_
    rw [nI_clamp (show b < 2 ^ 31 by omega)]
    refine ae_iinc (v := nI (b + 1)) (lv' := [(1, .int (nI (b + 1))), (0, .ref 0)]) (q := 37) dX6_init_34 rfl (nI_1 b) (by decide) rfl rfl ?_
    refine ae_goto (q := 15) dX6_init_37 (by decide) ?_
    refine ih (b + 1) _ (by omega) ⟨?_, ?_, ?_, ?_, fun i hi => ?_, fun i hi => ?_⟩
    · show am_nx G1 = _; omega
    · exact (kk 0 (by omega) (by omega)).1.trans h2
    · refine gr_sr ?_ (by omega); rw [(kk 0 (by omega) (by omega)).2.1]; exact h3
    · exact s1
    · by_cases hib : i = b
      · subst hib; exact gr_set
      · refine gr_sr ?_ (fun q => hib q.2); rw [(kk 1 (by omega) (by omega)).2.1]; exact h5 i (by omega)
    · by_cases hib : i = b
      · subst hib
        have q9 : ly_B i G1 := ⟨e3, by rw [e4], by rw [e5, show 3 + 3 * i + 1 = 4 + 3 * i by omega], e6, e7, by rw [show 4 + 3 * i = 3 + 3 * i + 1 by omega]; exact e8, e9, by rw [show 4 + 3 * i = 3 + 3 * i + 1 by omega]; exact e10⟩
        exact q9.kp (am_Kp.sr (by omega))
      · exact ((h6 i (by omega)).kp (kk.sub (by omega) (by omega))).kp (am_Kp.sr (by omega))
