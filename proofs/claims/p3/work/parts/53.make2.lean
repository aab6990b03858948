/-! The class's run: its constructor's loops. -/
def am_Kx (lim A : Nat) (H H1 : am_H) : Prop := ∀ x, x < lim → x ≠ A → am_sh H1 x = am_sh H x ∧ am_gr H1 x = am_gr H x ∧ am_gi H1 x = am_gi H x
theorem am_Kx.of {lim A a k : Nat} {v : Option Nat} {H G H1 : am_H} (h : am_Kp 0 lim H G) (e : H1 = am_sr G A k v) : am_Kx lim A H H1 := fun x h1 h2 => by
  subst e
  obtain ⟨p1, p2, p3⟩ := h x (Nat.zero_le _) h1
  exact ⟨p1, (funext fun y => if_neg (fun q => h2 q.1) : am_gr (am_sr G A k v) x = am_gr G x).trans p2, p3⟩
def ly_T (t : Nat) (H : am_H) : Prop := am_sh H (29 + 5 * t) = (4, am_Nf 4) ∧ am_gi H (29 + 5 * t) 0 = nI t ∧ am_gr H (29 + 5 * t) 1 = some (30 + 5 * t) ∧ am_gr H (29 + 5 * t) 3 = some 27 ∧ (am_gi H (29 + 5 * t) 2 = 0 ∧ am_gi H (29 + 5 * t) 4 = 0 ∧ am_gi H (29 + 5 * t) 5 = 0 ∧ am_gi H (29 + 5 * t) 6 = 0 ∧ am_gi H (29 + 5 * t) 7 = 0 ∧ am_gi H (29 + 5 * t) 8 = 0 ∧ am_gi H (29 + 5 * t) 9 = 0) ∧ am_sh H (30 + 5 * t) = (103 + 3, 3) ∧ (∀ i, i < 3 → am_gr H (30 + 5 * t) i = some (31 + 5 * t + i) ∧ am_sh H (31 + 5 * t + i) = (3, am_Nf 3) ∧ am_zr (31 + 5 * t + i) H)
theorem ly_T.kp {t : Nat} {H H1 : am_H} (h : ly_T t H) (k : am_Kp (29 + 5 * t) (34 + 5 * t) H H1) : ly_T t H1 := by
  obtain ⟨h1, h2, h3, h4, ⟨g2, g4, g5, g6, g7, g8, g9⟩, h5, h6⟩ := h
  obtain ⟨a1, a2, a3⟩ := k (29 + 5 * t) (by omega) (by omega)
  obtain ⟨b1, b2, -⟩ := k (30 + 5 * t) (by omega) (by omega)
  refine ⟨a1.trans h1, by rw [a3]; exact h2, by rw [a2]; exact h3, by rw [a2]; exact h4, by rw [a3]; exact ⟨g2, g4, g5, g6, g7, g8, g9⟩, b1.trans h5, fun i hi => ?_⟩
  obtain ⟨c1, c2, c3⟩ := h6 i hi
  exact ⟨by rw [b2]; exact c1, (k (31 + 5 * t + i) (by omega) (by omega)).1.trans c2, c3.kp k (by omega) (by omega)⟩
def ly_P (p : Nat) (H : am_H) : Prop := am_sh H (270 + 4 * p) = (1, am_Nf 1) ∧ am_gi H (270 + 4 * p) 0 = 0 ∧ ∀ i, i < 3 → am_gr H (270 + 4 * p) (1 + i) = some (271 + 4 * p + i) ∧ am_sh H (271 + 4 * p + i) = (100, 48) ∧ am_zr (271 + 4 * p + i) H
theorem ly_P.kp {p : Nat} {H H1 : am_H} (h : ly_P p H) (k : am_Kp (270 + 4 * p) (274 + 4 * p) H H1) : ly_P p H1 := by
  obtain ⟨h1, h2, h3⟩ := h
  obtain ⟨a1, a2, a3⟩ := k (270 + 4 * p) (by omega) (by omega)
  refine ⟨a1.trans h1, by rw [a3]; exact h2, fun i hi => ?_⟩
  obtain ⟨c1, c2, c3⟩ := h3 i hi
  exact ⟨by rw [a2]; exact c1, (k (271 + 4 * p + i) (by omega) (by omega)).1.trans c2, c3.kp k (by omega) (by omega)⟩
def ly_W (w : Nat) (H : am_H) : Prop := am_sh H (279 + 2 * w) = (5, am_Nf 5) ∧ am_gr H (279 + 2 * w) 0 = some (280 + 2 * w) ∧ am_gi H (279 + 2 * w) 1 = 0 ∧ am_gi H (279 + 2 * w) 2 = (-1) ∧ am_sh H (280 + 2 * w) = (100, 48) ∧ am_zr (280 + 2 * w) H
theorem ly_W.kp {w : Nat} {H H1 : am_H} (h : ly_W w H) (k : am_Kp (279 + 2 * w) (281 + 2 * w) H H1) : ly_W w H1 := by
  obtain ⟨h1, h2, h3, h4, h5, h6⟩ := h
  obtain ⟨a1, a2, a3⟩ := k (279 + 2 * w) (by omega) (by omega)
  exact ⟨a1.trans h1, by rw [a2]; exact h2, by rw [a3]; exact h3, by rw [a3]; exact h4, (k (280 + 2 * w) (by omega) (by omega)).1.trans h5, h6.kp k (by omega) (by omega)⟩
def iv_T (Z : am_H → Prop) (b : Nat) (H : am_H) : Prop := am_nx H = 29 + 5 * b ∧ Z H ∧ am_sh H 28 = (103 + 4, 48) ∧ (∀ i, i < b → am_gr H 28 i = some (29 + 5 * i)) ∧ ∀ i, i < b → ly_T i H
set_option maxRecDepth 100000 in
set_option maxHeartbeats 4000000 in
theorem lp_T {ox : List (Nat × (Nat → Int32))} {d : Nat} {P : Option Value ⊕ String → am_H → Prop} {Z : am_H → Prop} (hZ : ∀ H H1, am_Kx 29 28 H H1 → Z H → Z H1) (hz : ∀ H, Z H → am_sh H 26 = (2, am_Nf 2) ∧ am_gr H 26 1 = some 28 ∧ am_gr H 26 3 = some 27) (kx : ∀ H8, iv_T Z 48 H8 → am_E ox (d + 3) mX2_init 61 [(2, .int 48), (0, .ref 26), (1, .ref 1)] [] H8 P) : ∀ (k b : Nat) (H : am_H), b + k = 48 → iv_T Z b H → am_E ox (d + 3) mX2_init 31 [(2, .int (nI b)), (0, .ref 26), (1, .ref 1)] [] H P := by
  intro k
  induction k with
  | zero =>
    intro b H hb h
    obtain rfl : b = 48 := by omega
    refine ae_iload_n (q := 32) dX2_init_31 rfl rfl rfl ?_
    refine ae_bipush (v := 48) (q := 34) dX2_init_32 (by decide) rfl ?_
    refine ae_icmp_ge (t := 61) (q := 37) dX2_init_34 (by decide) rfl (fun _ => ?_) (fun c => absurd (nI_le (a := 48) (b := 48) (Nat.le_refl _) (by decide)) c)
    exact kx H h
  | succ k ih =>
    intro b H hb h
    have hbN : b < 48 := by omega
    obtain ⟨h1, h2, h4, h5, h6⟩ := h
    obtain ⟨z1, z2, z3⟩ := hz H h2
    refine ae_iload_n (q := 32) dX2_init_31 rfl rfl rfl ?_
    refine ae_bipush (v := 48) (q := 34) dX2_init_32 (by decide) rfl ?_
    refine ae_icmp_ge (t := 61) (q := 37) dX2_init_34 (by decide) rfl (fun c => absurd c (nI_ge (a := b) (b := 48) hbN (by decide))) (fun _ => ?_)
    refine ae_aload_n (q := 38) dX2_init_37 rfl rfl rfl ?_
    refine ae_getR (q := 41) dX2_init_38 fl_X2_24 rfl z1 (by omega) z2 rfl ?_
    refine ae_iload_n (q := 42) dX2_init_41 rfl rfl rfl ?_
    refine ae_new (q := 45) dX2_init_42 cn_X2_22 (by intro x hx; simp only [List.mem_cons, List.not_mem_nil, or_false] at hx; rcases hx with rfl | rfl <;> first | trivial | exact am_okr (by omega)) (by intro x hx; simp only [List.mem_cons, List.not_mem_nil, or_false] at hx; rcases hx with rfl | rfl | rfl <;> first | trivial | exact am_okr (by omega)) (by omega) rfl ?_
    rw [h1]
    refine ae_gen (fun G eG => ?_)
    have g1 : am_nx G = 30 + 5 * b := by rw [eG]; show am_nx H + 1 = _; omega
    have gk : am_Kp 0 (29 + 5 * b) H G := by rw [eG]; exact am_Kp.nw (by omega)
    have gs : am_sh G (29 + 5 * b) = (4, am_Nf 4) := by rw [eG, ← h1]; exact am_sh_nw
    have gz : ∀ y, am_gi G (29 + 5 * b) y = 0 := by rw [eG, ← h1]; exact fun _ => gi_fresh
    refine ae_dup (q := 46) dX2_init_45 rfl rfl ?_
    refine ae_iload_n (q := 47) dX2_init_46 rfl rfl rfl ?_
    refine ae_aload_n (q := 48) dX2_init_47 rfl rfl rfl ?_
    refine ae_getR (q := 51) dX2_init_48 fl_X2_18 rfl ((gk 26 (by omega) (by omega)).1.trans z1) (by omega) (show am_gr G 26 3 = some 27 by rw [(gk 26 (by omega) (by omega)).2.1]; exact z3) rfl ?_
    refine ae_callI (as := [.int (nI b), .ref 27]) (b := 29 + 5 * b) (st := [.ref (29 + 5 * b), .int (nI b), .ref 28]) (q := 54) dX2_init_51 (e_X4_init (d := d) g1 (by omega) (by omega) (by omega) gs (gz 2) (gz 4) (gz 5) (gz 6) (gz 7) (gz 8) (gz 9)) myX4_init rfl rfl lk_X2_28 im_X4_init rfl rfl (Nat.le_of_ble_eq_true rfl) rfl (fun o H1 h => h.1) (fun G1 hG => ?_)
    obtain ⟨-, e1, e2, e3, e4, e5, e6, f2, f4, f5, f6, f7, f8, f9, e7, e8, e9, e10, e11, e12, e13, e14, e15, e16⟩ := hG
    refine ⟨Or.inr ⟨by omega, by intro x hx; simp only [List.mem_cons, List.not_mem_nil, or_false] at hx; rcases hx with rfl | rfl | rfl <;> first | trivial | exact am_okr (by omega), by intro x hx; simp only [List.mem_cons, List.not_mem_nil, or_false] at hx; rcases hx with rfl | rfl | rfl <;> first | trivial | exact am_okr (by omega)⟩, ?_⟩
    have kk : am_Kp 0 (29 + 5 * b) H G1 := gk.trans (e2.kp (by omega) (by omega))
    have s1 : am_sh G1 28 = (103 + 4, 48) := (kk 28 (by omega) (by omega)).1.trans h4
    refine ae_aast (t := 6) (q := 55) dX2_init_54 s1 rfl (by decide) rfl (by omega) e3 (by omega) (vp_in_nI hbN (by decide)) rfl ?_
    rw [nI_clamp (show b < 2 ^ 31 by omega)]
    refine ae_iinc (v := nI (b + 1)) (lv' := [(2, .int (nI (b + 1))), (0, .ref 26), (1, .ref 1)]) (q := 58) dX2_init_55 rfl (nI_1 b) (by decide) rfl rfl ?_
    refine ae_goto (q := 31) dX2_init_58 (by decide) ?_
    refine ih (b + 1) _ (by omega) ⟨?_, hZ H _ (am_Kx.of (a := 0) (kk.sub (Nat.le_refl _) (by omega)) rfl) h2, s1, fun i hi => ?_, fun i hi => ?_⟩
    · show am_nx G1 = _; omega
    · by_cases hib : i = b
      · subst hib; exact gr_set
      · refine gr_sr ?_ (fun q => hib q.2); rw [(kk 28 (by omega) (by omega)).2.1]; exact h5 i (by omega)
    · by_cases hib : i = b
      · subst hib
        have q9 : ly_T i G1 := ⟨e3, e4, by rw [e5], e6, ⟨f2, f4, f5, f6, f7, f8, f9⟩, e7, fun j hj => by
          rcases (show j = 0 ∨ j = 1 ∨ j = 2 by omega) with rfl | rfl | rfl
          · exact ⟨by rw [e8, show 30 + 5 * i + 1 = 31 + 5 * i + 0 by omega], by rw [show 31 + 5 * i + 0 = 30 + 5 * i + 1 by omega]; exact e11, by rw [show 31 + 5 * i + 0 = 30 + 5 * i + 1 by omega]; exact e14⟩
          · exact ⟨by rw [e9, show 30 + 5 * i + 2 = 31 + 5 * i + 1 by omega], by rw [show 31 + 5 * i + 1 = 30 + 5 * i + 2 by omega]; exact e12, by rw [show 31 + 5 * i + 1 = 30 + 5 * i + 2 by omega]; exact e15⟩
          · exact ⟨by rw [e10, show 30 + 5 * i + 3 = 31 + 5 * i + 2 by omega], by rw [show 31 + 5 * i + 2 = 30 + 5 * i + 3 by omega]; exact e13, by rw [show 31 + 5 * i + 2 = 30 + 5 * i + 3 by omega]; exact e16⟩⟩
        exact q9.kp (am_Kp.sr (by omega))
      · exact ((h6 i (by omega)).kp (kk.sub (by omega) (by omega))).kp (am_Kp.sr (by omega))
def iv_P (Z : am_H → Prop) (b : Nat) (H : am_H) : Prop := am_nx H = 270 + 4 * b ∧ Z H ∧ am_sh H 269 = (103 + 1, 2) ∧ (∀ i, i < b → am_gr H 269 i = some (270 + 4 * i)) ∧ ∀ i, i < b → ly_P i H
set_option maxRecDepth 100000 in
set_option maxHeartbeats 4000000 in
theorem lp_P {ox : List (Nat × (Nat → Int32))} {d : Nat} {P : Option Value ⊕ String → am_H → Prop} {Z : am_H → Prop} (hZ : ∀ H H1, am_Kx 270 269 H H1 → Z H → Z H1) (hz : ∀ H, Z H → am_sh H 26 = (2, am_Nf 2) ∧ am_gr H 26 4 = some 269 ∧ am_gr H 26 3 = some 27) (kx : ∀ H8, iv_P Z 2 H8 → am_E ox (d + 3) mX2_init 95 [(2, .int 2), (0, .ref 26), (1, .ref 1)] [] H8 P) : ∀ (k b : Nat) (H : am_H), b + k = 2 → iv_P Z b H → am_E ox (d + 3) mX2_init 71 [(2, .int (nI b)), (0, .ref 26), (1, .ref 1)] [] H P := by
  intro k
  induction k with
  | zero =>
    intro b H hb h
    obtain rfl : b = 2 := by omega
    refine ae_iload_n (q := 72) dX2_init_71 rfl rfl rfl ?_
    refine ae_iconst (v := 2) (q := 73) dX2_init_72 (by decide) rfl ?_
    refine ae_icmp_ge (t := 95) (q := 76) dX2_init_73 (by decide) rfl (fun _ => ?_) (fun c => absurd (nI_le (a := 2) (b := 2) (Nat.le_refl _) (by decide)) c)
    exact kx H h
  | succ k ih =>
    intro b H hb h
    have hbN : b < 2 := by omega
    obtain ⟨h1, h2, h4, h5, h6⟩ := h
    obtain ⟨z1, z2, z3⟩ := hz H h2
    refine ae_iload_n (q := 72) dX2_init_71 rfl rfl rfl ?_
    refine ae_iconst (v := 2) (q := 73) dX2_init_72 (by decide) rfl ?_
    refine ae_icmp_ge (t := 95) (q := 76) dX2_init_73 (by decide) rfl (fun c => absurd c (nI_ge (a := b) (b := 2) hbN (by decide))) (fun _ => ?_)
    refine ae_aload_n (q := 77) dX2_init_76 rfl rfl rfl ?_
    refine ae_getR (q := 80) dX2_init_77 fl_X2_33 rfl z1 (by omega) z2 rfl ?_
    refine ae_iload_n (q := 81) dX2_init_80 rfl rfl rfl ?_
    refine ae_new (q := 84) dX2_init_81 cn_X2_31 (by intro x hx; simp only [List.mem_cons, List.not_mem_nil, or_false] at hx; rcases hx with rfl | rfl <;> first | trivial | exact am_okr (by omega)) (by intro x hx; simp only [List.mem_cons, List.not_mem_nil, or_false] at hx; rcases hx with rfl | rfl | rfl <;> first | trivial | exact am_okr (by omega)) (by omega) rfl ?_
    rw [h1]
    refine ae_gen (fun G eG => ?_)
    have g1 : am_nx G = 271 + 4 * b := by rw [eG]; show am_nx H + 1 = _; omega
    have gk : am_Kp 0 (270 + 4 * b) H G := by rw [eG]; exact am_Kp.nw (by omega)
    have gs : am_sh G (270 + 4 * b) = (1, am_Nf 1) := by rw [eG, ← h1]; exact am_sh_nw
    have gz : ∀ y, am_gi G (270 + 4 * b) y = 0 := by rw [eG, ← h1]; exact fun _ => gi_fresh
    refine ae_dup (q := 85) dX2_init_84 rfl rfl ?_
    refine ae_callI (as := []) (b := 270 + 4 * b) (st := [.ref (270 + 4 * b), .int (nI b), .ref 269]) (q := 88) dX2_init_85 (e_X1_init (d := d + 1) g1 (by omega) (by omega) gs (gz 0)) myX1_init rfl rfl lk_X2_37 im_X1_init rfl rfl (Nat.le_of_ble_eq_true rfl) rfl (fun o H1 h => h.1) (fun G1 hG => ?_)
    obtain ⟨-, e1, e2, e3, e4, e5, e6, e7, e8, e9, e10, e11, e12, e13⟩ := hG
    refine ⟨Or.inr ⟨by omega, by intro x hx; simp only [List.mem_cons, List.not_mem_nil, or_false] at hx; rcases hx with rfl | rfl | rfl <;> first | trivial | exact am_okr (by omega), by intro x hx; simp only [List.mem_cons, List.not_mem_nil, or_false] at hx; rcases hx with rfl | rfl | rfl <;> first | trivial | exact am_okr (by omega)⟩, ?_⟩
    have kk : am_Kp 0 (270 + 4 * b) H G1 := gk.trans (e2.kp (by omega) (by omega))
    have s1 : am_sh G1 269 = (103 + 1, 2) := (kk 269 (by omega) (by omega)).1.trans h4
    refine ae_aast (t := 4) (q := 89) dX2_init_88 s1 rfl (by decide) rfl (by omega) e3 (by omega) (vp_in_nI hbN (by decide)) rfl ?_
    rw [nI_clamp (show b < 2 ^ 31 by omega)]
    refine ae_iinc (v := nI (b + 1)) (lv' := [(2, .int (nI (b + 1))), (0, .ref 26), (1, .ref 1)]) (q := 92) dX2_init_89 rfl (nI_1 b) (by decide) rfl rfl ?_
    refine ae_goto (q := 71) dX2_init_92 (by decide) ?_
    refine ih (b + 1) _ (by omega) ⟨?_, hZ H _ (am_Kx.of (a := 0) (kk.sub (Nat.le_refl _) (by omega)) rfl) h2, s1, fun i hi => ?_, fun i hi => ?_⟩
    · show am_nx G1 = _; omega
    · by_cases hib : i = b
      · subst hib; exact gr_set
      · refine gr_sr ?_ (fun q => hib q.2); rw [(kk 269 (by omega) (by omega)).2.1]; exact h5 i (by omega)
    · by_cases hib : i = b
      · subst hib
        have q9 : ly_P i G1 := ⟨e3, e4, fun j hj => by
          rcases (show j = 0 ∨ j = 1 ∨ j = 2 by omega) with rfl | rfl | rfl
          · exact ⟨e5, e8, e11⟩
          · exact ⟨by show am_gr G1 _ 2 = _; rw [e6], e9, e12⟩
          · exact ⟨by show am_gr G1 _ 3 = _; rw [e7], e10, e13⟩⟩
        exact q9.kp (am_Kp.sr (by omega))
      · exact ((h6 i (by omega)).kp (kk.sub (by omega) (by omega))).kp (am_Kp.sr (by omega))
def iv_W (Z : am_H → Prop) (b : Nat) (H : am_H) : Prop := am_nx H = 279 + 2 * b ∧ Z H ∧ am_sh H 278 = (103 + 5, 3) ∧ (∀ i, i < b → am_gr H 278 i = some (279 + 2 * i)) ∧ ∀ i, i < b → ly_W i H
set_option maxRecDepth 100000 in
set_option maxHeartbeats 4000000 in
theorem lp_W {ox : List (Nat × (Nat → Int32))} {d : Nat} {P : Option Value ⊕ String → am_H → Prop} {Z : am_H → Prop} (hZ : ∀ H H1, am_Kx 279 278 H H1 → Z H → Z H1) (hz : ∀ H, Z H → am_sh H 26 = (2, am_Nf 2) ∧ am_gr H 26 5 = some 278 ∧ am_gr H 26 3 = some 27) (kx : ∀ H8, iv_W Z 3 H8 → am_E ox (d + 3) mX2_init 129 [(2, .int 3), (0, .ref 26), (1, .ref 1)] [] H8 P) : ∀ (k b : Nat) (H : am_H), b + k = 3 → iv_W Z b H → am_E ox (d + 3) mX2_init 105 [(2, .int (nI b)), (0, .ref 26), (1, .ref 1)] [] H P := by
  intro k
  induction k with
  | zero =>
    intro b H hb h
    obtain rfl : b = 3 := by omega
    refine ae_iload_n (q := 106) dX2_init_105 rfl rfl rfl ?_
    refine ae_iconst (v := 3) (q := 107) dX2_init_106 (by decide) rfl ?_
    refine ae_icmp_ge (t := 129) (q := 110) dX2_init_107 (by decide) rfl (fun _ => ?_) (fun c => absurd (nI_le (a := 3) (b := 3) (Nat.le_refl _) (by decide)) c)
    exact kx H h
  | succ k ih =>
    intro b H hb h
    have hbN : b < 3 := by omega
    obtain ⟨h1, h2, h4, h5, h6⟩ := h
    obtain ⟨z1, z2, z3⟩ := hz H h2
    refine ae_iload_n (q := 106) dX2_init_105 rfl rfl rfl ?_
    refine ae_iconst (v := 3) (q := 107) dX2_init_106 (by decide) rfl ?_
    refine ae_icmp_ge (t := 129) (q := 110) dX2_init_107 (by decide) rfl (fun c => absurd c (nI_ge (a := b) (b := 3) hbN (by decide))) (fun _ => ?_)
    refine ae_aload_n (q := 111) dX2_init_110 rfl rfl rfl ?_
    refine ae_getR (q := 114) dX2_init_111 fl_X2_40 rfl z1 (by omega) z2 rfl ?_
    refine ae_iload_n (q := 115) dX2_init_114 rfl rfl rfl ?_
    refine ae_new (q := 118) dX2_init_115 cn_X2_38 (by intro x hx; simp only [List.mem_cons, List.not_mem_nil, or_false] at hx; rcases hx with rfl | rfl <;> first | trivial | exact am_okr (by omega)) (by intro x hx; simp only [List.mem_cons, List.not_mem_nil, or_false] at hx; rcases hx with rfl | rfl | rfl <;> first | trivial | exact am_okr (by omega)) (by omega) rfl ?_
    rw [h1]
    refine ae_gen (fun G eG => ?_)
    have g1 : am_nx G = 280 + 2 * b := by rw [eG]; show am_nx H + 1 = _; omega
    have gk : am_Kp 0 (279 + 2 * b) H G := by rw [eG]; exact am_Kp.nw (by omega)
    have gs : am_sh G (279 + 2 * b) = (5, am_Nf 5) := by rw [eG, ← h1]; exact am_sh_nw
    have gz : ∀ y, am_gi G (279 + 2 * b) y = 0 := by rw [eG, ← h1]; exact fun _ => gi_fresh
    refine ae_dup (q := 119) dX2_init_118 rfl rfl ?_
    refine ae_callI (as := []) (b := 279 + 2 * b) (st := [.ref (279 + 2 * b), .int (nI b), .ref 278]) (q := 122) dX2_init_119 (e_X5_init (d := d + 1) g1 (by omega) (by omega) gs (gz 1)) myX5_init rfl rfl lk_X2_44 im_X5_init rfl rfl (Nat.le_of_ble_eq_true rfl) rfl (fun o H1 h => h.1) (fun G1 hG => ?_)
    obtain ⟨-, e1, e2, e3, e4, e5, e6, e7, e8⟩ := hG
    refine ⟨Or.inr ⟨by omega, by intro x hx; simp only [List.mem_cons, List.not_mem_nil, or_false] at hx; rcases hx with rfl | rfl | rfl <;> first | trivial | exact am_okr (by omega), by intro x hx; simp only [List.mem_cons, List.not_mem_nil, or_false] at hx; rcases hx with rfl | rfl | rfl <;> first | trivial | exact am_okr (by omega)⟩, ?_⟩
    have kk : am_Kp 0 (279 + 2 * b) H G1 := gk.trans (e2.kp (by omega) (by omega))
    have s1 : am_sh G1 278 = (103 + 5, 3) := (kk 278 (by omega) (by omega)).1.trans h4
    refine ae_aast (t := 7) (q := 123) dX2_init_122 s1 rfl (by decide) rfl (by omega) e3 (by omega) (vp_in_nI hbN (by decide)) rfl ?_
    rw [nI_clamp (show b < 2 ^ 31 by omega)]
    refine ae_iinc (v := nI (b + 1)) (lv' := [(2, .int (nI (b + 1))), (0, .ref 26), (1, .ref 1)]) (q := 126) dX2_init_123 rfl (nI_1 b) (by decide) rfl rfl ?_
    refine ae_goto (q := 105) dX2_init_126 (by decide) ?_
    refine ih (b + 1) _ (by omega) ⟨?_, hZ H _ (am_Kx.of (a := 0) (kk.sub (Nat.le_refl _) (by omega)) rfl) h2, s1, fun i hi => ?_, fun i hi => ?_⟩
    · show am_nx G1 = _; omega
    · by_cases hib : i = b
      · subst hib; exact gr_set
      · refine gr_sr ?_ (fun q => hib q.2); rw [(kk 278 (by omega) (by omega)).2.1]; exact h5 i (by omega)
    · by_cases hib : i = b
      · subst hib
        have q9 : ly_W i G1 := ⟨e3, e4, e5, e6, e7, e8⟩
        exact q9.kp (am_Kp.sr (by omega))
      · exact ((h6 i (by omega)).kp (kk.sub (by omega) (by omega))).kp (am_Kp.sr (by omega))
