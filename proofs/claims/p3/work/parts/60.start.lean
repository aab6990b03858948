/-! The law's start: the class's object, the reference's, the cell for answers. -/
theorem am_Same.kp0 {a n lo hi : Nat} {H H1 : am_H} (h : am_Same a n H H1) (h1 : hi ≤ n) (h2 : hi ≤ a) : am_Kp lo hi H H1 := h.kp h1 (Or.inr h2)
set_option maxRecDepth 100000 in
set_option maxHeartbeats 4000000 in
theorem law_start {c L : Nat} {xs : Nat → Int32} {P : Option Value ⊕ String → am_H → Prop} (kk : ∀ H, fz H → mz H → am_sh H 319 = (102, 1) → am_nx H = 320 → am_EB c (am_ox L xs) 10 mLw 23 [(4, .int 0), (3, .ref 319), (2, .ref 288), (1, .ref 0), (0, .ref 1000000)] [] H P) : am_EB c (am_ox L xs) 10 mLw 0 [(0, .ref 1000000)] [] am_H0 P := by
  have okO : ∀ n : Nat, am_ok n (.ref 1000000) := fun n => Or.inr (Nat.le_refl _)
  refine ae_gen (fun G0 e0 => ?_)
  have n0 : am_nx G0 = 0 := by rw [e0]; rfl
  refine ae_new (q := 3) dL_law_0 cn_L_8 (fun v hv => by cases hv) (fun x hx => by rcases List.mem_singleton.mp hx with rfl; exact okO _) (by omega) rfl ?_
  rw [n0]
  refine ae_gen (fun G1 e1 => ?_)
  have n1 : am_nx G1 = 1 := by rw [e1]; show am_nx G0 + 1 = 1; omega
  have s1 : am_sh G1 0 = (6, am_Nf 6) := by rw [e1, ← n0]; exact am_sh_nw
  refine ae_dup (q := 4) dL_law_3 rfl rfl ?_
  refine ae_callI (as := []) (b := 0) (st := [.ref 0]) (q := 7) dL_law_4 (e_X6_init (d := 5) n1 s1) myX6_init rfl rfl lk_L_51 im_X6_init rfl rfl (Nat.le_of_ble_eq_true rfl) rfl (fun o H1 h => h.1) (fun G2 hG => ?_)
  obtain ⟨-, hY⟩ := hG
  have n2 : am_nx G2 = 288 := hY.1
  refine ⟨Or.inr ⟨by omega, by intro x hx; rcases List.mem_singleton.mp hx with rfl; exact am_okr (by omega), by intro x hx; rcases List.mem_singleton.mp hx with rfl; exact okO _⟩, ?_⟩
  refine ae_astore_n (lv' := [(1, .ref 0), (0, .ref 1000000)]) (q := 8) dL_law_7 rfl (by decide) rfl rfl ?_
  refine ae_new (q := 11) dL_law_8 cn_L_52 (fun v hv => by cases hv) (fun x hx => by simp only [List.mem_cons, List.not_mem_nil, or_false] at hx; rcases hx with rfl | rfl <;> first | exact okO _ | exact am_okr (by omega)) (by omega) rfl ?_
  rw [n2]
  refine ae_gen (fun G3 e3 => ?_)
  have n3 : am_nx G3 = 289 := by rw [e3]; show am_nx G2 + 1 = 289; omega
  have s3 : am_sh G3 288 = (7, am_Nf 7) := by rw [e3, ← n2]; exact am_sh_nw
  have g3 : ∀ y, am_gi G3 288 y = 0 := fun y => by rw [e3, ← n2]; exact gi_fresh
  have k3 : am_Kp 0 288 G2 G3 := by rw [e3]; exact am_Kp.nw (by omega)
  refine ae_dup (q := 12) dL_law_11 rfl rfl ?_
  refine ae_callI (as := []) (b := 288) (st := [.ref 288]) (q := 15) dL_law_12 (e_X7_init (d := 8) (n := 289) n3 (by omega) (by omega) s3) myX7_init rfl rfl lk_L_54 im_X7_init rfl rfl (Nat.le_of_ble_eq_true rfl) rfl (fun o H1 h => h.1) (fun G4 hG => ?_)
  obtain ⟨-, n4, m4, s4, t4, i4⟩ := hG
  have n4 : am_nx G4 = 319 := n4
  refine ⟨Or.inr ⟨by omega, by intro x hx; rcases List.mem_singleton.mp hx with rfl; exact am_okr (by omega), by intro x hx; simp only [List.mem_cons, List.not_mem_nil, or_false] at hx; rcases hx with rfl | rfl <;> first | exact okO _ | exact am_okr (by omega)⟩, ?_⟩
  refine ae_astore_n (lv' := [(2, .ref 288), (1, .ref 0), (0, .ref 1000000)]) (q := 16) dL_law_15 rfl (by decide) rfl rfl ?_
  refine ae_iconst (v := 1) (q := 17) dL_law_16 (by decide) rfl ?_
  refine ae_newL (N := 1) (q := 19) dL_law_17 ac_long (by decide) (by decide) (by decide) (fun v hv => by cases hv) (fun x hx => by simp only [List.mem_cons, List.not_mem_nil, or_false] at hx; rcases hx with rfl | rfl | rfl <;> first | exact okO _ | exact am_okr (by omega)) (by omega) rfl ?_
  rw [n4]
  refine ae_gen (fun G5 e5 => ?_)
  have n5 : am_nx G5 = 320 := by rw [e5]; show am_nx G4 + 1 = 320; omega
  have k5 : am_Kp 0 319 G4 G5 := by rw [e5]; exact am_Kp.nw (by omega)
  have s5 : am_sh G5 319 = (102, 1) := by rw [e5, ← n4]; exact am_sh_nw
  refine ae_astore_n (lv' := [(3, .ref 319), (2, .ref 288), (1, .ref 0), (0, .ref 1000000)]) (q := 20) dL_law_19 rfl (by decide) rfl rfl ?_
  refine ae_iconst (v := 0) (q := 21) dL_law_20 (by decide) rfl ?_
  refine ae_istore (lv' := [(4, .int 0), (3, .ref 319), (2, .ref 288), (1, .ref 0), (0, .ref 1000000)]) (q := 23) dL_law_21 (by decide) rfl rfl ?_
  obtain ⟨a1, a2, a3⟩ := k5 288 (by omega) (by omega)
  refine kk G5 (fz.of hY ((k3.trans (m4.kp0 (by omega) (by omega))).trans (k5.sub (by omega) (by omega))) (by omega)) ⟨by omega, a1.trans s4, fun i hi => ?_, fun y => ?_⟩ s5 n5
  · obtain ⟨u1, u2, u3⟩ := t4 i hi
    obtain ⟨b1, b2, b3⟩ := k5 (289 + i) (by omega) (by omega)
    exact ⟨by rw [a2]; exact u1, b1.trans u2, ⟨fun y => by rw [b2]; exact u3.1 y, fun y => by rw [b3]; exact u3.2 y⟩⟩
  · rw [a3, i4]; exact g3 y
