/-! What each call keeps: the class's helper and the reference. -/
theorem hs_gen {N N' : Nat} {H : am_H} {ox : List (Nat × (Nat → Int32))} {y : MethodName} {M : am_M} {hh : List (Nat × Nat × Nat × Nat)} {as : List Value} {cs : List (String × Int32)} (h : LJ N H) (hD : am_DW 1 ox 9 y M hh as H (lx (fun o H1 => lo cs o ∧ jc N' H 320 H1) 319 cs)) : am_DW 1 ox 9 y M hh as H (fun o H1 => ∃ k, o = .inl (some (.int k)) ∧ LJ N' H1) := by
  refine hD.mono (fun o H1 hp => ?_)
  rcases hp with ⟨v, G, hp, rfl, rfl⟩ | ⟨E, k, hmem, hp, rfl⟩
  · exact ⟨0, rfl, (h.ofc hp.2).sl⟩
  · exact ⟨k, rfl, h.ofc hp.2⟩
theorem hs_pre {N N' : Nat} {H : am_H} {cs : List (String × Int32)} : ∀ o G, lo cs o ∧ jc N' H 320 G → am_nx G = am_nx H ∧ am_sh G 319 = (102, 1) ∧ lo cs o := fun o G hp => ⟨hp.2.nx, hp.2.s (a := 319) (T := 50) (by decide) rfl, hp.1⟩
theorem LJ.s0 {N : Nat} {H : am_H} (h : LJ N H) : am_sh H 0 = (6, am_Nf 6) := s_0 h.1.1
theorem LJ.sm {N : Nat} {H : am_H} (h : LJ N H) : am_nx H = 320 ∧ am_sh H 288 = (7, am_Nf 7) := ⟨h.1.2, s_m h.1.1⟩
theorem gi_sl {H : am_H} {a k : Nat} {v : Int64} : am_gi (am_sl H a k v) = am_gi H := rfl
theorem si_sl {H : am_H} {a k x y : Nat} {v : Int64} {z : Int32} : am_si (am_sl H a k v) x y z = am_sl (am_si H x y z) a k v := rfl
theorem gl_set {H : am_H} {a k : Nat} {v : Int64} : am_gl (am_sl H a k v) a k = v := am_u2_self _ _ _ _
theorem nI_r7j {a b : Nat} (ha : a < 2 ^ 31) (hb : b < 2 ^ 31) (h : nI a = nI b) : a = b := by
  have e := congrArg Int32.toNatClampNeg h
  rwa [nI_clamp ha, nI_clamp hb] at e
theorem nI_r7 {x : Int32} {b : Nat} (h : x = nI b) (hb : b < 8) : 0 ≤ x ∧ x ≤ 7 := by
  have t : x.toInt = (b : Int) := by rw [h]; exact Int32.toInt_ofNat_of_lt (by omega)
  rw [Int32.le_iff_toInt_le, Int32.le_iff_toInt_le, t, show (0 : Int32).toInt = 0 by decide, show (7 : Int32).toInt = 7 by decide]
  omega
set_option maxRecDepth 100000 in
set_option maxHeartbeats 4000000 in
theorem hs_run {N : Nat} {H : am_H} {ox : List (Nat × (Nat → Int32))} {x0 : Int32} (ho3 : ox[3]? = some (4, fun k => am_t3.getD k 0)) (hN : N + 1800 ≤ 1000000) (h : LJ N H) : am_DW 1 ox 9 yL_run mL_run hL_run [.ref 0, .int x0, .ref 319] H (fun o H1 => ∃ k, o = .inl (some (.int k)) ∧ LJ (N + 600) H1) :=
  hs_gen h (e_L_run (w := 319) (d := 8) (c_X6_run (d := 2) (N := N) (B := H) (p0 := 0) ho3 h.2.1.1 (by omega) h.toc (by decide) rfl) h.s0 (by have := h.1.2; omega) (by have := h.1.2; omega) (hs_pre (N := N)))
set_option maxRecDepth 100000 in
set_option maxHeartbeats 4000000 in
theorem hm_run {N : Nat} {H : am_H} {ox : List (Nat × (Nat → Int32))} {x0 : Int32} (hN : N + 1200 ≤ 1000000) (h : LJ N H) : am_D ox 9 yX7_run mX7_run [.ref 288, .int x0] H (fun o H2 => ∃ w, o = .inl (some (.int w)) ∧ LJ (N + 1200) H2) := by
  refine (c_X7_run (d := 3) (N := N) (B := H) h.2.2.1.1 hN h.tom h.2.2.1.2.2).mono (fun o H2 hp => ?_)
  obtain ⟨⟨v, rfl⟩, hj, hd⟩ := hp
  exact ⟨v, rfl, h.ofm hj hd⟩
set_option maxRecDepth 100000 in
set_option maxHeartbeats 4000000 in
theorem hs_result {N : Nat} {H : am_H} {ox : List (Nat × (Nat → Int32))}   (h : LJ N H) : am_DW 1 ox 9 yL_result mL_result hL_result [.ref 0, .ref 319] H (fun o H1 => ∃ k, o = .inl (some (.int k)) ∧ LJ N H1) :=
  hs_gen h (e_L_result (w := 319) (d := 8) (c_X6_result (d := 2) (N := N) (B := H) (p0 := 0) h.toc (by decide) rfl) h.s0 (by have := h.1.2; omega) (by have := h.1.2; omega) (hs_pre (N := N)))
set_option maxRecDepth 100000 in
set_option maxHeartbeats 4000000 in
theorem hm_result {N : Nat} {H : am_H} {ox : List (Nat × (Nat → Int32))}  (h : LJ N H) : am_D ox 9 yX7_result mX7_result [.ref 288] H (fun o H2 => ∃ w, o = .inl (some (.int w)) ∧ LJ N H2) := by
  refine (c_X7_result (d := 8) (N := N) (B := H) h.tom).mono (fun o H2 hp => ?_)
  obtain ⟨⟨v, rfl⟩, hj, hd, hz⟩ := hp
  exact ⟨v, rfl, h.ofm hj (by rw [hd, hz]; exact h.2.2.1.2.2)⟩
set_option maxRecDepth 100000 in
set_option maxHeartbeats 4000000 in
theorem hs_said {N : Nat} {H : am_H} {ox : List (Nat × (Nat → Int32))} {x0 : Int32}  (h : LJ N H) : am_DW 1 ox 9 yL_said mL_said hL_said [.ref 0, .int x0, .ref 319] H (fun o H1 => ∃ k, o = .inl (some (.int k)) ∧ LJ N H1) :=
  hs_gen h (e_L_said (w := 319) (d := 8) (c_X6_said (d := 2) (N := N) (B := H) (p0 := 0) h.toc (by decide) rfl) h.s0 (by have := h.1.2; omega) (by have := h.1.2; omega) (hs_pre (N := N)))
set_option maxRecDepth 100000 in
set_option maxHeartbeats 4000000 in
theorem hm_said {N : Nat} {H : am_H} {ox : List (Nat × (Nat → Int32))} {x0 : Int32} (h : LJ N H) : am_D ox 9 yX7_said mX7_said [.ref 288, .int x0] H (fun o H2 => ∃ w, o = .inl (some (.int w)) ∧ LJ N H2) := by
  refine (c_X7_said (d := 8) (N := N) (B := H) h.tom).mono (fun o H2 hp => ?_)
  obtain ⟨⟨v, rfl⟩, hj, hd, hz⟩ := hp
  exact ⟨v, rfl, h.ofm hj (by rw [hd, hz]; exact h.2.2.1.2.2)⟩
set_option maxRecDepth 100000 in
set_option maxHeartbeats 4000000 in
theorem hs_task {N : Nat} {H : am_H} {ox : List (Nat × (Nat → Int32))} {x0 x1 : Int32}  (h : LJ N H) : am_DW 1 ox 9 yL_task mL_task hL_task [.ref 0, .int x0, .int x1, .ref 319] H (fun o H1 => ∃ k, o = .inl (some (.int k)) ∧ LJ N H1) :=
  hs_gen h (e_L_task (w := 319) (d := 8) (c_X6_task (d := 2) (N := N) (B := H) (p0 := 0) h.toc (by decide) rfl) h.s0 (by have := h.1.2; omega) (by have := h.1.2; omega) (hs_pre (N := N)))
set_option maxRecDepth 100000 in
set_option maxHeartbeats 4000000 in
theorem hm_task {N : Nat} {H : am_H} {ox : List (Nat × (Nat → Int32))} {x0 x1 : Int32} (h : LJ N H) : am_D ox 9 yX7_task mX7_task [.ref 288, .int x0, .int x1] H (fun o H2 => ∃ w, o = .inl (some (.int w)) ∧ LJ N H2) := by
  refine (c_X7_task (d := 8) (N := N) (B := H) h.tom).mono (fun o H2 hp => ?_)
  obtain ⟨⟨v, rfl⟩, hj, hd, hz⟩ := hp
  exact ⟨v, rfl, h.ofm hj (by rw [hd, hz]; exact h.2.2.1.2.2)⟩
set_option maxRecDepth 100000 in
set_option maxHeartbeats 4000000 in
theorem hs_future {N : Nat} {H : am_H} {ox : List (Nat × (Nat → Int32))} {x0 : Int32}  (h : LJ N H) : am_DW 1 ox 9 yL_future mL_future hL_future [.ref 0, .int x0, .ref 319] H (fun o H1 => ∃ k, o = .inl (some (.int k)) ∧ LJ N H1) :=
  hs_gen h (e_L_future (w := 319) (d := 8) (c_X6_future (d := 2) (N := N) (B := H) (p0 := 0) h.toc (by decide) rfl) h.s0 (by have := h.1.2; omega) (by have := h.1.2; omega) (hs_pre (N := N)))
set_option maxRecDepth 100000 in
set_option maxHeartbeats 4000000 in
theorem hm_future {N : Nat} {H : am_H} {ox : List (Nat × (Nat → Int32))} {x0 : Int32} (h : LJ N H) : am_D ox 9 yX7_future mX7_future [.ref 288, .int x0] H (fun o H2 => ∃ w, o = .inl (some (.int w)) ∧ LJ N H2) := by
  refine (c_X7_future (d := 8) (N := N) (B := H) h.tom).mono (fun o H2 hp => ?_)
  obtain ⟨⟨v, rfl⟩, hj, hd, hz⟩ := hp
  exact ⟨v, rfl, h.ofm hj (by rw [hd, hz]; exact h.2.2.1.2.2)⟩
set_option maxRecDepth 100000 in
set_option maxHeartbeats 4000000 in
theorem hs_count {N : Nat} {H : am_H} {ox : List (Nat × (Nat → Int32))} {x0 : Int32}  (h : LJ N H) : am_DW 1 ox 9 yL_count mL_count hL_count [.ref 0, .int x0, .ref 319] H (fun o H1 => ∃ k, o = .inl (some (.int k)) ∧ LJ N H1) :=
  hs_gen h (e_L_count (w := 319) (d := 8) (c_X6_count (d := 2) (N := N) (B := H) (p0 := 0) h.toc (by decide) rfl) h.s0 (by have := h.1.2; omega) (by have := h.1.2; omega) (hs_pre (N := N)))
set_option maxRecDepth 100000 in
set_option maxHeartbeats 4000000 in
theorem hm_count {N : Nat} {H : am_H} {ox : List (Nat × (Nat → Int32))} {x0 : Int32} (h : LJ N H) : am_D ox 9 yX7_count mX7_count [.ref 288, .int x0] H (fun o H2 => ∃ w, o = .inl (some (.int w)) ∧ LJ N H2) := by
  refine (c_X7_count (d := 8) (N := N) (B := H) h.tom).mono (fun o H2 hp => ?_)
  obtain ⟨⟨v, rfl⟩, hj, hd, hz⟩ := hp
  exact ⟨v, rfl, h.ofm hj (by rw [hd, hz]; exact h.2.2.1.2.2)⟩
set_option maxRecDepth 100000 in
set_option maxHeartbeats 4000000 in
theorem hs_begin {N : Nat} {H : am_H} {ox : List (Nat × (Nat → Int32))} {x0 x1 x2 x3 : Int32} (ho3 : ox[3]? = some (4, fun k => am_t3.getD k 0)) (h : LJ N H) : am_DW 1 ox 9 yL_begin mL_begin hL_begin [.ref 0, .int x0, .int x1, .int x2, .int x3] H (fun o H1 => ∃ k, o = .inl (some (.int k)) ∧ LJ N H1 ∧ ((0 ≤ x0.toInt ∧ x0.toInt ≤ 7 ∧ 1 ≤ x2.toInt ∧ x2.toInt ≤ 3 ∧ 0 ≤ x3.toInt ∧ x3.toInt ≤ 1) ∧ k = 0 ∨ ¬ (0 ≤ x0.toInt ∧ x0.toInt ≤ 7 ∧ 1 ≤ x2.toInt ∧ x2.toInt ≤ 3 ∧ 0 ≤ x3.toInt ∧ x3.toInt ≤ 1) ∧ k = 1)) := by
  refine (e_L_begin (w := 319) (d := 8) (c_X6_begin (d := 2) (N := N) (B := H) (p0 := 0) ho3 h.toc (by decide) rfl) h.s0 (by have := h.1.2; omega) (by have := h.1.2; omega) (fun o G hp => ⟨hp.2.nx, ?_⟩)).mono (fun o H1 hp => ?_)
  · rcases hp.1 with ⟨-, rfl⟩ | ⟨-, rfl⟩
    · exact Or.inl rfl
    · exact Or.inr ⟨_, 1, by decide, rfl⟩
  · rcases hp with ⟨⟨h1, h2⟩, rfl⟩ | ⟨E, k, hk, ⟨h1, h2⟩, rfl⟩
    · rcases h1 with ⟨hc, -⟩ | ⟨-, he⟩
      · exact ⟨0, rfl, h.ofc h2, Or.inl ⟨hc, rfl⟩⟩
      · cases he
    · rcases h1 with ⟨-, he⟩ | ⟨hc, he⟩
      · cases he
      · cases he
        simp [cs_begin] at hk
        exact ⟨k, rfl, h.ofc h2, Or.inr ⟨hc, hk⟩⟩
set_option maxRecDepth 100000 in
set_option maxHeartbeats 4000000 in
theorem hm_begin {N : Nat} {H : am_H} {ox : List (Nat × (Nat → Int32))} {x0 x1 x2 x3 : Int32} (h : LJ N H) : am_D ox 9 yX7_begin mX7_begin [.ref 288, .int x0, .int x1, .int x2, .int x3] H (fun o H2 => o = .inl none ∧ LJ N H2 ∧ ((0 ≤ x0.toInt ∧ x0.toInt ≤ 7 ∧ 1 ≤ x2.toInt ∧ x2.toInt ≤ 3 ∧ 0 ≤ x3.toInt ∧ x3.toInt ≤ 1) ∧ am_gi H2 288 37 = 0 ∨ ¬ (0 ≤ x0.toInt ∧ x0.toInt ≤ 7 ∧ 1 ≤ x2.toInt ∧ x2.toInt ≤ 3 ∧ 0 ≤ x3.toInt ∧ x3.toInt ≤ 1) ∧ am_gi H2 288 37 = 1)) := by
  refine (c_X7_begin (d := 7) (N := N) (B := H) h.tom h.2.2.1.2.2).mono (fun o H2 hp => ?_)
  obtain ⟨rfl, hj, hd, ht⟩ := hp
  exact ⟨rfl, h.ofm hj hd, ht⟩
set_option maxRecDepth 100000 in
set_option maxHeartbeats 4000000 in
theorem hs_body {N : Nat} {H : am_H} {ox : List (Nat × (Nat → Int32))} {x0 : Int32} (h : LJ N H) : am_DW 1 ox 9 yL_body mL_body hL_body [.ref 0, .int x0, .ref 319] H (fun o H1 => ∃ k, o = .inl (some (.int k)) ∧ ((∃ b, b < 8 ∧ x0 = nI b ∧ k = 0 ∧ H1 = am_sl (am_si H (2 + 3 * b) 2 0) 319 0 (am_gi H (2 + 3 * b) 2).toInt64) ∨ ¬ (0 ≤ x0 ∧ x0 ≤ 7) ∧ k = 1 ∧ H1 = am_ga H 1 6)) := by
  have h319 : am_sh H 319 = (102, 1) := h.1.1.s (a := 319) (T := 50) (by decide) rfl
  refine (e_L_body (w := 319) (d := 8) (b_X6_body (d := 2) h.1.1 h.2.2.2.1) h.s0 (by have := h.1.2; omega) (by have := h.1.2; omega) (fun o G hp => ?_)).mono (fun o H1 hp => ?_)
  · rcases hp with ⟨b, hb, -, rfl, rfl⟩ | ⟨-, rfl, rfl⟩
    · exact ⟨rfl, h319, Or.inl ⟨_, rfl⟩⟩
    · exact ⟨rfl, h319, Or.inr ⟨_, 1, by decide, rfl⟩⟩
  · rcases hp with ⟨v, G, hp, rfl, rfl⟩ | ⟨E, k, hk, hp, rfl⟩
    · rcases hp with ⟨b, hb, hx, he, rfl⟩ | ⟨-, he, -⟩
      · cases he
        exact ⟨0, rfl, Or.inl ⟨b, hb, hx, rfl, rfl⟩⟩
      · cases he
    · rcases hp with ⟨b, hb, hx, he, -⟩ | ⟨hc, he, hH⟩
      · cases he
      · cases he
        simp [cs_body] at hk
        exact ⟨k, rfl, Or.inr ⟨hc, hk, hH⟩⟩
set_option maxRecDepth 100000 in
set_option maxHeartbeats 4000000 in
theorem hm_body {N : Nat} {H : am_H} {ox : List (Nat × (Nat → Int32))} {x0 : Int32} (h : LJ N H) : ∀ (k : Int32) (H1 : am_H), ((∃ b, b < 8 ∧ x0 = nI b ∧ k = 0 ∧ H1 = am_sl (am_si H (2 + 3 * b) 2 0) 319 0 (am_gi H (2 + 3 * b) 2).toInt64) ∨ ¬ (0 ≤ x0 ∧ x0 ≤ 7) ∧ k = 1 ∧ H1 = am_ga H 1 6) → (am_nx H1 = 320 ∧ am_sh H1 288 = (7, am_Nf 7)) ∧ am_D ox 9 yX7_body mX7_body [.ref 288, .int x0] H1 (fun o H2 => ∃ w, o = .inl (some (.int w)) ∧ (LJ N H2 ∧ am_gi H2 288 37 = k ∧ (k = 0 → am_gl H2 319 0 = w.toInt64))) := by
  intro k H1 hS
  rcases hS with ⟨b, hb, hx, rfl, rfl⟩ | ⟨hc, rfl, rfl⟩
  · have z : inr (0, 16) (0 : Int32) := ⟨by decide, by decide⟩
    have w1 : wt N (am_sl (am_si H (2 + 3 * b) 2 0) 319 0 (am_gi H (2 + 3 * b) 2).toInt64) := (h.1.1.si (T := 2) (k := 2) (ty_b hb).1 z).sl
    refine ⟨⟨h.1.2, s_m w1⟩, (b_X7_body (d := 8) w1).mono (fun o H2 hp => ?_)⟩
    rcases hp with ⟨b', hb', hx', rfl, rfl⟩ | ⟨hc, -, -⟩
    · obtain rfl : b = b' := nI_r7j (by omega) (by omega) (hx.symm.trans hx')
      refine ⟨_, rfl, h.body hb, ?_, fun _ => ?_⟩
      · rw [gi_rowne (by decide)]; exact gi_set
      · rw [show am_gi (am_sl (am_si H (2 + 3 * b) 2 0) 319 0 (am_gi H (2 + 3 * b) 2).toInt64) 289 b = am_gi H 289 b from gi_n (by omega), ← h.2.2.2.2 b hb]
        exact am_u2_self (am_gl (am_si H (2 + 3 * b) 2 0)) 319 0 _
    · exact absurd (nI_r7 hx hb) hc
  · refine ⟨⟨h.1.2, s_m h.1.1⟩, (b_X7_body (d := 8) (H := am_ga H 1 6) (N := N) h.1.1).mono (fun o H2 hp => ?_)⟩
    rcases hp with ⟨b, hb, hx, -, -⟩ | ⟨-, rfl, rfl⟩
    · exact absurd (nI_r7 hx hb) hc
    · exact ⟨0, rfl, (LJ.ga h).thr, gi_set, fun q => absurd q (by decide)⟩
set_option maxRecDepth 100000 in
set_option maxHeartbeats 4000000 in
theorem hs_add {N : Nat} {H : am_H} {ox : List (Nat × (Nat → Int32))} {x0 x1 x2 : Int32} (ho : oxt ox) (h : LJ N H) : am_DW 1 ox 9 yL_add mL_add hL_add [.ref 0, .int x0, .int x1, .int x2, .ref 319] H (fun o H1 => ∃ k, o = .inl (some (.int k)) ∧ ((∃ b, b < 8 ∧ x0 = nI b ∧ ins x1 x2 ∧ ((am_gi H (2 + 3 * b) 2).toInt < 16 ∧ k = 0 ∧ H1 = am_sl (am_si (am_si (am_si H (3 + 3 * b) (am_gi H (2 + 3 * b) 2).toNatClampNeg x1) (4 + 3 * b) (am_gi H (2 + 3 * b) 2).toNatClampNeg x2) (2 + 3 * b) 2 (am_gi H (2 + 3 * b) 2 + 1)) 319 0 (am_gi H (2 + 3 * b) 2 + 1).toInt64 ∨ 16 ≤ (am_gi H (2 + 3 * b) 2).toInt ∧ k = 2 ∧ H1 = am_ga H 1 6)) ∨ ¬ ((0 ≤ x0 ∧ x0 ≤ 7) ∧ ins x1 x2) ∧ k = 1 ∧ H1 = am_ga H 1 6)) := by
  have h319 : am_sh H 319 = (102, 1) := h.1.1.s (a := 319) (T := 50) (by decide) rfl
  refine (e_L_add (w := 319) (d := 8) (b_X6_add (d := 2) ho h.1.1 h.2.2.2.1) h.s0 (by have := h.1.2; omega) (by have := h.1.2; omega) (fun o G hp => ?_)).mono (fun o H1 hp => ?_)
  · rcases hp with ⟨b, hb, -, -, ⟨-, rfl, rfl⟩ | ⟨-, rfl, rfl⟩⟩ | ⟨-, rfl, rfl⟩
    · exact ⟨rfl, h319, Or.inl ⟨_, rfl⟩⟩
    · exact ⟨rfl, h319, Or.inr ⟨_, 2, by decide, rfl⟩⟩
    · exact ⟨rfl, h319, Or.inr ⟨_, 1, by decide, rfl⟩⟩
  · rcases hp with ⟨v, G, hp, rfl, rfl⟩ | ⟨E, k, hk, hp, rfl⟩
    · rcases hp with ⟨b, hb, hx, hi, ⟨hs, he, rfl⟩ | ⟨-, he, -⟩⟩ | ⟨-, he, -⟩
      · cases he
        exact ⟨0, rfl, Or.inl ⟨b, hb, hx, hi, Or.inl ⟨hs, rfl, rfl⟩⟩⟩
      · cases he
      · cases he
    · rcases hp with ⟨b, hb, hx, hi, ⟨hs, he, -⟩ | ⟨hs, he, hH⟩⟩ | ⟨hc, he, hH⟩
      · cases he
      · cases he
        simp [cs_add] at hk
        exact ⟨k, rfl, Or.inl ⟨b, hb, hx, hi, Or.inr ⟨hs, hk, hH⟩⟩⟩
      · cases he
        simp [cs_add] at hk
        exact ⟨k, rfl, Or.inr ⟨hc, hk, hH⟩⟩
set_option maxRecDepth 100000 in
set_option maxHeartbeats 4000000 in
theorem hm_add {N : Nat} {H : am_H} {ox : List (Nat × (Nat → Int32))} {x0 x1 x2 : Int32} (h : LJ N H) : ∀ (k : Int32) (H1 : am_H), ((∃ b, b < 8 ∧ x0 = nI b ∧ ins x1 x2 ∧ ((am_gi H (2 + 3 * b) 2).toInt < 16 ∧ k = 0 ∧ H1 = am_sl (am_si (am_si (am_si H (3 + 3 * b) (am_gi H (2 + 3 * b) 2).toNatClampNeg x1) (4 + 3 * b) (am_gi H (2 + 3 * b) 2).toNatClampNeg x2) (2 + 3 * b) 2 (am_gi H (2 + 3 * b) 2 + 1)) 319 0 (am_gi H (2 + 3 * b) 2 + 1).toInt64 ∨ 16 ≤ (am_gi H (2 + 3 * b) 2).toInt ∧ k = 2 ∧ H1 = am_ga H 1 6)) ∨ ¬ ((0 ≤ x0 ∧ x0 ≤ 7) ∧ ins x1 x2) ∧ k = 1 ∧ H1 = am_ga H 1 6) → (am_nx H1 = 320 ∧ am_sh H1 288 = (7, am_Nf 7)) ∧ am_D ox 9 yX7_add mX7_add [.ref 288, .int x0, .int x1, .int x2] H1 (fun o H2 => ∃ w, o = .inl (some (.int w)) ∧ (LJ N H2 ∧ am_gi H2 288 37 = k ∧ (k = 0 → am_gl H2 319 0 = w.toInt64))) := by
  intro k H1 hS
  rcases hS with ⟨b, hb, hx, hi, ⟨hs, rfl, rfl⟩ | ⟨hs, rfl, rfl⟩⟩ | ⟨hc, rfl, rfl⟩
  · obtain ⟨ok, o1, o2⟩ := ok_ins hi
    have s0 := sz_b h.1.1 hb
    have ns : (am_gi H (2 + 3 * b) 2 + 1).toInt = (am_gi H (2 + 3 * b) 2).toInt + 1 := i_add rfl (by decide) (by omega) (by omega)
    have nz : inr (0, 16) (am_gi H (2 + 3 * b) 2 + 1) := mk_inr (by omega) (by omega)
    have no : inr (0, 16) x1 := ⟨o1, o2⟩
    have w1 : wt N (am_sl (am_si (am_si (am_si H (3 + 3 * b) (am_gi H (2 + 3 * b) 2).toNatClampNeg x1) (4 + 3 * b) (am_gi H (2 + 3 * b) 2).toNatClampNeg x2) (2 + 3 * b) 2 (am_gi H (2 + 3 * b) 2 + 1)) 319 0 (am_gi H (2 + 3 * b) 2 + 1).toInt64) := (((h.1.1.si (T := 3) (ty_b hb).2.1 no).si (T := 4) (ty_b hb).2.2 inr_any).si (T := 2) (k := 2) (ty_b hb).1 nz).sl
    have em : am_gi (am_sl (am_si (am_si (am_si H (3 + 3 * b) (am_gi H (2 + 3 * b) 2).toNatClampNeg x1) (4 + 3 * b) (am_gi H (2 + 3 * b) 2).toNatClampNeg x2) (2 + 3 * b) 2 (am_gi H (2 + 3 * b) 2 + 1)) 319 0 (am_gi H (2 + 3 * b) 2 + 1).toInt64) 289 b = am_gi H 289 b := by
      show am_gi (am_si (am_si (am_si H (3 + 3 * b) (am_gi H (2 + 3 * b) 2).toNatClampNeg x1) (4 + 3 * b) (am_gi H (2 + 3 * b) 2).toNatClampNeg x2) (2 + 3 * b) 2 (am_gi H (2 + 3 * b) 2 + 1)) 289 b = am_gi H 289 b
      rw [gi_rowne (by omega), gi_rowne (by omega), gi_rowne (by omega)]
    refine ⟨⟨h.1.2, s_m w1⟩, (b_X7_add (d := 7) w1).mono (fun o H2 hp => ?_)⟩
    rcases hp with ⟨b', hb', hx', hi', ⟨hs', rfl, rfl⟩ | ⟨hs', -, -⟩⟩ | ⟨hc, -, -⟩
    · obtain rfl : b = b' := nI_r7j (by omega) (by omega) (hx.symm.trans hx')
      rw [em, si_sl, si_sl, si_sl, si_sl]
      have hA := h.add hb hi hs
      refine ⟨_, rfl, LJ.sl hA, ?_, fun _ => ?_⟩
      · rw [gi_sl, gi_rowne (by decide), gi_rowne (by decide), gi_rowne (by decide)]; exact gi_set
      · rw [gl_set, h.2.2.2.2 b hb]
    · obtain rfl : b = b' := nI_r7j (by omega) (by omega) (hx.symm.trans hx')
      rw [em, ← h.2.2.2.2 b hb] at hs'
      omega
    · exact absurd ⟨nI_r7 hx hb, hi⟩ hc
  · refine ⟨⟨h.1.2, s_m h.1.1⟩, (b_X7_add (d := 7) (H := am_ga H 1 6) (N := N) h.1.1).mono (fun o H2 hp => ?_)⟩
    rcases hp with ⟨b', hb', hx', hi', ⟨hs', -, -⟩ | ⟨hs', rfl, rfl⟩⟩ | ⟨hc, -, -⟩
    · obtain rfl : b = b' := nI_r7j (by omega) (by omega) (hx.symm.trans hx')
      have hs' : (am_gi H 289 b).toInt < 16 := hs'
      rw [← h.2.2.2.2 b hb] at hs'
      omega
    · exact ⟨0, rfl, (LJ.ga h).thr, gi_set, fun q => absurd q (by decide)⟩
    · exact absurd ⟨nI_r7 hx hb, hi⟩ hc
  · refine ⟨⟨h.1.2, s_m h.1.1⟩, (b_X7_add (d := 7) (H := am_ga H 1 6) (N := N) h.1.1).mono (fun o H2 hp => ?_)⟩
    rcases hp with ⟨b', hb', hx', hi', -⟩ | ⟨-, rfl, rfl⟩
    · exact absurd ⟨nI_r7 hx' hb', hi'⟩ hc
    · exact ⟨0, rfl, (LJ.ga h).thr, gi_set, fun q => absurd q (by decide)⟩
