/-! The helpers' answers on fresh objects, and the reference's beside them. -/
def R_body (x0 : Int32) (k v : Int32) : Prop := (0 ≤ x0 ∧ x0 ≤ 7) ∧ k = 0 ∧ v = 0 ∨ ¬ (0 ≤ x0 ∧ x0 ≤ 7) ∧ k = 1 ∧ v = 0
set_option maxRecDepth 100000 in
set_option maxHeartbeats 4000000 in
theorem hs_body {ox : List (Nat × (Nat → Int32))} {H : am_H} {x0 : Int32} (h : fz H) (hm : mz H) (hs : am_sh H 319 = (102, 1)) (hn : am_nx H = 320) : am_DW 1 ox 9 yL_body mL_body hL_body [.ref 0, .int x0, .ref 319] H (fun o H1 => ∃ k v, o = .inl (some (.int k)) ∧ hk H1 k v ∧ R_body x0 k v) := by
  refine (e_L_body (w := 319) (d := 8) (e_X6_body (d := 2) h) h.s0 (h.lt (by decide)) (by omega) (fun o G hp => ?_)).mono (hs_of hm hs hn (fun o G hp => hp.2) (fun v G hp => ?_) (fun E k G hk hp => ?_))
  · obtain ⟨h1, h2⟩ := hp
    refine ⟨h2.1, (h2.2.1 319 (by omega) (by omega)).1.trans hs, ?_⟩
    rcases h1 with ⟨hc, rfl⟩ | ⟨hc, rfl⟩
    · exact Or.inl ⟨0, rfl⟩
    · exact Or.inr ⟨_, 1, by decide, rfl⟩
  · obtain ⟨⟨hc, he⟩ | ⟨hc, he⟩, -⟩ := hp
    · cases he; exact Or.inl ⟨hc, rfl, rfl⟩
    · cases he
  · obtain ⟨⟨hc, he⟩ | ⟨hc, he⟩, -⟩ := hp
    · cases he
    · cases he
      simp [cs_body] at hk
      subst hk
      exact ⟨by decide, Or.inr ⟨hc, rfl, rfl⟩⟩
theorem hm_body {ox : List (Nat × (Nat → Int32))} {x0 : Int32} : ∀ k v H1, R_body x0 k v → mz H1 → am_D ox 9 yX7_body mX7_body [.ref 288, .int x0] H1 (mr k v H1) := by
  intro k v H1 hR h
  refine (e_X7_body (d := 8) h).mono (fun o G hp => ?_)
  rcases hR with ⟨hc, rfl, rfl⟩ | ⟨hc, rfl, rfl⟩
  · rcases hp with ⟨-, hp⟩ | ⟨hc', -⟩
    · exact hp
    · exact absurd hc hc'
  · rcases hp with ⟨hc', -⟩ | ⟨-, hp⟩
    · exact absurd hc' hc
    · exact hp
def R_run (x0 : Int32) (k v : Int32) : Prop := (0 ≤ x0 ∧ x0 ≤ 200) ∧ k = 2 ∧ v = 0 ∨ ¬ (0 ≤ x0 ∧ x0 ≤ 200) ∧ k = 1 ∧ v = 0
set_option maxRecDepth 100000 in
set_option maxHeartbeats 4000000 in
theorem hs_run {ox : List (Nat × (Nat → Int32))} {H : am_H} {x0 : Int32} (h : fz H) (hm : mz H) (hs : am_sh H 319 = (102, 1)) (hn : am_nx H = 320) : am_DW 1 ox 9 yL_run mL_run hL_run [.ref 0, .int x0, .ref 319] H (fun o H1 => ∃ k v, o = .inl (some (.int k)) ∧ hk H1 k v ∧ R_run x0 k v) := by
  refine (e_L_run (w := 319) (d := 8) (e_X6_run (d := 2) h) h.s0 (h.lt (by decide)) (by omega) (fun o G hp => ?_)).mono (hs_of hm hs hn (fun o G hp => hp.2) (fun v G hp => ?_) (fun E k G hk hp => ?_))
  · obtain ⟨h1, h2⟩ := hp
    refine ⟨h2.1, (h2.2.1 319 (by omega) (by omega)).1.trans hs, ?_⟩
    rcases h1 with ⟨hc, rfl⟩ | ⟨hc, rfl⟩
    · exact Or.inr ⟨_, 2, by decide, rfl⟩
    · exact Or.inr ⟨_, 1, by decide, rfl⟩
  · obtain ⟨⟨hc, he⟩ | ⟨hc, he⟩, -⟩ := hp
    · cases he
    · cases he
  · obtain ⟨⟨hc, he⟩ | ⟨hc, he⟩, -⟩ := hp
    · cases he
      simp [cs_run] at hk
      subst hk
      exact ⟨by decide, Or.inl ⟨hc, rfl, rfl⟩⟩
    · cases he
      simp [cs_run] at hk
      subst hk
      exact ⟨by decide, Or.inr ⟨hc, rfl, rfl⟩⟩
theorem hm_run {ox : List (Nat × (Nat → Int32))} {x0 : Int32} : ∀ k v H1, R_run x0 k v → mz H1 → am_D ox 9 yX7_run mX7_run [.ref 288, .int x0] H1 (mr k v H1) := by
  intro k v H1 hR h
  refine (e_X7_run (d := 8) h).mono (fun o G hp => ?_)
  rcases hR with ⟨hc, rfl, rfl⟩ | ⟨hc, rfl, rfl⟩
  · rcases hp with ⟨-, hp⟩ | ⟨hc', -⟩
    · exact hp
    · exact absurd hc hc'
  · rcases hp with ⟨hc', -⟩ | ⟨-, hp⟩
    · exact absurd hc' hc
    · exact hp
def R_result (k v : Int32) : Prop := k = 1 ∧ v = 0
set_option maxRecDepth 100000 in
set_option maxHeartbeats 4000000 in
theorem hs_result {ox : List (Nat × (Nat → Int32))} {H : am_H} (h : fz H) (hm : mz H) (hs : am_sh H 319 = (102, 1)) (hn : am_nx H = 320) : am_DW 1 ox 9 yL_result mL_result hL_result [.ref 0, .ref 319] H (fun o H1 => ∃ k v, o = .inl (some (.int k)) ∧ hk H1 k v ∧ R_result k v) := by
  refine (e_L_result (w := 319) (d := 8) (e_X6_result (d := 2) h) h.s0 (h.lt (by decide)) (by omega) (fun o G hp => ?_)).mono (hs_of hm hs hn (fun o G hp => hp.2) (fun v G hp => ?_) (fun E k G hk hp => ?_))
  · obtain ⟨rfl, h2⟩ := hp
    refine ⟨h2.1, (h2.2.1 319 (by omega) (by omega)).1.trans hs, ?_⟩
    exact Or.inr ⟨_, 1, by decide, rfl⟩
  · cases hp.1
  · cases hp.1
    simp [cs_result] at hk
    subst hk
    exact ⟨by decide, rfl, rfl⟩
theorem hm_result {ox : List (Nat × (Nat → Int32))} : ∀ k v H1, R_result k v → mz H1 → am_D ox 9 yX7_result mX7_result [.ref 288] H1 (mr k v H1) := by
  intro k v H1 hR h
  obtain ⟨rfl, rfl⟩ := hR
  exact e_X7_result (d := 8) h
def R_said (x0 : Int32) (k v : Int32) : Prop := k = 1 ∧ v = 0
set_option maxRecDepth 100000 in
set_option maxHeartbeats 4000000 in
theorem hs_said {ox : List (Nat × (Nat → Int32))} {H : am_H} {x0 : Int32} (h : fz H) (hm : mz H) (hs : am_sh H 319 = (102, 1)) (hn : am_nx H = 320) : am_DW 1 ox 9 yL_said mL_said hL_said [.ref 0, .int x0, .ref 319] H (fun o H1 => ∃ k v, o = .inl (some (.int k)) ∧ hk H1 k v ∧ R_said x0 k v) := by
  refine (e_L_said (w := 319) (d := 8) (e_X6_said (d := 2) h) h.s0 (h.lt (by decide)) (by omega) (fun o G hp => ?_)).mono (hs_of hm hs hn (fun o G hp => hp.2) (fun v G hp => ?_) (fun E k G hk hp => ?_))
  · obtain ⟨rfl, h2⟩ := hp
    refine ⟨h2.1, (h2.2.1 319 (by omega) (by omega)).1.trans hs, ?_⟩
    exact Or.inr ⟨_, 1, by decide, rfl⟩
  · cases hp.1
  · cases hp.1
    simp [cs_said] at hk
    subst hk
    exact ⟨by decide, rfl, rfl⟩
theorem hm_said {ox : List (Nat × (Nat → Int32))} {x0 : Int32} : ∀ k v H1, R_said x0 k v → mz H1 → am_D ox 9 yX7_said mX7_said [.ref 288, .int x0] H1 (mr k v H1) := by
  intro k v H1 hR h
  obtain ⟨rfl, rfl⟩ := hR
  exact e_X7_said (d := 8) h
def R_task (x0 x1 : Int32) (k v : Int32) : Prop := (0 ≤ x1 ∧ x1 ≤ 6) ∧ k = 2 ∧ v = 0 ∨ ¬ (0 ≤ x1 ∧ x1 ≤ 6) ∧ k = 1 ∧ v = 0
set_option maxRecDepth 100000 in
set_option maxHeartbeats 4000000 in
theorem hs_task {ox : List (Nat × (Nat → Int32))} {H : am_H} {x0 x1 : Int32} (h : fz H) (hm : mz H) (hs : am_sh H 319 = (102, 1)) (hn : am_nx H = 320) : am_DW 1 ox 9 yL_task mL_task hL_task [.ref 0, .int x0, .int x1, .ref 319] H (fun o H1 => ∃ k v, o = .inl (some (.int k)) ∧ hk H1 k v ∧ R_task x0 x1 k v) := by
  refine (e_L_task (w := 319) (d := 8) (e_X6_task (d := 2) h) h.s0 (h.lt (by decide)) (by omega) (fun o G hp => ?_)).mono (hs_of hm hs hn (fun o G hp => hp.2) (fun v G hp => ?_) (fun E k G hk hp => ?_))
  · obtain ⟨h1, h2⟩ := hp
    refine ⟨h2.1, (h2.2.1 319 (by omega) (by omega)).1.trans hs, ?_⟩
    rcases h1 with ⟨hc, rfl⟩ | ⟨hc, rfl⟩
    · exact Or.inr ⟨_, 2, by decide, rfl⟩
    · exact Or.inr ⟨_, 1, by decide, rfl⟩
  · obtain ⟨⟨hc, he⟩ | ⟨hc, he⟩, -⟩ := hp
    · cases he
    · cases he
  · obtain ⟨⟨hc, he⟩ | ⟨hc, he⟩, -⟩ := hp
    · cases he
      simp [cs_task] at hk
      subst hk
      exact ⟨by decide, Or.inl ⟨hc, rfl, rfl⟩⟩
    · cases he
      simp [cs_task] at hk
      subst hk
      exact ⟨by decide, Or.inr ⟨hc, rfl, rfl⟩⟩
theorem hm_task {ox : List (Nat × (Nat → Int32))} {x0 x1 : Int32} : ∀ k v H1, R_task x0 x1 k v → mz H1 → am_D ox 9 yX7_task mX7_task [.ref 288, .int x0, .int x1] H1 (mr k v H1) := by
  intro k v H1 hR h
  refine (e_X7_task (d := 8) h).mono (fun o G hp => ?_)
  rcases hR with ⟨hc, rfl, rfl⟩ | ⟨hc, rfl, rfl⟩
  · rcases hp with ⟨-, hp⟩ | ⟨hc', -⟩
    · exact hp
    · exact absurd hc hc'
  · rcases hp with ⟨hc', -⟩ | ⟨-, hp⟩
    · exact absurd hc' hc
    · exact hp
def R_future (x0 : Int32) (k v : Int32) : Prop := (0 ≤ x0 ∧ x0 ≤ 3) ∧ k = 2 ∧ v = 0 ∨ ¬ (0 ≤ x0 ∧ x0 ≤ 3) ∧ k = 1 ∧ v = 0
set_option maxRecDepth 100000 in
set_option maxHeartbeats 4000000 in
theorem hs_future {ox : List (Nat × (Nat → Int32))} {H : am_H} {x0 : Int32} (h : fz H) (hm : mz H) (hs : am_sh H 319 = (102, 1)) (hn : am_nx H = 320) : am_DW 1 ox 9 yL_future mL_future hL_future [.ref 0, .int x0, .ref 319] H (fun o H1 => ∃ k v, o = .inl (some (.int k)) ∧ hk H1 k v ∧ R_future x0 k v) := by
  refine (e_L_future (w := 319) (d := 8) (e_X6_future (d := 2) h) h.s0 (h.lt (by decide)) (by omega) (fun o G hp => ?_)).mono (hs_of hm hs hn (fun o G hp => hp.2) (fun v G hp => ?_) (fun E k G hk hp => ?_))
  · obtain ⟨h1, h2⟩ := hp
    refine ⟨h2.1, (h2.2.1 319 (by omega) (by omega)).1.trans hs, ?_⟩
    rcases h1 with ⟨hc, rfl⟩ | ⟨hc, rfl⟩
    · exact Or.inr ⟨_, 2, by decide, rfl⟩
    · exact Or.inr ⟨_, 1, by decide, rfl⟩
  · obtain ⟨⟨hc, he⟩ | ⟨hc, he⟩, -⟩ := hp
    · cases he
    · cases he
  · obtain ⟨⟨hc, he⟩ | ⟨hc, he⟩, -⟩ := hp
    · cases he
      simp [cs_future] at hk
      subst hk
      exact ⟨by decide, Or.inl ⟨hc, rfl, rfl⟩⟩
    · cases he
      simp [cs_future] at hk
      subst hk
      exact ⟨by decide, Or.inr ⟨hc, rfl, rfl⟩⟩
theorem hm_future {ox : List (Nat × (Nat → Int32))} {x0 : Int32} : ∀ k v H1, R_future x0 k v → mz H1 → am_D ox 9 yX7_future mX7_future [.ref 288, .int x0] H1 (mr k v H1) := by
  intro k v H1 hR h
  refine (e_X7_future (d := 8) h).mono (fun o G hp => ?_)
  rcases hR with ⟨hc, rfl, rfl⟩ | ⟨hc, rfl, rfl⟩
  · rcases hp with ⟨-, hp⟩ | ⟨hc', -⟩
    · exact hp
    · exact absurd hc hc'
  · rcases hp with ⟨hc', -⟩ | ⟨-, hp⟩
    · exact absurd hc' hc
    · exact hp
