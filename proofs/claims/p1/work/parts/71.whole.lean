/-! begin's answers, and the law whole at one call. -/
def R_begin (x0 x2 x3 k v : Int32) : Prop := ((0 ≤ x0 ∧ x0 ≤ 7) ∧ (1 ≤ x2 ∧ x2 ≤ 3) ∧ (0 ≤ x3 ∧ x3 ≤ 1)) ∧ k = 0 ∨ ¬ ((0 ≤ x0 ∧ x0 ≤ 7) ∧ (1 ≤ x2 ∧ x2 ≤ 3) ∧ (0 ≤ x3 ∧ x3 ≤ 1)) ∧ k = 1
theorem hs_begin {ox : List (Nat × (Nat → Int32))} {H : am_H} {x0 x1 x2 x3 : Int32} (ho3 : ox[3]? = some (4, fun k => am_t3.getD k 0)) (h : fz H) (hm : mz H) (hs : am_sh H 319 = (102, 1)) (hn : am_nx H = 320) : am_DW 1 ox 9 yL_begin mL_begin hL_begin [.ref 0, .int x0, .int x1, .int x2, .int x3] H (fun o H1 => ∃ k v, o = .inl (some (.int k)) ∧ (mz H1 ∧ am_sh H1 319 = (102, 1) ∧ am_nx H1 = 320 ∧ True) ∧ R_begin x0 x2 x3 k v) := by
  refine (e_L_begin (w := 319) (d := 8) (e_X6_begin (d := 2) ho3 h) h.s0 (h.lt (by decide)) (by omega) (fun o G hp => ?_)).mono (fun o H1 hp => ?_)
  · obtain ⟨h1, h2⟩ := hp
    refine ⟨h2.1, ?_⟩
    rcases h1 with ⟨hc, rfl⟩ | ⟨hc, rfl⟩
    · exact Or.inl rfl
    · exact Or.inr ⟨_, 1, by decide, rfl⟩
  · rcases hp with ⟨⟨h1, h2⟩, rfl⟩ | ⟨E, k, hk, ⟨h1, h2⟩, rfl⟩
    · refine ⟨0, 0, rfl, ⟨hm.kp h2.2.1 (by have := h2.1; omega), (h2.2.1 319 (by omega) (by omega)).1.trans hs, h2.1.trans hn, trivial⟩, ?_⟩
      rcases h1 with ⟨hc, -⟩ | ⟨-, he⟩
      · exact Or.inl ⟨hc, rfl⟩
      · cases he
    · refine ⟨k, 0, rfl, ⟨hm.kp h2.2.1 (by have := h2.1; omega), (h2.2.1 319 (by omega) (by omega)).1.trans hs, h2.1.trans hn, trivial⟩, ?_⟩
      rcases h1 with ⟨-, he⟩ | ⟨hc, he⟩
      · cases he
      · cases he
        simp [cs_begin] at hk
        exact Or.inr ⟨hc, hk⟩
theorem hm_begin {ox : List (Nat × (Nat → Int32))} {x0 x1 x2 x3 : Int32} : ∀ k v H1, R_begin x0 x2 x3 k v → mz H1 → am_D ox 9 yX7_begin mX7_begin [.ref 288, .int x0, .int x1, .int x2, .int x3] H1 (mrv k H1) := by
  intro k v H1 hR h
  refine (e_X7_begin (d := 8) h).mono (fun o G hp => ?_)
  rcases hR with ⟨hc, rfl⟩ | ⟨hc, rfl⟩
  · rcases hp with ⟨-, hp⟩ | ⟨hc', -⟩
    · exact hp
    · exact absurd hc hc'
  · rcases hp with ⟨hc', -⟩ | ⟨-, hp⟩
    · exact absurd hc' hc
    · exact hp
abbrev P_one : Option Value ⊕ String → am_H → Prop := fun o H' => o = .inl (some (.int 1)) ∧ am_nx H' + 1 ≤ 14000
theorem law_exit {c L : Nat} {xs : Nat → Int32} {lv : List (Nat × Value)} {H : am_H} (hn : am_nx H = 320) : am_EB c (am_ox L xs) 10 mLw 638 lv [] H P_one := by
  refine ae_iconst (v := 1) (q := 639) dL_law_638 (by decide) rfl ?_
  refine ae_iret dL_law_639 rfl (by decide) ?_
  exact ⟨rfl, by omega⟩
theorem law_next0 {c : Nat} {xs : Nat → Int32} {H : am_H} (hn : am_nx H = 320) : am_EB c (am_ox 5 xs) 10 mLw 632 [(4, .int 0), (3, .ref 319), (2, .ref 288), (1, .ref 0), (0, .ref 1000000)] [] H P_one := by
  refine ae_iinc (v := 5) (lv' := [(4, .int 5), (3, .ref 319), (2, .ref 288), (1, .ref 0), (0, .ref 1000000)]) (q := 635) dL_law_632 rfl (by decide) (by decide) rfl rfl ?_
  refine ae_goto (q := 23) dL_law_635 (by decide) ?_
  refine ae_iload (q := 25) dL_law_23 rfl rfl ?_
  refine ae_aload_n (q := 26) dL_law_25 rfl rfl rfl ?_
  refine ae_slen (i := 0) (r := (5, xs)) (q := 27) dL_law_26 rfl rfl ?_
  refine ae_iconst (v := 5) (q := 28) dL_law_27 (by decide) rfl ?_
  refine ae_isub (q := 29) dL_law_28 rfl ?_
  refine ae_icmp_gt (t := 638) (q := 32) dL_law_29 (by decide) rfl (fun _ => law_exit hn) (fun q => absurd (by decide : nI 5 - 5 < (5 : Int32)) q)
theorem law_next1 {c : Nat} {xs : Nat → Int32} {k : Int32} {H : am_H} (hn : am_nx H = 320) : am_EB c (am_ox 5 xs) 10 mLw 632 [(5, .int k), (4, .int 0), (3, .ref 319), (2, .ref 288), (1, .ref 0), (0, .ref 1000000)] [] H P_one := by
  refine ae_iinc (v := 5) (lv' := [(4, .int 5), (5, .int k), (3, .ref 319), (2, .ref 288), (1, .ref 0), (0, .ref 1000000)]) (q := 635) dL_law_632 rfl (by decide) (by decide) rfl rfl ?_
  refine ae_goto (q := 23) dL_law_635 (by decide) ?_
  refine ae_iload (q := 25) dL_law_23 rfl rfl ?_
  refine ae_aload_n (q := 26) dL_law_25 rfl rfl rfl ?_
  refine ae_slen (i := 0) (r := (5, xs)) (q := 27) dL_law_26 rfl rfl ?_
  refine ae_iconst (v := 5) (q := 28) dL_law_27 (by decide) rfl ?_
  refine ae_isub (q := 29) dL_law_28 rfl ?_
  refine ae_icmp_gt (t := 638) (q := 32) dL_law_29 (by decide) rfl (fun _ => law_exit hn) (fun q => absurd (by decide : nI 5 - 5 < (5 : Int32)) q)
theorem law_next2 {c : Nat} {xs : Nat → Int32} {k w : Int32} {H : am_H} (hn : am_nx H = 320) : am_EB c (am_ox 5 xs) 10 mLw 632 [(6, .int w), (5, .int k), (4, .int 0), (3, .ref 319), (2, .ref 288), (1, .ref 0), (0, .ref 1000000)] [] H P_one := by
  refine ae_iinc (v := 5) (lv' := [(4, .int 5), (6, .int w), (5, .int k), (3, .ref 319), (2, .ref 288), (1, .ref 0), (0, .ref 1000000)]) (q := 635) dL_law_632 rfl (by decide) (by decide) rfl rfl ?_
  refine ae_goto (q := 23) dL_law_635 (by decide) ?_
  refine ae_iload (q := 25) dL_law_23 rfl rfl ?_
  refine ae_aload_n (q := 26) dL_law_25 rfl rfl rfl ?_
  refine ae_slen (i := 0) (r := (5, xs)) (q := 27) dL_law_26 rfl rfl ?_
  refine ae_iconst (v := 5) (q := 28) dL_law_27 (by decide) rfl ?_
  refine ae_isub (q := 29) dL_law_28 rfl ?_
  refine ae_icmp_gt (t := 638) (q := 32) dL_law_29 (by decide) rfl (fun _ => law_exit hn) (fun q => absurd (by decide : nI 5 - 5 < (5 : Int32)) q)
theorem vin5_0 : vp_in (0 : Int32) 5 := by unfold vp_in; decide
set_option maxRecDepth 100000 in
set_option maxHeartbeats 4000000 in
theorem law_p1 {L : Nat} {xs : Nat → Int32} (hL : L ≤ 5) : am_EB 1 (am_ox L xs) 10 mLw 0 [(0, .ref 1000000)] [] am_H0 P_one := by
  refine law_start (fun H hf hm hs hn => ?_)
  refine ae_iload (q := 25) dL_law_23 rfl rfl ?_
  refine ae_aload_n (q := 26) dL_law_25 rfl rfl rfl ?_
  refine ae_slen (i := 0) (r := (L, xs)) (q := 27) dL_law_26 rfl rfl ?_
  refine ae_iconst (v := 5) (q := 28) dL_law_27 (by decide) rfl ?_
  refine ae_isub (q := 29) dL_law_28 rfl ?_
  refine ae_icmp_gt (t := 638) (q := 32) dL_law_29 (by decide) rfl (fun _ => law_exit hn) (fun hc => ?_)
  have h5 : L = 5 := by
    rcases (show L = 0 ∨ L = 1 ∨ L = 2 ∨ L = 3 ∨ L = 4 ∨ L = 5 by omega) with rfl | rfl | rfl | rfl | rfl | rfl
    · exact absurd (by decide : nI 0 - 5 < (0 : Int32)) hc
    · exact absurd (by decide : nI 1 - 5 < (0 : Int32)) hc
    · exact absurd (by decide : nI 2 - 5 < (0 : Int32)) hc
    · exact absurd (by decide : nI 3 - 5 < (0 : Int32)) hc
    · exact absurd (by decide : nI 4 - 5 < (0 : Int32)) hc
    · rfl
  subst h5
  refine ae_aload_n (q := 33) dL_law_32 rfl rfl rfl ?_
  refine ae_iload (q := 35) dL_law_33 rfl rfl ?_
  refine ae_sld (i := 0) (r := (5, xs)) (q := 36) dL_law_35 rfl vin5_0 rfl ?_
  refine ae_bipush (v := 15) (q := 38) dL_law_36 (by decide) rfl ?_
  refine ae_iand (q := 39) dL_law_38 rfl ?_
  refine ae_topi (fun x ex => ?_)
  clear ex
  have ho : oxt (am_ox 5 xs) := ⟨rfl, rfl⟩
  have ho3 : (am_ox 5 xs)[3]? = some (4, fun k => am_t3.getD k 0) := rfl
  by_cases e0 : x = 0
  · subst e0
    refine ae_tableIn (off := 49) (q := 88) dL_law_39 (by decide) (by decide) (by decide) (by decide) ?_
    exact lc_body (hs_body hf hm hs hn) hm_body hn (fun k w H2 h2 => law_next2 h2)
  by_cases e1 : x = 1
  · subst e1
    refine ae_tableIn (off := 105) (q := 144) dL_law_39 (by decide) (by decide) (by decide) (by decide) ?_
    exact lc_add (hs_add ho hf hm hs hn) hm_add hn (fun k w H2 h2 => law_next2 h2)
  by_cases e2 : x = 2
  · subst e2
    refine ae_tableIn (off := 185) (q := 224) dL_law_39 (by decide) (by decide) (by decide) (by decide) ?_
    exact lc_begin (hs_begin ho3 hf hm hs hn) hm_begin hn (fun k H2 h2 => law_next1 h2)
  by_cases e3 : x = 3
  · subst e3
    refine ae_tableIn (off := 257) (q := 296) dL_law_39 (by decide) (by decide) (by decide) (by decide) ?_
    exact lc_run (hs_run hf hm hs hn) hm_run hn (fun k w H2 h2 => law_next2 h2)
  by_cases e4 : x = 4
  · subst e4
    refine ae_tableIn (off := 313) (q := 352) dL_law_39 (by decide) (by decide) (by decide) (by decide) ?_
    exact lc_result (hs_result hf hm hs hn) hm_result hn (fun k w H2 h2 => law_next2 h2)
  by_cases e5 : x = 5
  · subst e5
    refine ae_tableIn (off := 357) (q := 396) dL_law_39 (by decide) (by decide) (by decide) (by decide) ?_
    exact lc_said (hs_said hf hm hs hn) hm_said hn (fun k w H2 h2 => law_next2 h2)
  by_cases e6 : x = 6
  · subst e6
    refine ae_tableIn (off := 413) (q := 452) dL_law_39 (by decide) (by decide) (by decide) (by decide) ?_
    exact lc_task (hs_task hf hm hs hn) hm_task hn (fun k w H2 h2 => law_next2 h2)
  by_cases e7 : x = 7
  · subst e7
    refine ae_tableIn (off := 481) (q := 520) dL_law_39 (by decide) (by decide) (by decide) (by decide) ?_
    exact lc_future (hs_future hf hm hs hn) hm_future hn (fun k w H2 h2 => law_next2 h2)
  by_cases e8 : x = 8
  · subst e8
    refine ae_tableIn (off := 537) (q := 576) dL_law_39 (by decide) (by decide) (by decide) (by decide) ?_
    exact lc_count (hs_count hf hm hs hn) hm_count hn (fun k w H2 h2 => law_next2 h2)
  have hout : x.toInt < 0 ∨ 8 < x.toInt := by
    by_cases h1 : x.toInt < 0
    · exact Or.inl h1
    · refine Or.inr (Classical.byContradiction fun h2 => ?_)
      have f0 : x.toInt ≠ 0 := fun q => e0 (Int32.toInt_inj.mp (q.trans (by decide)))
      have f1 : x.toInt ≠ 1 := fun q => e1 (Int32.toInt_inj.mp (q.trans (by decide)))
      have f2 : x.toInt ≠ 2 := fun q => e2 (Int32.toInt_inj.mp (q.trans (by decide)))
      have f3 : x.toInt ≠ 3 := fun q => e3 (Int32.toInt_inj.mp (q.trans (by decide)))
      have f4 : x.toInt ≠ 4 := fun q => e4 (Int32.toInt_inj.mp (q.trans (by decide)))
      have f5 : x.toInt ≠ 5 := fun q => e5 (Int32.toInt_inj.mp (q.trans (by decide)))
      have f6 : x.toInt ≠ 6 := fun q => e6 (Int32.toInt_inj.mp (q.trans (by decide)))
      have f7 : x.toInt ≠ 7 := fun q => e7 (Int32.toInt_inj.mp (q.trans (by decide)))
      have f8 : x.toInt ≠ 8 := fun q => e8 (Int32.toInt_inj.mp (q.trans (by decide)))
      omega
  refine ae_tableOut (q := 632) dL_law_39 hout (by decide) ?_
  exact law_next0 hn
