/-! The law's loop, and the law whole. -/
abbrev P_all : Option Value ⊕ String → am_H → Prop := fun o H' => o = .inl (some (.int 1)) ∧ am_nx H' + 512 ≤ 14000
theorem law_exit {c L : Nat} {xs : Nat → Int32} {lv : List (Nat × Value)} {H : am_H} (hn : am_nx H = 320) : am_EB c (am_ox L xs) 10 mLw 431 lv [] H P_all := by
  refine ae_iconst (v := 1) (q := 432) dL_law_431 (by decide) rfl ?_
  refine ae_iret dL_law_432 rfl (by decide) ?_
  exact ⟨rfl, by omega⟩
set_option maxRecDepth 100000 in
set_option maxHeartbeats 4000000 in
theorem law_nx0 {c L : Nat} {xs : Nat → Int32} {i j : Int32}  {H : am_H} {P : Option Value ⊕ String → am_H → Prop} (e : i + Int32.ofInt 5 = j) (kk : am_EB c (am_ox L xs) 10 mLw 23 [(4, .int j), (3, .ref 319), (2, .ref 288), (1, .ref 0), (0, .ref 1000000)] [] H P) : am_EB c (am_ox L xs) 10 mLw 425 [(4, .int i), (3, .ref 319), (2, .ref 288), (1, .ref 0), (0, .ref 1000000)] [] H P := by
  refine ae_iinc (v := j) (lv' := [(4, .int j), (3, .ref 319), (2, .ref 288), (1, .ref 0), (0, .ref 1000000)]) (q := 428) dL_law_425 rfl e (by decide) rfl rfl ?_
  refine ae_goto (q := 23) dL_law_428 (by decide) ?_
  exact ae_lv (lv' := [(4, .int j), (3, .ref 319), (2, .ref 288), (1, .ref 0), (0, .ref 1000000)]) ⟨rfl, rfl, rfl, rfl, rfl, trivial⟩ kk
set_option maxRecDepth 100000 in
set_option maxHeartbeats 4000000 in
theorem law_nx1 {c L : Nat} {xs : Nat → Int32} {i j : Int32} {k : Int32} {H : am_H} {P : Option Value ⊕ String → am_H → Prop} (e : i + Int32.ofInt 5 = j) (kk : am_EB c (am_ox L xs) 10 mLw 23 [(4, .int j), (3, .ref 319), (2, .ref 288), (1, .ref 0), (0, .ref 1000000)] [] H P) : am_EB c (am_ox L xs) 10 mLw 425 [(5, .int k), (4, .int i), (3, .ref 319), (2, .ref 288), (1, .ref 0), (0, .ref 1000000)] [] H P := by
  refine ae_iinc (v := j) (lv' := [(4, .int j), (5, .int k), (3, .ref 319), (2, .ref 288), (1, .ref 0), (0, .ref 1000000)]) (q := 428) dL_law_425 rfl e (by decide) rfl rfl ?_
  refine ae_goto (q := 23) dL_law_428 (by decide) ?_
  exact ae_lv (lv' := [(4, .int j), (3, .ref 319), (2, .ref 288), (1, .ref 0), (0, .ref 1000000)]) ⟨rfl, rfl, rfl, rfl, rfl, trivial⟩ kk
set_option maxRecDepth 100000 in
set_option maxHeartbeats 4000000 in
theorem law_nx2 {c L : Nat} {xs : Nat → Int32} {i j : Int32} {k w : Int32} {H : am_H} {P : Option Value ⊕ String → am_H → Prop} (e : i + Int32.ofInt 5 = j) (kk : am_EB c (am_ox L xs) 10 mLw 23 [(4, .int j), (3, .ref 319), (2, .ref 288), (1, .ref 0), (0, .ref 1000000)] [] H P) : am_EB c (am_ox L xs) 10 mLw 425 [(6, .int w), (5, .int k), (4, .int i), (3, .ref 319), (2, .ref 288), (1, .ref 0), (0, .ref 1000000)] [] H P := by
  refine ae_iinc (v := j) (lv' := [(4, .int j), (6, .int w), (5, .int k), (3, .ref 319), (2, .ref 288), (1, .ref 0), (0, .ref 1000000)]) (q := 428) dL_law_425 rfl e (by decide) rfl rfl ?_
  refine ae_goto (q := 23) dL_law_428 (by decide) ?_
  exact ae_lv (lv' := [(4, .int j), (3, .ref 319), (2, .ref 288), (1, .ref 0), (0, .ref 1000000)]) ⟨rfl, rfl, rfl, rfl, rfl, trivial⟩ kk
theorem am_EB.up {c : Nat} {ox : List (Nat × (Nat → Int32))} {d : Nat} {M : am_M} {pc : Nat} {lv : List (Nat × Value)} {st : List Value} {H : am_H} {P : Option Value ⊕ String → am_H → Prop} (h : am_EB c ox d M pc lv st H P) : am_EB (c + 1) ox d M pc lv st H P := by
  obtain ⟨o, H', hV, h1, h2, h3, h4⟩ := h
  exact ⟨o, H', hV, h1, h2, h3.le (by omega), h4⟩
set_option maxRecDepth 100000 in
set_option maxHeartbeats 4000000 in
theorem law_loop {L : Nat} {xs : Nat → Int32} (hL : L ≤ 2560) : ∀ (n : Nat) (i : Int32) (H : am_H), n ≤ 512 → 0 ≤ i.toInt → i.toInt ≤ 2560 → (L : Int) - i.toInt ≤ 5 * n + 4 → LJ (1800 * (512 - n)) H → am_EB n (am_ox L xs) 10 mLw 23 [(4, .int i), (3, .ref 319), (2, .ref 288), (1, .ref 0), (0, .ref 1000000)] [] H P_all := by
  have ho : oxt (am_ox L xs) := ⟨rfl, rfl⟩
  have ho3 : (am_ox L xs)[3]? = some (4, fun k => am_t3.getD k 0) := rfl
  have tL : (nI L).toInt = (L : Int) := Int32.toInt_ofNat_of_lt (by omega)
  have t5 : (nI L - 5 : Int32).toInt = (L : Int) - 5 := i_sub tL (by decide) (by omega) (by omega)
  intro n
  induction n with
  | zero =>
    intro i H _ i0 i1 hm h
    refine ae_iload (q := 25) dL_law_23 rfl rfl ?_
    refine ae_aload_n (q := 26) dL_law_25 rfl rfl rfl ?_
    refine ae_slen (i := 0) (r := (L, xs)) (q := 27) dL_law_26 rfl rfl ?_
    refine ae_iconst (v := 5) (q := 28) dL_law_27 (by decide) rfl ?_
    refine ae_isub (q := 29) dL_law_28 rfl ?_
    refine ae_icmp_gt (t := 431) (q := 32) dL_law_29 (by decide) rfl (fun _ => law_exit h.1.2) (fun hc => ?_)
    have hc := i_nlt (a := (L : Int) - 5) (b := i.toInt) t5 rfl hc
    exfalso; omega
  | succ n ih =>
    intro i H hn i0 i1 hm h
    refine ae_iload (q := 25) dL_law_23 rfl rfl ?_
    refine ae_aload_n (q := 26) dL_law_25 rfl rfl rfl ?_
    refine ae_slen (i := 0) (r := (L, xs)) (q := 27) dL_law_26 rfl rfl ?_
    refine ae_iconst (v := 5) (q := 28) dL_law_27 (by decide) rfl ?_
    refine ae_isub (q := 29) dL_law_28 rfl ?_
    refine ae_icmp_gt (t := 431) (q := 32) dL_law_29 (by decide) rfl (fun _ => law_exit h.1.2) (fun hc => ?_)
    have hc := i_nlt (a := (L : Int) - 5) (b := i.toInt) t5 rfl hc
    have i5 : i.toInt + 5 ≤ L := by omega
    obtain ⟨j, ej⟩ : ∃ j, i + Int32.ofInt 5 = j := ⟨_, rfl⟩
    have tj : j.toInt = i.toInt + 5 := by rw [← ej]; exact i_add rfl (by decide) (by omega) (by omega)
    have nx : ∀ H2, LJ (1800 * (512 - n)) H2 → am_EB n (am_ox L xs) 10 mLw 23 [(4, .int j), (3, .ref 319), (2, .ref 288), (1, .ref 0), (0, .ref 1000000)] [] H2 P_all := fun H2 h2 => ih j H2 (by omega) (by omega) (by omega) (by omega) h2
    have nu : ∀ H2, LJ (1800 * (512 - (n + 1))) H2 → am_EB n (am_ox L xs) 10 mLw 23 [(4, .int j), (3, .ref 319), (2, .ref 288), (1, .ref 0), (0, .ref 1000000)] [] H2 P_all := fun H2 h2 => nx H2 (h2.up (by omega))
    refine ae_aload_n (q := 33) dL_law_32 rfl rfl rfl ?_
    refine ae_iload (q := 35) dL_law_33 rfl rfl ?_
    refine ae_sld (i := 0) (r := (L, xs)) (q := 36) dL_law_35 rfl (vin i0 (by omega)) rfl ?_
    refine ae_bipush (v := 15) (q := 38) dL_law_36 (by decide) rfl ?_
    refine ae_iand (q := 39) dL_law_38 rfl ?_
    refine ae_topi (fun x ex => ?_)
    clear ex
    have cx : x.toInt = 0 ∨ x.toInt = 1 ∨ x.toInt = 2 ∨ x.toInt = 3 ∨ x.toInt = 4 ∨ x.toInt = 5 ∨ x.toInt = 6 ∨ x.toInt = 7 ∨ x.toInt = 8 ∨ (x.toInt < 0 ∨ 8 < x.toInt) := by omega
    rcases cx with cx | cx | cx | cx | cx | cx | cx | cx | cx | cx
    · have jx : x = 0 := Int32.toInt_inj.mp (by rw [cx]; decide)
      refine ae_tableIn (off := 49) (q := 88) dL_law_39 (by rw [jx]; decide) (by rw [jx]; decide) (by rw [jx]; decide) (by decide) ?_
      exact tn_body (S2 := (fun k w H2 => LJ (1800 * (512 - (n + 1))) H2 ∧ am_gi H2 288 37 = k ∧ (k = 0 → am_gl H2 319 0 = w.toInt64))) hL i0 i5 h.1.2 (hs_body h) (hm_body h) (fun k w H2 q => q.1.1.2) (fun k w H2 q => law_nx2 ej (nu H2 q.1))
    · have jx : x = 1 := Int32.toInt_inj.mp (by rw [cx]; decide)
      refine ae_tableIn (off := 77) (q := 116) dL_law_39 (by rw [jx]; decide) (by rw [jx]; decide) (by rw [jx]; decide) (by decide) ?_
      exact tn_add (S2 := (fun k w H2 => LJ (1800 * (512 - (n + 1))) H2 ∧ am_gi H2 288 37 = k ∧ (k = 0 → am_gl H2 319 0 = w.toInt64))) hL i0 i5 h.1.2 (hs_add ho h) (hm_add h) (fun k w H2 q => q.1.1.2) (fun k w H2 q => ⟨s_m q.1.1.1, q.1.1.1.s (a := 319) (T := 50) (by decide) rfl, q.2.1, q.2.2⟩) (fun k w H2 q => law_nx2 ej (nu H2 q.1))
    · have jx : x = 2 := Int32.toInt_inj.mp (by rw [cx]; decide)
      refine ae_tableIn (off := 157) (q := 196) dL_law_39 (by rw [jx]; decide) (by rw [jx]; decide) (by rw [jx]; decide) (by decide) ?_
      exact tn_begin (S1 := fun k H1 => LJ (1800 * (512 - (n + 1))) H1) (S2 := fun k _ H2 => LJ (1800 * (512 - (n + 1))) H2) hL i0 i5 h.1.2 ((hs_begin ho3 h).mono (fun o H1 q => by obtain ⟨k, hk, q1, -⟩ := q; exact ⟨k, hk, q1⟩)) (fun k H1 q => ⟨q.sm, (hm_begin q).mono (fun o H2 p => ⟨p.1, p.2.1⟩)⟩) (fun k w H2 q => q.1.2) (fun k w H2 q => law_nx1 ej (nu H2 q))
    · have jx : x = 3 := Int32.toInt_inj.mp (by rw [cx]; decide)
      refine ae_tableIn (off := 218) (q := 257) dL_law_39 (by rw [jx]; decide) (by rw [jx]; decide) (by rw [jx]; decide) (by decide) ?_
      exact tn_run (S1 := fun k H1 => LJ (1800 * (512 - (n + 1)) + 600) H1) (S2 := fun k _ H2 => LJ (1800 * (512 - (n + 1)) + 600 + 1200) H2) hL i0 i5 h.1.2 (hs_run ho3 (by omega) h) (fun k H1 q => ⟨q.sm, hm_run (by omega) q⟩) (fun k w H2 q => q.1.2) (fun k w H2 q => law_nx2 ej (nx H2 (q.up (by omega))))
    · have jx : x = 4 := Int32.toInt_inj.mp (by rw [cx]; decide)
      refine ae_tableIn (off := 246) (q := 285) dL_law_39 (by rw [jx]; decide) (by rw [jx]; decide) (by rw [jx]; decide) (by decide) ?_
      exact tn_result (S1 := fun k H1 => LJ (1800 * (512 - (n + 1))) H1) (S2 := fun k _ H2 => LJ (1800 * (512 - (n + 1))) H2) hL i0 i5 h.1.2 (hs_result h) (fun k H1 q => ⟨q.sm, hm_result q⟩) (fun k w H2 q => q.1.2) (fun k w H2 q => law_nx2 ej (nu H2 q))
    · have jx : x = 5 := Int32.toInt_inj.mp (by rw [cx]; decide)
      refine ae_tableIn (off := 262) (q := 301) dL_law_39 (by rw [jx]; decide) (by rw [jx]; decide) (by rw [jx]; decide) (by decide) ?_
      exact tn_said (S1 := fun k H1 => LJ (1800 * (512 - (n + 1))) H1) (S2 := fun k _ H2 => LJ (1800 * (512 - (n + 1))) H2) hL i0 i5 h.1.2 (hs_said h) (fun k H1 q => ⟨q.sm, hm_said q⟩) (fun k w H2 q => q.1.2) (fun k w H2 q => law_nx2 ej (nu H2 q))
    · have jx : x = 6 := Int32.toInt_inj.mp (by rw [cx]; decide)
      refine ae_tableIn (off := 290) (q := 329) dL_law_39 (by rw [jx]; decide) (by rw [jx]; decide) (by rw [jx]; decide) (by decide) ?_
      exact tn_task (S1 := fun k H1 => LJ (1800 * (512 - (n + 1))) H1) (S2 := fun k _ H2 => LJ (1800 * (512 - (n + 1))) H2) hL i0 i5 h.1.2 (hs_task h) (fun k H1 q => ⟨q.sm, hm_task q⟩) (fun k w H2 q => q.1.2) (fun k w H2 q => law_nx2 ej (nu H2 q))
    · have jx : x = 7 := Int32.toInt_inj.mp (by rw [cx]; decide)
      refine ae_tableIn (off := 330) (q := 369) dL_law_39 (by rw [jx]; decide) (by rw [jx]; decide) (by rw [jx]; decide) (by decide) ?_
      exact tn_future (S1 := fun k H1 => LJ (1800 * (512 - (n + 1))) H1) (S2 := fun k _ H2 => LJ (1800 * (512 - (n + 1))) H2) hL i0 i5 h.1.2 (hs_future h) (fun k H1 q => ⟨q.sm, hm_future q⟩) (fun k w H2 q => q.1.2) (fun k w H2 q => law_nx2 ej (nu H2 q))
    · have jx : x = 8 := Int32.toInt_inj.mp (by rw [cx]; decide)
      refine ae_tableIn (off := 358) (q := 397) dL_law_39 (by rw [jx]; decide) (by rw [jx]; decide) (by rw [jx]; decide) (by decide) ?_
      exact tn_count (S1 := fun k H1 => LJ (1800 * (512 - (n + 1))) H1) (S2 := fun k _ H2 => LJ (1800 * (512 - (n + 1))) H2) hL i0 i5 h.1.2 (hs_count h) (fun k H1 q => ⟨q.sm, hm_count q⟩) (fun k w H2 q => q.1.2) (fun k w H2 q => law_nx2 ej (nu H2 q))
    · refine ae_tableOut (q := 425) dL_law_39 cx (by decide) ?_
      exact (law_nx0 ej (nu H h)).up
theorem law_whole {L : Nat} {xs : Nat → Int32} (hL : L ≤ 2560) : am_EB 512 (am_ox L xs) 10 mLw 0 [(0, .ref 1000000)] [] am_H0 P_all := by
  refine law_start (fun H hf hm hs hn => ?_)
  exact law_loop hL 512 0 H (by omega) (by decide) (by decide) (by rw [show (0 : Int32).toInt = 0 by decide]; omega) (LJ.start hf hm hs hn)
