/-! One call of the law: the class's helper, then the reference, then what they answer. -/
def hk (H1 : am_H) (k v : Int32) : Prop := mz H1 ∧ am_sh H1 319 = (102, 1) ∧ am_nx H1 = 320 ∧ (k = 0 → am_gl H1 319 0 = v.toInt64)
def mrv (k : Int32) (H : am_H) (o : Option Value ⊕ String) (H1 : am_H) : Prop := o = .inl none ∧ am_gi H1 288 37 = k ∧ qz H H1
theorem lg_cmp_rf {x : Int64} : lg_cmp x x = 0 := by unfold lg_cmp; simp
theorem am_DW.mono {c d : Nat} {ox : List (Nat × (Nat → Int32))} {y : MethodName} {M : am_M} {hh : List (Nat × Nat × Nat × Nat)} {as : List Value} {H : am_H} {P P1 : Option Value ⊕ String → am_H → Prop} (h : am_DW c ox d y M hh as H P1) (hP : ∀ o H', P1 o H' → P o H') : am_DW c ox d y M hh as H P := by
  obtain ⟨o, H', hV, hm1, hm2, hm3⟩ := h
  exact ⟨o, H', hV, hm1, hm2, hm3.1, hP o H' hm3.2⟩
theorem hs_of {cs : List (String × Int32)} {R : Int32 → Int32 → Prop} {H : am_H} {P1 : Option Value ⊕ String → am_H → Prop} (hm : mz H) (hs : am_sh H 319 = (102, 1)) (hn : am_nx H = 320) (hP : ∀ o G, P1 o G → pz H G) (hA : ∀ v G, P1 (.inl (some (.int v))) G → R 0 v) (hB : ∀ E k G, (E, k) ∈ cs → P1 (.inr E) G → k ≠ 0 ∧ R k 0) : ∀ o H1, lx P1 319 cs o H1 → ∃ k v, o = .inl (some (.int k)) ∧ hk H1 k v ∧ R k v := by
  intro o H1 h
  rcases h with ⟨v, G, hp, rfl, rfl⟩ | ⟨E, k, hmem, hp, rfl⟩
  · obtain ⟨p1, p2, -⟩ := hP _ _ hp
    exact ⟨0, v, rfl, ⟨hm.kp (show am_Kp 288 320 H (am_sl G 319 0 v.toInt64) from p2) (by show 320 ≤ am_nx G; omega), (p2 319 (by omega) (by omega)).1.trans hs, p1.trans hn, fun _ => am_u2_self (am_gl G) 319 0 v.toInt64⟩, hA v G hp⟩
  · obtain ⟨p1, p2, -⟩ := hP _ _ hp
    obtain ⟨q1, q2⟩ := hB E k H1 hmem hp
    exact ⟨k, 0, rfl, ⟨hm.kp p2 (by omega), (p2 319 (by omega) (by omega)).1.trans hs, p1.trans hn, fun q => absurd q q1⟩, q2⟩
theorem vin5_1 : vp_in ((0 : Int32) + 1) 5 := by unfold vp_in; decide
theorem vin5_2 : vp_in ((0 : Int32) + 2) 5 := by unfold vp_in; decide
theorem vin5_3 : vp_in ((0 : Int32) + 3) 5 := by unfold vp_in; decide
theorem vin5_4 : vp_in ((0 : Int32) + 4) 5 := by unfold vp_in; decide
set_option maxRecDepth 100000 in
set_option maxHeartbeats 4000000 in
theorem lc_body {xs : Nat → Int32} {H : am_H} {P : Option Value ⊕ String → am_H → Prop} {R : Int32 → Int32 → Prop} (hH : am_DW 1 (am_ox 5 xs) 9 yL_body mL_body hL_body [.ref 0, .int (xs 1), .ref 319] H (fun o H1 => ∃ k v, o = .inl (some (.int k)) ∧ hk H1 k v ∧ R k v)) (hM : ∀ k v H1, R k v → mz H1 → am_D (am_ox 5 xs) 9 yX7_body mX7_body [.ref 288, .int (xs 1)] H1 (mr k v H1)) (hn : am_nx H = 320) (kx : ∀ k w H2, am_nx H2 = 320 → am_EB 0 (am_ox 5 xs) 10 mLw 632 [(6, .int w), (5, .int k), (4, .int 0), (3, .ref 319), (2, .ref 288), (1, .ref 0), (0, .ref 1000000)] [] H2 P) : am_EB 1 (am_ox 5 xs) 10 mLw 88 [(4, .int 0), (3, .ref 319), (2, .ref 288), (1, .ref 0), (0, .ref 1000000)] [] H P := by
  refine ae_aload_n (q := 89) dL_law_88 rfl rfl rfl ?_
  refine ae_aload_n (q := 90) dL_law_89 rfl rfl rfl ?_
  refine ae_iload (q := 92) dL_law_90 rfl rfl ?_
  refine ae_iconst (v := 1) (q := 93) dL_law_92 (by decide) rfl ?_
  refine ae_iadd (q := 94) dL_law_93 rfl ?_
  refine ae_sld (i := 0) (r := (5, xs)) (q := 95) dL_law_94 rfl vin5_1 rfl ?_
  refine ae_eqi (show xs ((0 : Int32) + 1).toNatClampNeg = xs 1 from congrArg xs (by decide)) ?_
  refine ae_aload_n (q := 96) dL_law_95 rfl rfl rfl ?_
  refine ae_callSW (c2 := 0) (as := [.ref 0, .int (xs 1), .ref 319]) (st := []) (q := 99) dL_law_96 hH mwL_body lk_L_55 sm_L_body rfl rfl (Nat.le_of_ble_eq_true rfl) rfl (Nat.le_refl _) (fun o H1 h => by obtain ⟨k, v, rfl, -⟩ := h; exact ⟨_, rfl⟩) (fun v1 H1 h => ?_)
  obtain ⟨k, v, hk1, ⟨hm1, hs1, hn1, hg1⟩, hR⟩ := h
  cases hk1
  refine ⟨Or.inl (hn1.trans hn.symm), ?_⟩
  show am_EB 0 (am_ox 5 xs) 10 mLw 99 [(4, .int 0), (3, .ref 319), (2, .ref 288), (1, .ref 0), (0, .ref 1000000)] [.int k] H1 P
  refine ae_istore (lv' := [(5, .int k), (4, .int 0), (3, .ref 319), (2, .ref 288), (1, .ref 0), (0, .ref 1000000)]) (q := 101) dL_law_99 (by decide) rfl rfl ?_
  refine ae_aload_n (q := 102) dL_law_101 rfl rfl rfl ?_
  refine ae_aload_n (q := 103) dL_law_102 rfl rfl rfl ?_
  refine ae_iload (q := 105) dL_law_103 rfl rfl ?_
  refine ae_iconst (v := 1) (q := 106) dL_law_105 (by decide) rfl ?_
  refine ae_iadd (q := 107) dL_law_106 rfl ?_
  refine ae_sld (i := 0) (r := (5, xs)) (q := 108) dL_law_107 rfl vin5_1 rfl ?_
  refine ae_eqi (show xs ((0 : Int32) + 1).toNatClampNeg = xs 1 from congrArg xs (by decide)) ?_
  refine ae_callV (ci := 7) (as := [.int (xs 1)]) (b := 288) (st := []) (q := 111) dL_law_108 (hM k v H1 hR hm1) myX7_body lk_L_60 im_X7_body se_X7_body rfl (by decide) hm1.s (hm1.lt (by decide)) rfl rfl (Nat.le_of_ble_eq_true rfl) rfl (fun o G h => by obtain ⟨⟨w, rfl, -⟩, -⟩ := h; exact ⟨_, rfl⟩) (fun v2 H2 h => ?_)
  obtain ⟨⟨w, hw1, hw2⟩, hw3, hw4, hw5, hw6⟩ := h
  cases hw1
  refine ⟨Or.inl hw4, ?_⟩
  show am_EB 0 (am_ox 5 xs) 10 mLw 111 [(5, .int k), (4, .int 0), (3, .ref 319), (2, .ref 288), (1, .ref 0), (0, .ref 1000000)] [.int w] H2 P
  refine ae_istore (lv' := [(6, .int w), (5, .int k), (4, .int 0), (3, .ref 319), (2, .ref 288), (1, .ref 0), (0, .ref 1000000)]) (q := 113) dL_law_111 (by decide) rfl rfl ?_
  refine ae_aload_n (q := 114) dL_law_113 rfl rfl rfl ?_
  have s2 : am_sh H2 288 = (7, am_Nf 7) := by rw [hw5]; exact hm1.s
  have b2 : 288 < am_nx H2 := by rw [hw4]; exact hm1.lt (by decide)
  refine ae_callV (ci := 7) (as := []) (b := 288) (st := []) (q := 117) dL_law_114 (e_X7_thrown s2 b2) myX7_thrown lk_L_61 im_X7_thrown se_X7_thrown rfl (by decide) s2 b2 rfl rfl (Nat.le_of_ble_eq_true rfl) rfl (fun o G h => ⟨_, h.1⟩) (fun v3 H3 h => ?_)
  obtain ⟨h1, h2⟩ := h
  subst h2
  cases h1
  refine ⟨Or.inl rfl, ?_⟩
  show am_EB 0 (am_ox 5 xs) 10 mLw 117 [(6, .int w), (5, .int k), (4, .int 0), (3, .ref 319), (2, .ref 288), (1, .ref 0), (0, .ref 1000000)] [.int (am_gi H3 288 37)] H3 P
  refine ae_eqi hw3 ?_
  refine ae_iload (q := 119) dL_law_117 rfl rfl ?_
  refine ae_icmp_eq (t := 124) (q := 122) dL_law_119 (by decide) rfl (fun _ => ?_) (fun c => absurd rfl c)
  refine ae_iload (q := 126) dL_law_124 rfl rfl ?_
  refine ae_if_ne (t := 141) (q := 129) dL_law_126 (by decide) rfl (fun _ => ?_) (fun c => ?_)
  · refine ae_goto (q := 632) dL_law_141 (by decide) ?_
    exact kx k w _ (hw4.trans hn1)
  · refine ae_aload_n (q := 130) dL_law_129 rfl rfl rfl ?_
    refine ae_iconst (v := 0) (q := 131) dL_law_130 (by decide) rfl ?_
    refine ae_lald (n := 1) (q := 132) dL_law_131 (by rw [hw5]; exact hs1) (by rw [hw4, hn1]; decide) (by unfold vp_in; decide) rfl ?_
    refine ae_eql (show am_gl H3 319 (0 : Int32).toNatClampNeg = v.toInt64 by rw [hw6]; exact hg1 c) ?_
    refine ae_iload (q := 134) dL_law_132 rfl rfl ?_
    refine ae_i2l (q := 135) dL_law_134 rfl ?_
    refine ae_lcmp (q := 136) dL_law_135 rfl ?_
    refine ae_eqi (show lg_cmp v.toInt64 w.toInt64 = 0 by rw [hw2 c]; exact lg_cmp_rf) ?_
    refine ae_if_eq (t := 141) (q := 139) dL_law_136 (by decide) rfl (fun _ => ?_) (fun c => absurd rfl c)
    refine ae_goto (q := 632) dL_law_141 (by decide) ?_
    exact kx k w _ (hw4.trans hn1)
set_option maxRecDepth 100000 in
set_option maxHeartbeats 4000000 in
theorem lc_add {xs : Nat → Int32} {H : am_H} {P : Option Value ⊕ String → am_H → Prop} {R : Int32 → Int32 → Prop} (hH : am_DW 1 (am_ox 5 xs) 9 yL_add mL_add hL_add [.ref 0, .int (xs 1), .int (xs 2), .int (xs 3), .ref 319] H (fun o H1 => ∃ k v, o = .inl (some (.int k)) ∧ hk H1 k v ∧ R k v)) (hM : ∀ k v H1, R k v → mz H1 → am_D (am_ox 5 xs) 9 yX7_add mX7_add [.ref 288, .int (xs 1), .int (xs 2), .int (xs 3)] H1 (mr k v H1)) (hn : am_nx H = 320) (kx : ∀ k w H2, am_nx H2 = 320 → am_EB 0 (am_ox 5 xs) 10 mLw 632 [(6, .int w), (5, .int k), (4, .int 0), (3, .ref 319), (2, .ref 288), (1, .ref 0), (0, .ref 1000000)] [] H2 P) : am_EB 1 (am_ox 5 xs) 10 mLw 144 [(4, .int 0), (3, .ref 319), (2, .ref 288), (1, .ref 0), (0, .ref 1000000)] [] H P := by
  refine ae_aload_n (q := 145) dL_law_144 rfl rfl rfl ?_
  refine ae_aload_n (q := 146) dL_law_145 rfl rfl rfl ?_
  refine ae_iload (q := 148) dL_law_146 rfl rfl ?_
  refine ae_iconst (v := 1) (q := 149) dL_law_148 (by decide) rfl ?_
  refine ae_iadd (q := 150) dL_law_149 rfl ?_
  refine ae_sld (i := 0) (r := (5, xs)) (q := 151) dL_law_150 rfl vin5_1 rfl ?_
  refine ae_eqi (show xs ((0 : Int32) + 1).toNatClampNeg = xs 1 from congrArg xs (by decide)) ?_
  refine ae_aload_n (q := 152) dL_law_151 rfl rfl rfl ?_
  refine ae_iload (q := 154) dL_law_152 rfl rfl ?_
  refine ae_iconst (v := 2) (q := 155) dL_law_154 (by decide) rfl ?_
  refine ae_iadd (q := 156) dL_law_155 rfl ?_
  refine ae_sld (i := 0) (r := (5, xs)) (q := 157) dL_law_156 rfl vin5_2 rfl ?_
  refine ae_eqi (show xs ((0 : Int32) + 2).toNatClampNeg = xs 2 from congrArg xs (by decide)) ?_
  refine ae_aload_n (q := 158) dL_law_157 rfl rfl rfl ?_
  refine ae_iload (q := 160) dL_law_158 rfl rfl ?_
  refine ae_iconst (v := 3) (q := 161) dL_law_160 (by decide) rfl ?_
  refine ae_iadd (q := 162) dL_law_161 rfl ?_
  refine ae_sld (i := 0) (r := (5, xs)) (q := 163) dL_law_162 rfl vin5_3 rfl ?_
  refine ae_eqi (show xs ((0 : Int32) + 3).toNatClampNeg = xs 3 from congrArg xs (by decide)) ?_
  refine ae_aload_n (q := 164) dL_law_163 rfl rfl rfl ?_
  refine ae_callSW (c2 := 0) (as := [.ref 0, .int (xs 1), .int (xs 2), .int (xs 3), .ref 319]) (st := []) (q := 167) dL_law_164 hH mwL_add lk_L_64 sm_L_add rfl rfl (Nat.le_of_ble_eq_true rfl) rfl (Nat.le_refl _) (fun o H1 h => by obtain ⟨k, v, rfl, -⟩ := h; exact ⟨_, rfl⟩) (fun v1 H1 h => ?_)
  obtain ⟨k, v, hk1, ⟨hm1, hs1, hn1, hg1⟩, hR⟩ := h
  cases hk1
  refine ⟨Or.inl (hn1.trans hn.symm), ?_⟩
  show am_EB 0 (am_ox 5 xs) 10 mLw 167 [(4, .int 0), (3, .ref 319), (2, .ref 288), (1, .ref 0), (0, .ref 1000000)] [.int k] H1 P
  refine ae_istore (lv' := [(5, .int k), (4, .int 0), (3, .ref 319), (2, .ref 288), (1, .ref 0), (0, .ref 1000000)]) (q := 169) dL_law_167 (by decide) rfl rfl ?_
  refine ae_aload_n (q := 170) dL_law_169 rfl rfl rfl ?_
  refine ae_aload_n (q := 171) dL_law_170 rfl rfl rfl ?_
  refine ae_iload (q := 173) dL_law_171 rfl rfl ?_
  refine ae_iconst (v := 1) (q := 174) dL_law_173 (by decide) rfl ?_
  refine ae_iadd (q := 175) dL_law_174 rfl ?_
  refine ae_sld (i := 0) (r := (5, xs)) (q := 176) dL_law_175 rfl vin5_1 rfl ?_
  refine ae_eqi (show xs ((0 : Int32) + 1).toNatClampNeg = xs 1 from congrArg xs (by decide)) ?_
  refine ae_aload_n (q := 177) dL_law_176 rfl rfl rfl ?_
  refine ae_iload (q := 179) dL_law_177 rfl rfl ?_
  refine ae_iconst (v := 2) (q := 180) dL_law_179 (by decide) rfl ?_
  refine ae_iadd (q := 181) dL_law_180 rfl ?_
  refine ae_sld (i := 0) (r := (5, xs)) (q := 182) dL_law_181 rfl vin5_2 rfl ?_
  refine ae_eqi (show xs ((0 : Int32) + 2).toNatClampNeg = xs 2 from congrArg xs (by decide)) ?_
  refine ae_aload_n (q := 183) dL_law_182 rfl rfl rfl ?_
  refine ae_iload (q := 185) dL_law_183 rfl rfl ?_
  refine ae_iconst (v := 3) (q := 186) dL_law_185 (by decide) rfl ?_
  refine ae_iadd (q := 187) dL_law_186 rfl ?_
  refine ae_sld (i := 0) (r := (5, xs)) (q := 188) dL_law_187 rfl vin5_3 rfl ?_
  refine ae_eqi (show xs ((0 : Int32) + 3).toNatClampNeg = xs 3 from congrArg xs (by decide)) ?_
  refine ae_callV (ci := 7) (as := [.int (xs 1), .int (xs 2), .int (xs 3)]) (b := 288) (st := []) (q := 191) dL_law_188 (hM k v H1 hR hm1) myX7_add lk_L_67 im_X7_add se_X7_add rfl (by decide) hm1.s (hm1.lt (by decide)) rfl rfl (Nat.le_of_ble_eq_true rfl) rfl (fun o G h => by obtain ⟨⟨w, rfl, -⟩, -⟩ := h; exact ⟨_, rfl⟩) (fun v2 H2 h => ?_)
  obtain ⟨⟨w, hw1, hw2⟩, hw3, hw4, hw5, hw6⟩ := h
  cases hw1
  refine ⟨Or.inl hw4, ?_⟩
  show am_EB 0 (am_ox 5 xs) 10 mLw 191 [(5, .int k), (4, .int 0), (3, .ref 319), (2, .ref 288), (1, .ref 0), (0, .ref 1000000)] [.int w] H2 P
  refine ae_istore (lv' := [(6, .int w), (5, .int k), (4, .int 0), (3, .ref 319), (2, .ref 288), (1, .ref 0), (0, .ref 1000000)]) (q := 193) dL_law_191 (by decide) rfl rfl ?_
  refine ae_aload_n (q := 194) dL_law_193 rfl rfl rfl ?_
  have s2 : am_sh H2 288 = (7, am_Nf 7) := by rw [hw5]; exact hm1.s
  have b2 : 288 < am_nx H2 := by rw [hw4]; exact hm1.lt (by decide)
  refine ae_callV (ci := 7) (as := []) (b := 288) (st := []) (q := 197) dL_law_194 (e_X7_thrown s2 b2) myX7_thrown lk_L_61 im_X7_thrown se_X7_thrown rfl (by decide) s2 b2 rfl rfl (Nat.le_of_ble_eq_true rfl) rfl (fun o G h => ⟨_, h.1⟩) (fun v3 H3 h => ?_)
  obtain ⟨h1, h2⟩ := h
  subst h2
  cases h1
  refine ⟨Or.inl rfl, ?_⟩
  show am_EB 0 (am_ox 5 xs) 10 mLw 197 [(6, .int w), (5, .int k), (4, .int 0), (3, .ref 319), (2, .ref 288), (1, .ref 0), (0, .ref 1000000)] [.int (am_gi H3 288 37)] H3 P
  refine ae_eqi hw3 ?_
  refine ae_iload (q := 199) dL_law_197 rfl rfl ?_
  refine ae_icmp_eq (t := 204) (q := 202) dL_law_199 (by decide) rfl (fun _ => ?_) (fun c => absurd rfl c)
  refine ae_iload (q := 206) dL_law_204 rfl rfl ?_
  refine ae_if_ne (t := 221) (q := 209) dL_law_206 (by decide) rfl (fun _ => ?_) (fun c => ?_)
  · refine ae_goto (q := 632) dL_law_221 (by decide) ?_
    exact kx k w _ (hw4.trans hn1)
  · refine ae_aload_n (q := 210) dL_law_209 rfl rfl rfl ?_
    refine ae_iconst (v := 0) (q := 211) dL_law_210 (by decide) rfl ?_
    refine ae_lald (n := 1) (q := 212) dL_law_211 (by rw [hw5]; exact hs1) (by rw [hw4, hn1]; decide) (by unfold vp_in; decide) rfl ?_
    refine ae_eql (show am_gl H3 319 (0 : Int32).toNatClampNeg = v.toInt64 by rw [hw6]; exact hg1 c) ?_
    refine ae_iload (q := 214) dL_law_212 rfl rfl ?_
    refine ae_i2l (q := 215) dL_law_214 rfl ?_
    refine ae_lcmp (q := 216) dL_law_215 rfl ?_
    refine ae_eqi (show lg_cmp v.toInt64 w.toInt64 = 0 by rw [hw2 c]; exact lg_cmp_rf) ?_
    refine ae_if_eq (t := 221) (q := 219) dL_law_216 (by decide) rfl (fun _ => ?_) (fun c => absurd rfl c)
    refine ae_goto (q := 632) dL_law_221 (by decide) ?_
    exact kx k w _ (hw4.trans hn1)
set_option maxRecDepth 100000 in
set_option maxHeartbeats 4000000 in
theorem lc_begin {xs : Nat → Int32} {H : am_H} {P : Option Value ⊕ String → am_H → Prop} {R : Int32 → Int32 → Prop} (hH : am_DW 1 (am_ox 5 xs) 9 yL_begin mL_begin hL_begin [.ref 0, .int (xs 1), .int (xs 2), .int (xs 3), .int (xs 4)] H (fun o H1 => ∃ k v, o = .inl (some (.int k)) ∧ (mz H1 ∧ am_sh H1 319 = (102, 1) ∧ am_nx H1 = 320 ∧ True) ∧ R k v)) (hM : ∀ k v H1, R k v → mz H1 → am_D (am_ox 5 xs) 9 yX7_begin mX7_begin [.ref 288, .int (xs 1), .int (xs 2), .int (xs 3), .int (xs 4)] H1 (mrv k H1)) (hn : am_nx H = 320) (kx : ∀ k H2, am_nx H2 = 320 → am_EB 0 (am_ox 5 xs) 10 mLw 632 [(5, .int k), (4, .int 0), (3, .ref 319), (2, .ref 288), (1, .ref 0), (0, .ref 1000000)] [] H2 P) : am_EB 1 (am_ox 5 xs) 10 mLw 224 [(4, .int 0), (3, .ref 319), (2, .ref 288), (1, .ref 0), (0, .ref 1000000)] [] H P := by
  refine ae_aload_n (q := 225) dL_law_224 rfl rfl rfl ?_
  refine ae_aload_n (q := 226) dL_law_225 rfl rfl rfl ?_
  refine ae_iload (q := 228) dL_law_226 rfl rfl ?_
  refine ae_iconst (v := 1) (q := 229) dL_law_228 (by decide) rfl ?_
  refine ae_iadd (q := 230) dL_law_229 rfl ?_
  refine ae_sld (i := 0) (r := (5, xs)) (q := 231) dL_law_230 rfl vin5_1 rfl ?_
  refine ae_eqi (show xs ((0 : Int32) + 1).toNatClampNeg = xs 1 from congrArg xs (by decide)) ?_
  refine ae_aload_n (q := 232) dL_law_231 rfl rfl rfl ?_
  refine ae_iload (q := 234) dL_law_232 rfl rfl ?_
  refine ae_iconst (v := 2) (q := 235) dL_law_234 (by decide) rfl ?_
  refine ae_iadd (q := 236) dL_law_235 rfl ?_
  refine ae_sld (i := 0) (r := (5, xs)) (q := 237) dL_law_236 rfl vin5_2 rfl ?_
  refine ae_eqi (show xs ((0 : Int32) + 2).toNatClampNeg = xs 2 from congrArg xs (by decide)) ?_
  refine ae_aload_n (q := 238) dL_law_237 rfl rfl rfl ?_
  refine ae_iload (q := 240) dL_law_238 rfl rfl ?_
  refine ae_iconst (v := 3) (q := 241) dL_law_240 (by decide) rfl ?_
  refine ae_iadd (q := 242) dL_law_241 rfl ?_
  refine ae_sld (i := 0) (r := (5, xs)) (q := 243) dL_law_242 rfl vin5_3 rfl ?_
  refine ae_eqi (show xs ((0 : Int32) + 3).toNatClampNeg = xs 3 from congrArg xs (by decide)) ?_
  refine ae_aload_n (q := 244) dL_law_243 rfl rfl rfl ?_
  refine ae_iload (q := 246) dL_law_244 rfl rfl ?_
  refine ae_iconst (v := 4) (q := 247) dL_law_246 (by decide) rfl ?_
  refine ae_iadd (q := 248) dL_law_247 rfl ?_
  refine ae_sld (i := 0) (r := (5, xs)) (q := 249) dL_law_248 rfl vin5_4 rfl ?_
  refine ae_eqi (show xs ((0 : Int32) + 4).toNatClampNeg = xs 4 from congrArg xs (by decide)) ?_
  refine ae_callSW (c2 := 0) (as := [.ref 0, .int (xs 1), .int (xs 2), .int (xs 3), .int (xs 4)]) (st := []) (q := 252) dL_law_249 hH mwL_begin lk_L_68 sm_L_begin rfl rfl (Nat.le_of_ble_eq_true rfl) rfl (Nat.le_refl _) (fun o H1 h => by obtain ⟨k, v, rfl, -⟩ := h; exact ⟨_, rfl⟩) (fun v1 H1 h => ?_)
  obtain ⟨k, v, hk1, ⟨hm1, hs1, hn1, hg1⟩, hR⟩ := h
  cases hk1
  refine ⟨Or.inl (hn1.trans hn.symm), ?_⟩
  show am_EB 0 (am_ox 5 xs) 10 mLw 252 [(4, .int 0), (3, .ref 319), (2, .ref 288), (1, .ref 0), (0, .ref 1000000)] [.int k] H1 P
  refine ae_istore (lv' := [(5, .int k), (4, .int 0), (3, .ref 319), (2, .ref 288), (1, .ref 0), (0, .ref 1000000)]) (q := 254) dL_law_252 (by decide) rfl rfl ?_
  refine ae_aload_n (q := 255) dL_law_254 rfl rfl rfl ?_
  refine ae_aload_n (q := 256) dL_law_255 rfl rfl rfl ?_
  refine ae_iload (q := 258) dL_law_256 rfl rfl ?_
  refine ae_iconst (v := 1) (q := 259) dL_law_258 (by decide) rfl ?_
  refine ae_iadd (q := 260) dL_law_259 rfl ?_
  refine ae_sld (i := 0) (r := (5, xs)) (q := 261) dL_law_260 rfl vin5_1 rfl ?_
  refine ae_eqi (show xs ((0 : Int32) + 1).toNatClampNeg = xs 1 from congrArg xs (by decide)) ?_
  refine ae_aload_n (q := 262) dL_law_261 rfl rfl rfl ?_
  refine ae_iload (q := 264) dL_law_262 rfl rfl ?_
  refine ae_iconst (v := 2) (q := 265) dL_law_264 (by decide) rfl ?_
  refine ae_iadd (q := 266) dL_law_265 rfl ?_
  refine ae_sld (i := 0) (r := (5, xs)) (q := 267) dL_law_266 rfl vin5_2 rfl ?_
  refine ae_eqi (show xs ((0 : Int32) + 2).toNatClampNeg = xs 2 from congrArg xs (by decide)) ?_
  refine ae_aload_n (q := 268) dL_law_267 rfl rfl rfl ?_
  refine ae_iload (q := 270) dL_law_268 rfl rfl ?_
  refine ae_iconst (v := 3) (q := 271) dL_law_270 (by decide) rfl ?_
  refine ae_iadd (q := 272) dL_law_271 rfl ?_
  refine ae_sld (i := 0) (r := (5, xs)) (q := 273) dL_law_272 rfl vin5_3 rfl ?_
  refine ae_eqi (show xs ((0 : Int32) + 3).toNatClampNeg = xs 3 from congrArg xs (by decide)) ?_
  refine ae_aload_n (q := 274) dL_law_273 rfl rfl rfl ?_
  refine ae_iload (q := 276) dL_law_274 rfl rfl ?_
  refine ae_iconst (v := 4) (q := 277) dL_law_276 (by decide) rfl ?_
  refine ae_iadd (q := 278) dL_law_277 rfl ?_
  refine ae_sld (i := 0) (r := (5, xs)) (q := 279) dL_law_278 rfl vin5_4 rfl ?_
  refine ae_eqi (show xs ((0 : Int32) + 4).toNatClampNeg = xs 4 from congrArg xs (by decide)) ?_
  refine ae_callV (ci := 7) (as := [.int (xs 1), .int (xs 2), .int (xs 3), .int (xs 4)]) (b := 288) (st := []) (q := 282) dL_law_279 (hM k v H1 hR hm1) myX7_begin lk_L_71 im_X7_begin se_X7_begin rfl (by decide) hm1.s (hm1.lt (by decide)) rfl rfl (Nat.le_of_ble_eq_true rfl) rfl (fun o G h => ⟨none, h.1⟩) (fun v2 H2 h => ?_)
  obtain ⟨hw1, hw3, hw4, hw5, hw6⟩ := h
  cases hw1
  refine ⟨Or.inl hw4, ?_⟩
  show am_EB 0 (am_ox 5 xs) 10 mLw 282 [(5, .int k), (4, .int 0), (3, .ref 319), (2, .ref 288), (1, .ref 0), (0, .ref 1000000)] [] H2 P
  refine ae_aload_n (q := 283) dL_law_282 rfl rfl rfl ?_
  have s2 : am_sh H2 288 = (7, am_Nf 7) := by rw [hw5]; exact hm1.s
  have b2 : 288 < am_nx H2 := by rw [hw4]; exact hm1.lt (by decide)
  refine ae_callV (ci := 7) (as := []) (b := 288) (st := []) (q := 286) dL_law_283 (e_X7_thrown s2 b2) myX7_thrown lk_L_61 im_X7_thrown se_X7_thrown rfl (by decide) s2 b2 rfl rfl (Nat.le_of_ble_eq_true rfl) rfl (fun o G h => ⟨_, h.1⟩) (fun v3 H3 h => ?_)
  obtain ⟨h1, h2⟩ := h
  subst h2
  cases h1
  refine ⟨Or.inl rfl, ?_⟩
  show am_EB 0 (am_ox 5 xs) 10 mLw 286 [(5, .int k), (4, .int 0), (3, .ref 319), (2, .ref 288), (1, .ref 0), (0, .ref 1000000)] [.int (am_gi H3 288 37)] H3 P
  refine ae_eqi hw3 ?_
  refine ae_iload (q := 288) dL_law_286 rfl rfl ?_
  refine ae_icmp_eq (t := 293) (q := 291) dL_law_288 (by decide) rfl (fun _ => ?_) (fun c => absurd rfl c)
  refine ae_goto (q := 632) dL_law_293 (by decide) ?_
  exact kx k _ (hw4.trans hn1)
set_option maxRecDepth 100000 in
set_option maxHeartbeats 4000000 in
theorem lc_run {xs : Nat → Int32} {H : am_H} {P : Option Value ⊕ String → am_H → Prop} {R : Int32 → Int32 → Prop} (hH : am_DW 1 (am_ox 5 xs) 9 yL_run mL_run hL_run [.ref 0, .int (xs 1), .ref 319] H (fun o H1 => ∃ k v, o = .inl (some (.int k)) ∧ hk H1 k v ∧ R k v)) (hM : ∀ k v H1, R k v → mz H1 → am_D (am_ox 5 xs) 9 yX7_run mX7_run [.ref 288, .int (xs 1)] H1 (mr k v H1)) (hn : am_nx H = 320) (kx : ∀ k w H2, am_nx H2 = 320 → am_EB 0 (am_ox 5 xs) 10 mLw 632 [(6, .int w), (5, .int k), (4, .int 0), (3, .ref 319), (2, .ref 288), (1, .ref 0), (0, .ref 1000000)] [] H2 P) : am_EB 1 (am_ox 5 xs) 10 mLw 296 [(4, .int 0), (3, .ref 319), (2, .ref 288), (1, .ref 0), (0, .ref 1000000)] [] H P := by
  refine ae_aload_n (q := 297) dL_law_296 rfl rfl rfl ?_
  refine ae_aload_n (q := 298) dL_law_297 rfl rfl rfl ?_
  refine ae_iload (q := 300) dL_law_298 rfl rfl ?_
  refine ae_iconst (v := 1) (q := 301) dL_law_300 (by decide) rfl ?_
  refine ae_iadd (q := 302) dL_law_301 rfl ?_
  refine ae_sld (i := 0) (r := (5, xs)) (q := 303) dL_law_302 rfl vin5_1 rfl ?_
  refine ae_eqi (show xs ((0 : Int32) + 1).toNatClampNeg = xs 1 from congrArg xs (by decide)) ?_
  refine ae_aload_n (q := 304) dL_law_303 rfl rfl rfl ?_
  refine ae_callSW (c2 := 0) (as := [.ref 0, .int (xs 1), .ref 319]) (st := []) (q := 307) dL_law_304 hH mwL_run lk_L_72 sm_L_run rfl rfl (Nat.le_of_ble_eq_true rfl) rfl (Nat.le_refl _) (fun o H1 h => by obtain ⟨k, v, rfl, -⟩ := h; exact ⟨_, rfl⟩) (fun v1 H1 h => ?_)
  obtain ⟨k, v, hk1, ⟨hm1, hs1, hn1, hg1⟩, hR⟩ := h
  cases hk1
  refine ⟨Or.inl (hn1.trans hn.symm), ?_⟩
  show am_EB 0 (am_ox 5 xs) 10 mLw 307 [(4, .int 0), (3, .ref 319), (2, .ref 288), (1, .ref 0), (0, .ref 1000000)] [.int k] H1 P
  refine ae_istore (lv' := [(5, .int k), (4, .int 0), (3, .ref 319), (2, .ref 288), (1, .ref 0), (0, .ref 1000000)]) (q := 309) dL_law_307 (by decide) rfl rfl ?_
  refine ae_aload_n (q := 310) dL_law_309 rfl rfl rfl ?_
  refine ae_aload_n (q := 311) dL_law_310 rfl rfl rfl ?_
  refine ae_iload (q := 313) dL_law_311 rfl rfl ?_
  refine ae_iconst (v := 1) (q := 314) dL_law_313 (by decide) rfl ?_
  refine ae_iadd (q := 315) dL_law_314 rfl ?_
  refine ae_sld (i := 0) (r := (5, xs)) (q := 316) dL_law_315 rfl vin5_1 rfl ?_
  refine ae_eqi (show xs ((0 : Int32) + 1).toNatClampNeg = xs 1 from congrArg xs (by decide)) ?_
  refine ae_callV (ci := 7) (as := [.int (xs 1)]) (b := 288) (st := []) (q := 319) dL_law_316 (hM k v H1 hR hm1) myX7_run lk_L_74 im_X7_run se_X7_run rfl (by decide) hm1.s (hm1.lt (by decide)) rfl rfl (Nat.le_of_ble_eq_true rfl) rfl (fun o G h => by obtain ⟨⟨w, rfl, -⟩, -⟩ := h; exact ⟨_, rfl⟩) (fun v2 H2 h => ?_)
  obtain ⟨⟨w, hw1, hw2⟩, hw3, hw4, hw5, hw6⟩ := h
  cases hw1
  refine ⟨Or.inl hw4, ?_⟩
  show am_EB 0 (am_ox 5 xs) 10 mLw 319 [(5, .int k), (4, .int 0), (3, .ref 319), (2, .ref 288), (1, .ref 0), (0, .ref 1000000)] [.int w] H2 P
  refine ae_istore (lv' := [(6, .int w), (5, .int k), (4, .int 0), (3, .ref 319), (2, .ref 288), (1, .ref 0), (0, .ref 1000000)]) (q := 321) dL_law_319 (by decide) rfl rfl ?_
  refine ae_aload_n (q := 322) dL_law_321 rfl rfl rfl ?_
  have s2 : am_sh H2 288 = (7, am_Nf 7) := by rw [hw5]; exact hm1.s
  have b2 : 288 < am_nx H2 := by rw [hw4]; exact hm1.lt (by decide)
  refine ae_callV (ci := 7) (as := []) (b := 288) (st := []) (q := 325) dL_law_322 (e_X7_thrown s2 b2) myX7_thrown lk_L_61 im_X7_thrown se_X7_thrown rfl (by decide) s2 b2 rfl rfl (Nat.le_of_ble_eq_true rfl) rfl (fun o G h => ⟨_, h.1⟩) (fun v3 H3 h => ?_)
  obtain ⟨h1, h2⟩ := h
  subst h2
  cases h1
  refine ⟨Or.inl rfl, ?_⟩
  show am_EB 0 (am_ox 5 xs) 10 mLw 325 [(6, .int w), (5, .int k), (4, .int 0), (3, .ref 319), (2, .ref 288), (1, .ref 0), (0, .ref 1000000)] [.int (am_gi H3 288 37)] H3 P
  refine ae_eqi hw3 ?_
  refine ae_iload (q := 327) dL_law_325 rfl rfl ?_
  refine ae_icmp_eq (t := 332) (q := 330) dL_law_327 (by decide) rfl (fun _ => ?_) (fun c => absurd rfl c)
  refine ae_iload (q := 334) dL_law_332 rfl rfl ?_
  refine ae_if_ne (t := 349) (q := 337) dL_law_334 (by decide) rfl (fun _ => ?_) (fun c => ?_)
  · refine ae_goto (q := 632) dL_law_349 (by decide) ?_
    exact kx k w _ (hw4.trans hn1)
  · refine ae_aload_n (q := 338) dL_law_337 rfl rfl rfl ?_
    refine ae_iconst (v := 0) (q := 339) dL_law_338 (by decide) rfl ?_
    refine ae_lald (n := 1) (q := 340) dL_law_339 (by rw [hw5]; exact hs1) (by rw [hw4, hn1]; decide) (by unfold vp_in; decide) rfl ?_
    refine ae_eql (show am_gl H3 319 (0 : Int32).toNatClampNeg = v.toInt64 by rw [hw6]; exact hg1 c) ?_
    refine ae_iload (q := 342) dL_law_340 rfl rfl ?_
    refine ae_i2l (q := 343) dL_law_342 rfl ?_
    refine ae_lcmp (q := 344) dL_law_343 rfl ?_
    refine ae_eqi (show lg_cmp v.toInt64 w.toInt64 = 0 by rw [hw2 c]; exact lg_cmp_rf) ?_
    refine ae_if_eq (t := 349) (q := 347) dL_law_344 (by decide) rfl (fun _ => ?_) (fun c => absurd rfl c)
    refine ae_goto (q := 632) dL_law_349 (by decide) ?_
    exact kx k w _ (hw4.trans hn1)
set_option maxRecDepth 100000 in
set_option maxHeartbeats 4000000 in
theorem lc_result {xs : Nat → Int32} {H : am_H} {P : Option Value ⊕ String → am_H → Prop} {R : Int32 → Int32 → Prop} (hH : am_DW 1 (am_ox 5 xs) 9 yL_result mL_result hL_result [.ref 0, .ref 319] H (fun o H1 => ∃ k v, o = .inl (some (.int k)) ∧ hk H1 k v ∧ R k v)) (hM : ∀ k v H1, R k v → mz H1 → am_D (am_ox 5 xs) 9 yX7_result mX7_result [.ref 288] H1 (mr k v H1)) (hn : am_nx H = 320) (kx : ∀ k w H2, am_nx H2 = 320 → am_EB 0 (am_ox 5 xs) 10 mLw 632 [(6, .int w), (5, .int k), (4, .int 0), (3, .ref 319), (2, .ref 288), (1, .ref 0), (0, .ref 1000000)] [] H2 P) : am_EB 1 (am_ox 5 xs) 10 mLw 352 [(4, .int 0), (3, .ref 319), (2, .ref 288), (1, .ref 0), (0, .ref 1000000)] [] H P := by
  refine ae_aload_n (q := 353) dL_law_352 rfl rfl rfl ?_
  refine ae_aload_n (q := 354) dL_law_353 rfl rfl rfl ?_
  refine ae_callSW (c2 := 0) (as := [.ref 0, .ref 319]) (st := []) (q := 357) dL_law_354 hH mwL_result lk_L_75 sm_L_result rfl rfl (Nat.le_of_ble_eq_true rfl) rfl (Nat.le_refl _) (fun o H1 h => by obtain ⟨k, v, rfl, -⟩ := h; exact ⟨_, rfl⟩) (fun v1 H1 h => ?_)
  obtain ⟨k, v, hk1, ⟨hm1, hs1, hn1, hg1⟩, hR⟩ := h
  cases hk1
  refine ⟨Or.inl (hn1.trans hn.symm), ?_⟩
  show am_EB 0 (am_ox 5 xs) 10 mLw 357 [(4, .int 0), (3, .ref 319), (2, .ref 288), (1, .ref 0), (0, .ref 1000000)] [.int k] H1 P
  refine ae_istore (lv' := [(5, .int k), (4, .int 0), (3, .ref 319), (2, .ref 288), (1, .ref 0), (0, .ref 1000000)]) (q := 359) dL_law_357 (by decide) rfl rfl ?_
  refine ae_aload_n (q := 360) dL_law_359 rfl rfl rfl ?_
  refine ae_callV (ci := 7) (as := []) (b := 288) (st := []) (q := 363) dL_law_360 (hM k v H1 hR hm1) myX7_result lk_L_78 im_X7_result se_X7_result rfl (by decide) hm1.s (hm1.lt (by decide)) rfl rfl (Nat.le_of_ble_eq_true rfl) rfl (fun o G h => by obtain ⟨⟨w, rfl, -⟩, -⟩ := h; exact ⟨_, rfl⟩) (fun v2 H2 h => ?_)
  obtain ⟨⟨w, hw1, hw2⟩, hw3, hw4, hw5, hw6⟩ := h
  cases hw1
  refine ⟨Or.inl hw4, ?_⟩
  show am_EB 0 (am_ox 5 xs) 10 mLw 363 [(5, .int k), (4, .int 0), (3, .ref 319), (2, .ref 288), (1, .ref 0), (0, .ref 1000000)] [.int w] H2 P
  refine ae_istore (lv' := [(6, .int w), (5, .int k), (4, .int 0), (3, .ref 319), (2, .ref 288), (1, .ref 0), (0, .ref 1000000)]) (q := 365) dL_law_363 (by decide) rfl rfl ?_
  refine ae_aload_n (q := 366) dL_law_365 rfl rfl rfl ?_
  have s2 : am_sh H2 288 = (7, am_Nf 7) := by rw [hw5]; exact hm1.s
  have b2 : 288 < am_nx H2 := by rw [hw4]; exact hm1.lt (by decide)
  refine ae_callV (ci := 7) (as := []) (b := 288) (st := []) (q := 369) dL_law_366 (e_X7_thrown s2 b2) myX7_thrown lk_L_61 im_X7_thrown se_X7_thrown rfl (by decide) s2 b2 rfl rfl (Nat.le_of_ble_eq_true rfl) rfl (fun o G h => ⟨_, h.1⟩) (fun v3 H3 h => ?_)
  obtain ⟨h1, h2⟩ := h
  subst h2
  cases h1
  refine ⟨Or.inl rfl, ?_⟩
  show am_EB 0 (am_ox 5 xs) 10 mLw 369 [(6, .int w), (5, .int k), (4, .int 0), (3, .ref 319), (2, .ref 288), (1, .ref 0), (0, .ref 1000000)] [.int (am_gi H3 288 37)] H3 P
  refine ae_eqi hw3 ?_
  refine ae_iload (q := 371) dL_law_369 rfl rfl ?_
  refine ae_icmp_eq (t := 376) (q := 374) dL_law_371 (by decide) rfl (fun _ => ?_) (fun c => absurd rfl c)
  refine ae_iload (q := 378) dL_law_376 rfl rfl ?_
  refine ae_if_ne (t := 393) (q := 381) dL_law_378 (by decide) rfl (fun _ => ?_) (fun c => ?_)
  · refine ae_goto (q := 632) dL_law_393 (by decide) ?_
    exact kx k w _ (hw4.trans hn1)
  · refine ae_aload_n (q := 382) dL_law_381 rfl rfl rfl ?_
    refine ae_iconst (v := 0) (q := 383) dL_law_382 (by decide) rfl ?_
    refine ae_lald (n := 1) (q := 384) dL_law_383 (by rw [hw5]; exact hs1) (by rw [hw4, hn1]; decide) (by unfold vp_in; decide) rfl ?_
    refine ae_eql (show am_gl H3 319 (0 : Int32).toNatClampNeg = v.toInt64 by rw [hw6]; exact hg1 c) ?_
    refine ae_iload (q := 386) dL_law_384 rfl rfl ?_
    refine ae_i2l (q := 387) dL_law_386 rfl ?_
    refine ae_lcmp (q := 388) dL_law_387 rfl ?_
    refine ae_eqi (show lg_cmp v.toInt64 w.toInt64 = 0 by rw [hw2 c]; exact lg_cmp_rf) ?_
    refine ae_if_eq (t := 393) (q := 391) dL_law_388 (by decide) rfl (fun _ => ?_) (fun c => absurd rfl c)
    refine ae_goto (q := 632) dL_law_393 (by decide) ?_
    exact kx k w _ (hw4.trans hn1)
set_option maxRecDepth 100000 in
set_option maxHeartbeats 4000000 in
theorem lc_said {xs : Nat → Int32} {H : am_H} {P : Option Value ⊕ String → am_H → Prop} {R : Int32 → Int32 → Prop} (hH : am_DW 1 (am_ox 5 xs) 9 yL_said mL_said hL_said [.ref 0, .int (xs 1), .ref 319] H (fun o H1 => ∃ k v, o = .inl (some (.int k)) ∧ hk H1 k v ∧ R k v)) (hM : ∀ k v H1, R k v → mz H1 → am_D (am_ox 5 xs) 9 yX7_said mX7_said [.ref 288, .int (xs 1)] H1 (mr k v H1)) (hn : am_nx H = 320) (kx : ∀ k w H2, am_nx H2 = 320 → am_EB 0 (am_ox 5 xs) 10 mLw 632 [(6, .int w), (5, .int k), (4, .int 0), (3, .ref 319), (2, .ref 288), (1, .ref 0), (0, .ref 1000000)] [] H2 P) : am_EB 1 (am_ox 5 xs) 10 mLw 396 [(4, .int 0), (3, .ref 319), (2, .ref 288), (1, .ref 0), (0, .ref 1000000)] [] H P := by
  refine ae_aload_n (q := 397) dL_law_396 rfl rfl rfl ?_
  refine ae_aload_n (q := 398) dL_law_397 rfl rfl rfl ?_
  refine ae_iload (q := 400) dL_law_398 rfl rfl ?_
  refine ae_iconst (v := 1) (q := 401) dL_law_400 (by decide) rfl ?_
  refine ae_iadd (q := 402) dL_law_401 rfl ?_
  refine ae_sld (i := 0) (r := (5, xs)) (q := 403) dL_law_402 rfl vin5_1 rfl ?_
  refine ae_eqi (show xs ((0 : Int32) + 1).toNatClampNeg = xs 1 from congrArg xs (by decide)) ?_
  refine ae_aload_n (q := 404) dL_law_403 rfl rfl rfl ?_
  refine ae_callSW (c2 := 0) (as := [.ref 0, .int (xs 1), .ref 319]) (st := []) (q := 407) dL_law_404 hH mwL_said lk_L_79 sm_L_said rfl rfl (Nat.le_of_ble_eq_true rfl) rfl (Nat.le_refl _) (fun o H1 h => by obtain ⟨k, v, rfl, -⟩ := h; exact ⟨_, rfl⟩) (fun v1 H1 h => ?_)
  obtain ⟨k, v, hk1, ⟨hm1, hs1, hn1, hg1⟩, hR⟩ := h
  cases hk1
  refine ⟨Or.inl (hn1.trans hn.symm), ?_⟩
  show am_EB 0 (am_ox 5 xs) 10 mLw 407 [(4, .int 0), (3, .ref 319), (2, .ref 288), (1, .ref 0), (0, .ref 1000000)] [.int k] H1 P
  refine ae_istore (lv' := [(5, .int k), (4, .int 0), (3, .ref 319), (2, .ref 288), (1, .ref 0), (0, .ref 1000000)]) (q := 409) dL_law_407 (by decide) rfl rfl ?_
  refine ae_aload_n (q := 410) dL_law_409 rfl rfl rfl ?_
  refine ae_aload_n (q := 411) dL_law_410 rfl rfl rfl ?_
  refine ae_iload (q := 413) dL_law_411 rfl rfl ?_
  refine ae_iconst (v := 1) (q := 414) dL_law_413 (by decide) rfl ?_
  refine ae_iadd (q := 415) dL_law_414 rfl ?_
  refine ae_sld (i := 0) (r := (5, xs)) (q := 416) dL_law_415 rfl vin5_1 rfl ?_
  refine ae_eqi (show xs ((0 : Int32) + 1).toNatClampNeg = xs 1 from congrArg xs (by decide)) ?_
  refine ae_callV (ci := 7) (as := [.int (xs 1)]) (b := 288) (st := []) (q := 419) dL_law_416 (hM k v H1 hR hm1) myX7_said lk_L_81 im_X7_said se_X7_said rfl (by decide) hm1.s (hm1.lt (by decide)) rfl rfl (Nat.le_of_ble_eq_true rfl) rfl (fun o G h => by obtain ⟨⟨w, rfl, -⟩, -⟩ := h; exact ⟨_, rfl⟩) (fun v2 H2 h => ?_)
  obtain ⟨⟨w, hw1, hw2⟩, hw3, hw4, hw5, hw6⟩ := h
  cases hw1
  refine ⟨Or.inl hw4, ?_⟩
  show am_EB 0 (am_ox 5 xs) 10 mLw 419 [(5, .int k), (4, .int 0), (3, .ref 319), (2, .ref 288), (1, .ref 0), (0, .ref 1000000)] [.int w] H2 P
  refine ae_istore (lv' := [(6, .int w), (5, .int k), (4, .int 0), (3, .ref 319), (2, .ref 288), (1, .ref 0), (0, .ref 1000000)]) (q := 421) dL_law_419 (by decide) rfl rfl ?_
  refine ae_aload_n (q := 422) dL_law_421 rfl rfl rfl ?_
  have s2 : am_sh H2 288 = (7, am_Nf 7) := by rw [hw5]; exact hm1.s
  have b2 : 288 < am_nx H2 := by rw [hw4]; exact hm1.lt (by decide)
  refine ae_callV (ci := 7) (as := []) (b := 288) (st := []) (q := 425) dL_law_422 (e_X7_thrown s2 b2) myX7_thrown lk_L_61 im_X7_thrown se_X7_thrown rfl (by decide) s2 b2 rfl rfl (Nat.le_of_ble_eq_true rfl) rfl (fun o G h => ⟨_, h.1⟩) (fun v3 H3 h => ?_)
  obtain ⟨h1, h2⟩ := h
  subst h2
  cases h1
  refine ⟨Or.inl rfl, ?_⟩
  show am_EB 0 (am_ox 5 xs) 10 mLw 425 [(6, .int w), (5, .int k), (4, .int 0), (3, .ref 319), (2, .ref 288), (1, .ref 0), (0, .ref 1000000)] [.int (am_gi H3 288 37)] H3 P
  refine ae_eqi hw3 ?_
  refine ae_iload (q := 427) dL_law_425 rfl rfl ?_
  refine ae_icmp_eq (t := 432) (q := 430) dL_law_427 (by decide) rfl (fun _ => ?_) (fun c => absurd rfl c)
  refine ae_iload (q := 434) dL_law_432 rfl rfl ?_
  refine ae_if_ne (t := 449) (q := 437) dL_law_434 (by decide) rfl (fun _ => ?_) (fun c => ?_)
  · refine ae_goto (q := 632) dL_law_449 (by decide) ?_
    exact kx k w _ (hw4.trans hn1)
  · refine ae_aload_n (q := 438) dL_law_437 rfl rfl rfl ?_
    refine ae_iconst (v := 0) (q := 439) dL_law_438 (by decide) rfl ?_
    refine ae_lald (n := 1) (q := 440) dL_law_439 (by rw [hw5]; exact hs1) (by rw [hw4, hn1]; decide) (by unfold vp_in; decide) rfl ?_
    refine ae_eql (show am_gl H3 319 (0 : Int32).toNatClampNeg = v.toInt64 by rw [hw6]; exact hg1 c) ?_
    refine ae_iload (q := 442) dL_law_440 rfl rfl ?_
    refine ae_i2l (q := 443) dL_law_442 rfl ?_
    refine ae_lcmp (q := 444) dL_law_443 rfl ?_
    refine ae_eqi (show lg_cmp v.toInt64 w.toInt64 = 0 by rw [hw2 c]; exact lg_cmp_rf) ?_
    refine ae_if_eq (t := 449) (q := 447) dL_law_444 (by decide) rfl (fun _ => ?_) (fun c => absurd rfl c)
    refine ae_goto (q := 632) dL_law_449 (by decide) ?_
    exact kx k w _ (hw4.trans hn1)
set_option maxRecDepth 100000 in
set_option maxHeartbeats 4000000 in
theorem lc_task {xs : Nat → Int32} {H : am_H} {P : Option Value ⊕ String → am_H → Prop} {R : Int32 → Int32 → Prop} (hH : am_DW 1 (am_ox 5 xs) 9 yL_task mL_task hL_task [.ref 0, .int (xs 1), .int (xs 2), .ref 319] H (fun o H1 => ∃ k v, o = .inl (some (.int k)) ∧ hk H1 k v ∧ R k v)) (hM : ∀ k v H1, R k v → mz H1 → am_D (am_ox 5 xs) 9 yX7_task mX7_task [.ref 288, .int (xs 1), .int (xs 2)] H1 (mr k v H1)) (hn : am_nx H = 320) (kx : ∀ k w H2, am_nx H2 = 320 → am_EB 0 (am_ox 5 xs) 10 mLw 632 [(6, .int w), (5, .int k), (4, .int 0), (3, .ref 319), (2, .ref 288), (1, .ref 0), (0, .ref 1000000)] [] H2 P) : am_EB 1 (am_ox 5 xs) 10 mLw 452 [(4, .int 0), (3, .ref 319), (2, .ref 288), (1, .ref 0), (0, .ref 1000000)] [] H P := by
  refine ae_aload_n (q := 453) dL_law_452 rfl rfl rfl ?_
  refine ae_aload_n (q := 454) dL_law_453 rfl rfl rfl ?_
  refine ae_iload (q := 456) dL_law_454 rfl rfl ?_
  refine ae_iconst (v := 1) (q := 457) dL_law_456 (by decide) rfl ?_
  refine ae_iadd (q := 458) dL_law_457 rfl ?_
  refine ae_sld (i := 0) (r := (5, xs)) (q := 459) dL_law_458 rfl vin5_1 rfl ?_
  refine ae_eqi (show xs ((0 : Int32) + 1).toNatClampNeg = xs 1 from congrArg xs (by decide)) ?_
  refine ae_aload_n (q := 460) dL_law_459 rfl rfl rfl ?_
  refine ae_iload (q := 462) dL_law_460 rfl rfl ?_
  refine ae_iconst (v := 2) (q := 463) dL_law_462 (by decide) rfl ?_
  refine ae_iadd (q := 464) dL_law_463 rfl ?_
  refine ae_sld (i := 0) (r := (5, xs)) (q := 465) dL_law_464 rfl vin5_2 rfl ?_
  refine ae_eqi (show xs ((0 : Int32) + 2).toNatClampNeg = xs 2 from congrArg xs (by decide)) ?_
  refine ae_aload_n (q := 466) dL_law_465 rfl rfl rfl ?_
  refine ae_callSW (c2 := 0) (as := [.ref 0, .int (xs 1), .int (xs 2), .ref 319]) (st := []) (q := 469) dL_law_466 hH mwL_task lk_L_82 sm_L_task rfl rfl (Nat.le_of_ble_eq_true rfl) rfl (Nat.le_refl _) (fun o H1 h => by obtain ⟨k, v, rfl, -⟩ := h; exact ⟨_, rfl⟩) (fun v1 H1 h => ?_)
  obtain ⟨k, v, hk1, ⟨hm1, hs1, hn1, hg1⟩, hR⟩ := h
  cases hk1
  refine ⟨Or.inl (hn1.trans hn.symm), ?_⟩
  show am_EB 0 (am_ox 5 xs) 10 mLw 469 [(4, .int 0), (3, .ref 319), (2, .ref 288), (1, .ref 0), (0, .ref 1000000)] [.int k] H1 P
  refine ae_istore (lv' := [(5, .int k), (4, .int 0), (3, .ref 319), (2, .ref 288), (1, .ref 0), (0, .ref 1000000)]) (q := 471) dL_law_469 (by decide) rfl rfl ?_
  refine ae_aload_n (q := 472) dL_law_471 rfl rfl rfl ?_
  refine ae_aload_n (q := 473) dL_law_472 rfl rfl rfl ?_
  refine ae_iload (q := 475) dL_law_473 rfl rfl ?_
  refine ae_iconst (v := 1) (q := 476) dL_law_475 (by decide) rfl ?_
  refine ae_iadd (q := 477) dL_law_476 rfl ?_
  refine ae_sld (i := 0) (r := (5, xs)) (q := 478) dL_law_477 rfl vin5_1 rfl ?_
  refine ae_eqi (show xs ((0 : Int32) + 1).toNatClampNeg = xs 1 from congrArg xs (by decide)) ?_
  refine ae_aload_n (q := 479) dL_law_478 rfl rfl rfl ?_
  refine ae_iload (q := 481) dL_law_479 rfl rfl ?_
  refine ae_iconst (v := 2) (q := 482) dL_law_481 (by decide) rfl ?_
  refine ae_iadd (q := 483) dL_law_482 rfl ?_
  refine ae_sld (i := 0) (r := (5, xs)) (q := 484) dL_law_483 rfl vin5_2 rfl ?_
  refine ae_eqi (show xs ((0 : Int32) + 2).toNatClampNeg = xs 2 from congrArg xs (by decide)) ?_
  refine ae_callV (ci := 7) (as := [.int (xs 1), .int (xs 2)]) (b := 288) (st := []) (q := 487) dL_law_484 (hM k v H1 hR hm1) myX7_task lk_L_85 im_X7_task se_X7_task rfl (by decide) hm1.s (hm1.lt (by decide)) rfl rfl (Nat.le_of_ble_eq_true rfl) rfl (fun o G h => by obtain ⟨⟨w, rfl, -⟩, -⟩ := h; exact ⟨_, rfl⟩) (fun v2 H2 h => ?_)
  obtain ⟨⟨w, hw1, hw2⟩, hw3, hw4, hw5, hw6⟩ := h
  cases hw1
  refine ⟨Or.inl hw4, ?_⟩
  show am_EB 0 (am_ox 5 xs) 10 mLw 487 [(5, .int k), (4, .int 0), (3, .ref 319), (2, .ref 288), (1, .ref 0), (0, .ref 1000000)] [.int w] H2 P
  refine ae_istore (lv' := [(6, .int w), (5, .int k), (4, .int 0), (3, .ref 319), (2, .ref 288), (1, .ref 0), (0, .ref 1000000)]) (q := 489) dL_law_487 (by decide) rfl rfl ?_
  refine ae_aload_n (q := 490) dL_law_489 rfl rfl rfl ?_
  have s2 : am_sh H2 288 = (7, am_Nf 7) := by rw [hw5]; exact hm1.s
  have b2 : 288 < am_nx H2 := by rw [hw4]; exact hm1.lt (by decide)
  refine ae_callV (ci := 7) (as := []) (b := 288) (st := []) (q := 493) dL_law_490 (e_X7_thrown s2 b2) myX7_thrown lk_L_61 im_X7_thrown se_X7_thrown rfl (by decide) s2 b2 rfl rfl (Nat.le_of_ble_eq_true rfl) rfl (fun o G h => ⟨_, h.1⟩) (fun v3 H3 h => ?_)
  obtain ⟨h1, h2⟩ := h
  subst h2
  cases h1
  refine ⟨Or.inl rfl, ?_⟩
  show am_EB 0 (am_ox 5 xs) 10 mLw 493 [(6, .int w), (5, .int k), (4, .int 0), (3, .ref 319), (2, .ref 288), (1, .ref 0), (0, .ref 1000000)] [.int (am_gi H3 288 37)] H3 P
  refine ae_eqi hw3 ?_
  refine ae_iload (q := 495) dL_law_493 rfl rfl ?_
  refine ae_icmp_eq (t := 500) (q := 498) dL_law_495 (by decide) rfl (fun _ => ?_) (fun c => absurd rfl c)
  refine ae_iload (q := 502) dL_law_500 rfl rfl ?_
  refine ae_if_ne (t := 517) (q := 505) dL_law_502 (by decide) rfl (fun _ => ?_) (fun c => ?_)
  · refine ae_goto (q := 632) dL_law_517 (by decide) ?_
    exact kx k w _ (hw4.trans hn1)
  · refine ae_aload_n (q := 506) dL_law_505 rfl rfl rfl ?_
    refine ae_iconst (v := 0) (q := 507) dL_law_506 (by decide) rfl ?_
    refine ae_lald (n := 1) (q := 508) dL_law_507 (by rw [hw5]; exact hs1) (by rw [hw4, hn1]; decide) (by unfold vp_in; decide) rfl ?_
    refine ae_eql (show am_gl H3 319 (0 : Int32).toNatClampNeg = v.toInt64 by rw [hw6]; exact hg1 c) ?_
    refine ae_iload (q := 510) dL_law_508 rfl rfl ?_
    refine ae_i2l (q := 511) dL_law_510 rfl ?_
    refine ae_lcmp (q := 512) dL_law_511 rfl ?_
    refine ae_eqi (show lg_cmp v.toInt64 w.toInt64 = 0 by rw [hw2 c]; exact lg_cmp_rf) ?_
    refine ae_if_eq (t := 517) (q := 515) dL_law_512 (by decide) rfl (fun _ => ?_) (fun c => absurd rfl c)
    refine ae_goto (q := 632) dL_law_517 (by decide) ?_
    exact kx k w _ (hw4.trans hn1)
set_option maxRecDepth 100000 in
set_option maxHeartbeats 4000000 in
theorem lc_future {xs : Nat → Int32} {H : am_H} {P : Option Value ⊕ String → am_H → Prop} {R : Int32 → Int32 → Prop} (hH : am_DW 1 (am_ox 5 xs) 9 yL_future mL_future hL_future [.ref 0, .int (xs 1), .ref 319] H (fun o H1 => ∃ k v, o = .inl (some (.int k)) ∧ hk H1 k v ∧ R k v)) (hM : ∀ k v H1, R k v → mz H1 → am_D (am_ox 5 xs) 9 yX7_future mX7_future [.ref 288, .int (xs 1)] H1 (mr k v H1)) (hn : am_nx H = 320) (kx : ∀ k w H2, am_nx H2 = 320 → am_EB 0 (am_ox 5 xs) 10 mLw 632 [(6, .int w), (5, .int k), (4, .int 0), (3, .ref 319), (2, .ref 288), (1, .ref 0), (0, .ref 1000000)] [] H2 P) : am_EB 1 (am_ox 5 xs) 10 mLw 520 [(4, .int 0), (3, .ref 319), (2, .ref 288), (1, .ref 0), (0, .ref 1000000)] [] H P := by
  refine ae_aload_n (q := 521) dL_law_520 rfl rfl rfl ?_
  refine ae_aload_n (q := 522) dL_law_521 rfl rfl rfl ?_
  refine ae_iload (q := 524) dL_law_522 rfl rfl ?_
  refine ae_iconst (v := 1) (q := 525) dL_law_524 (by decide) rfl ?_
  refine ae_iadd (q := 526) dL_law_525 rfl ?_
  refine ae_sld (i := 0) (r := (5, xs)) (q := 527) dL_law_526 rfl vin5_1 rfl ?_
  refine ae_eqi (show xs ((0 : Int32) + 1).toNatClampNeg = xs 1 from congrArg xs (by decide)) ?_
  refine ae_aload_n (q := 528) dL_law_527 rfl rfl rfl ?_
  refine ae_callSW (c2 := 0) (as := [.ref 0, .int (xs 1), .ref 319]) (st := []) (q := 531) dL_law_528 hH mwL_future lk_L_86 sm_L_future rfl rfl (Nat.le_of_ble_eq_true rfl) rfl (Nat.le_refl _) (fun o H1 h => by obtain ⟨k, v, rfl, -⟩ := h; exact ⟨_, rfl⟩) (fun v1 H1 h => ?_)
  obtain ⟨k, v, hk1, ⟨hm1, hs1, hn1, hg1⟩, hR⟩ := h
  cases hk1
  refine ⟨Or.inl (hn1.trans hn.symm), ?_⟩
  show am_EB 0 (am_ox 5 xs) 10 mLw 531 [(4, .int 0), (3, .ref 319), (2, .ref 288), (1, .ref 0), (0, .ref 1000000)] [.int k] H1 P
  refine ae_istore (lv' := [(5, .int k), (4, .int 0), (3, .ref 319), (2, .ref 288), (1, .ref 0), (0, .ref 1000000)]) (q := 533) dL_law_531 (by decide) rfl rfl ?_
  refine ae_aload_n (q := 534) dL_law_533 rfl rfl rfl ?_
  refine ae_aload_n (q := 535) dL_law_534 rfl rfl rfl ?_
  refine ae_iload (q := 537) dL_law_535 rfl rfl ?_
  refine ae_iconst (v := 1) (q := 538) dL_law_537 (by decide) rfl ?_
  refine ae_iadd (q := 539) dL_law_538 rfl ?_
  refine ae_sld (i := 0) (r := (5, xs)) (q := 540) dL_law_539 rfl vin5_1 rfl ?_
  refine ae_eqi (show xs ((0 : Int32) + 1).toNatClampNeg = xs 1 from congrArg xs (by decide)) ?_
  refine ae_callV (ci := 7) (as := [.int (xs 1)]) (b := 288) (st := []) (q := 543) dL_law_540 (hM k v H1 hR hm1) myX7_future lk_L_88 im_X7_future se_X7_future rfl (by decide) hm1.s (hm1.lt (by decide)) rfl rfl (Nat.le_of_ble_eq_true rfl) rfl (fun o G h => by obtain ⟨⟨w, rfl, -⟩, -⟩ := h; exact ⟨_, rfl⟩) (fun v2 H2 h => ?_)
  obtain ⟨⟨w, hw1, hw2⟩, hw3, hw4, hw5, hw6⟩ := h
  cases hw1
  refine ⟨Or.inl hw4, ?_⟩
  show am_EB 0 (am_ox 5 xs) 10 mLw 543 [(5, .int k), (4, .int 0), (3, .ref 319), (2, .ref 288), (1, .ref 0), (0, .ref 1000000)] [.int w] H2 P
  refine ae_istore (lv' := [(6, .int w), (5, .int k), (4, .int 0), (3, .ref 319), (2, .ref 288), (1, .ref 0), (0, .ref 1000000)]) (q := 545) dL_law_543 (by decide) rfl rfl ?_
  refine ae_aload_n (q := 546) dL_law_545 rfl rfl rfl ?_
  have s2 : am_sh H2 288 = (7, am_Nf 7) := by rw [hw5]; exact hm1.s
  have b2 : 288 < am_nx H2 := by rw [hw4]; exact hm1.lt (by decide)
  refine ae_callV (ci := 7) (as := []) (b := 288) (st := []) (q := 549) dL_law_546 (e_X7_thrown s2 b2) myX7_thrown lk_L_61 im_X7_thrown se_X7_thrown rfl (by decide) s2 b2 rfl rfl (Nat.le_of_ble_eq_true rfl) rfl (fun o G h => ⟨_, h.1⟩) (fun v3 H3 h => ?_)
  obtain ⟨h1, h2⟩ := h
  subst h2
  cases h1
  refine ⟨Or.inl rfl, ?_⟩
  show am_EB 0 (am_ox 5 xs) 10 mLw 549 [(6, .int w), (5, .int k), (4, .int 0), (3, .ref 319), (2, .ref 288), (1, .ref 0), (0, .ref 1000000)] [.int (am_gi H3 288 37)] H3 P
  refine ae_eqi hw3 ?_
  refine ae_iload (q := 551) dL_law_549 rfl rfl ?_
  refine ae_icmp_eq (t := 556) (q := 554) dL_law_551 (by decide) rfl (fun _ => ?_) (fun c => absurd rfl c)
  refine ae_iload (q := 558) dL_law_556 rfl rfl ?_
  refine ae_if_ne (t := 573) (q := 561) dL_law_558 (by decide) rfl (fun _ => ?_) (fun c => ?_)
  · refine ae_goto (q := 632) dL_law_573 (by decide) ?_
    exact kx k w _ (hw4.trans hn1)
  · refine ae_aload_n (q := 562) dL_law_561 rfl rfl rfl ?_
    refine ae_iconst (v := 0) (q := 563) dL_law_562 (by decide) rfl ?_
    refine ae_lald (n := 1) (q := 564) dL_law_563 (by rw [hw5]; exact hs1) (by rw [hw4, hn1]; decide) (by unfold vp_in; decide) rfl ?_
    refine ae_eql (show am_gl H3 319 (0 : Int32).toNatClampNeg = v.toInt64 by rw [hw6]; exact hg1 c) ?_
    refine ae_iload (q := 566) dL_law_564 rfl rfl ?_
    refine ae_i2l (q := 567) dL_law_566 rfl ?_
    refine ae_lcmp (q := 568) dL_law_567 rfl ?_
    refine ae_eqi (show lg_cmp v.toInt64 w.toInt64 = 0 by rw [hw2 c]; exact lg_cmp_rf) ?_
    refine ae_if_eq (t := 573) (q := 571) dL_law_568 (by decide) rfl (fun _ => ?_) (fun c => absurd rfl c)
    refine ae_goto (q := 632) dL_law_573 (by decide) ?_
    exact kx k w _ (hw4.trans hn1)
set_option maxRecDepth 100000 in
set_option maxHeartbeats 4000000 in
theorem lc_count {xs : Nat → Int32} {H : am_H} {P : Option Value ⊕ String → am_H → Prop} {R : Int32 → Int32 → Prop} (hH : am_DW 1 (am_ox 5 xs) 9 yL_count mL_count hL_count [.ref 0, .int (xs 1), .ref 319] H (fun o H1 => ∃ k v, o = .inl (some (.int k)) ∧ hk H1 k v ∧ R k v)) (hM : ∀ k v H1, R k v → mz H1 → am_D (am_ox 5 xs) 9 yX7_count mX7_count [.ref 288, .int (xs 1)] H1 (mr k v H1)) (hn : am_nx H = 320) (kx : ∀ k w H2, am_nx H2 = 320 → am_EB 0 (am_ox 5 xs) 10 mLw 632 [(6, .int w), (5, .int k), (4, .int 0), (3, .ref 319), (2, .ref 288), (1, .ref 0), (0, .ref 1000000)] [] H2 P) : am_EB 1 (am_ox 5 xs) 10 mLw 576 [(4, .int 0), (3, .ref 319), (2, .ref 288), (1, .ref 0), (0, .ref 1000000)] [] H P := by
  refine ae_aload_n (q := 577) dL_law_576 rfl rfl rfl ?_
  refine ae_aload_n (q := 578) dL_law_577 rfl rfl rfl ?_
  refine ae_iload (q := 580) dL_law_578 rfl rfl ?_
  refine ae_iconst (v := 1) (q := 581) dL_law_580 (by decide) rfl ?_
  refine ae_iadd (q := 582) dL_law_581 rfl ?_
  refine ae_sld (i := 0) (r := (5, xs)) (q := 583) dL_law_582 rfl vin5_1 rfl ?_
  refine ae_eqi (show xs ((0 : Int32) + 1).toNatClampNeg = xs 1 from congrArg xs (by decide)) ?_
  refine ae_aload_n (q := 584) dL_law_583 rfl rfl rfl ?_
  refine ae_callSW (c2 := 0) (as := [.ref 0, .int (xs 1), .ref 319]) (st := []) (q := 587) dL_law_584 hH mwL_count lk_L_89 sm_L_count rfl rfl (Nat.le_of_ble_eq_true rfl) rfl (Nat.le_refl _) (fun o H1 h => by obtain ⟨k, v, rfl, -⟩ := h; exact ⟨_, rfl⟩) (fun v1 H1 h => ?_)
  obtain ⟨k, v, hk1, ⟨hm1, hs1, hn1, hg1⟩, hR⟩ := h
  cases hk1
  refine ⟨Or.inl (hn1.trans hn.symm), ?_⟩
  show am_EB 0 (am_ox 5 xs) 10 mLw 587 [(4, .int 0), (3, .ref 319), (2, .ref 288), (1, .ref 0), (0, .ref 1000000)] [.int k] H1 P
  refine ae_istore (lv' := [(5, .int k), (4, .int 0), (3, .ref 319), (2, .ref 288), (1, .ref 0), (0, .ref 1000000)]) (q := 589) dL_law_587 (by decide) rfl rfl ?_
  refine ae_aload_n (q := 590) dL_law_589 rfl rfl rfl ?_
  refine ae_aload_n (q := 591) dL_law_590 rfl rfl rfl ?_
  refine ae_iload (q := 593) dL_law_591 rfl rfl ?_
  refine ae_iconst (v := 1) (q := 594) dL_law_593 (by decide) rfl ?_
  refine ae_iadd (q := 595) dL_law_594 rfl ?_
  refine ae_sld (i := 0) (r := (5, xs)) (q := 596) dL_law_595 rfl vin5_1 rfl ?_
  refine ae_eqi (show xs ((0 : Int32) + 1).toNatClampNeg = xs 1 from congrArg xs (by decide)) ?_
  refine ae_callV (ci := 7) (as := [.int (xs 1)]) (b := 288) (st := []) (q := 599) dL_law_596 (hM k v H1 hR hm1) myX7_count lk_L_91 im_X7_count se_X7_count rfl (by decide) hm1.s (hm1.lt (by decide)) rfl rfl (Nat.le_of_ble_eq_true rfl) rfl (fun o G h => by obtain ⟨⟨w, rfl, -⟩, -⟩ := h; exact ⟨_, rfl⟩) (fun v2 H2 h => ?_)
  obtain ⟨⟨w, hw1, hw2⟩, hw3, hw4, hw5, hw6⟩ := h
  cases hw1
  refine ⟨Or.inl hw4, ?_⟩
  show am_EB 0 (am_ox 5 xs) 10 mLw 599 [(5, .int k), (4, .int 0), (3, .ref 319), (2, .ref 288), (1, .ref 0), (0, .ref 1000000)] [.int w] H2 P
  refine ae_istore (lv' := [(6, .int w), (5, .int k), (4, .int 0), (3, .ref 319), (2, .ref 288), (1, .ref 0), (0, .ref 1000000)]) (q := 601) dL_law_599 (by decide) rfl rfl ?_
  refine ae_aload_n (q := 602) dL_law_601 rfl rfl rfl ?_
  have s2 : am_sh H2 288 = (7, am_Nf 7) := by rw [hw5]; exact hm1.s
  have b2 : 288 < am_nx H2 := by rw [hw4]; exact hm1.lt (by decide)
  refine ae_callV (ci := 7) (as := []) (b := 288) (st := []) (q := 605) dL_law_602 (e_X7_thrown s2 b2) myX7_thrown lk_L_61 im_X7_thrown se_X7_thrown rfl (by decide) s2 b2 rfl rfl (Nat.le_of_ble_eq_true rfl) rfl (fun o G h => ⟨_, h.1⟩) (fun v3 H3 h => ?_)
  obtain ⟨h1, h2⟩ := h
  subst h2
  cases h1
  refine ⟨Or.inl rfl, ?_⟩
  show am_EB 0 (am_ox 5 xs) 10 mLw 605 [(6, .int w), (5, .int k), (4, .int 0), (3, .ref 319), (2, .ref 288), (1, .ref 0), (0, .ref 1000000)] [.int (am_gi H3 288 37)] H3 P
  refine ae_eqi hw3 ?_
  refine ae_iload (q := 607) dL_law_605 rfl rfl ?_
  refine ae_icmp_eq (t := 612) (q := 610) dL_law_607 (by decide) rfl (fun _ => ?_) (fun c => absurd rfl c)
  refine ae_iload (q := 614) dL_law_612 rfl rfl ?_
  refine ae_if_ne (t := 629) (q := 617) dL_law_614 (by decide) rfl (fun _ => ?_) (fun c => ?_)
  · refine ae_goto (q := 632) dL_law_629 (by decide) ?_
    exact kx k w _ (hw4.trans hn1)
  · refine ae_aload_n (q := 618) dL_law_617 rfl rfl rfl ?_
    refine ae_iconst (v := 0) (q := 619) dL_law_618 (by decide) rfl ?_
    refine ae_lald (n := 1) (q := 620) dL_law_619 (by rw [hw5]; exact hs1) (by rw [hw4, hn1]; decide) (by unfold vp_in; decide) rfl ?_
    refine ae_eql (show am_gl H3 319 (0 : Int32).toNatClampNeg = v.toInt64 by rw [hw6]; exact hg1 c) ?_
    refine ae_iload (q := 622) dL_law_620 rfl rfl ?_
    refine ae_i2l (q := 623) dL_law_622 rfl ?_
    refine ae_lcmp (q := 624) dL_law_623 rfl ?_
    refine ae_eqi (show lg_cmp v.toInt64 w.toInt64 = 0 by rw [hw2 c]; exact lg_cmp_rf) ?_
    refine ae_if_eq (t := 629) (q := 627) dL_law_624 (by decide) rfl (fun _ => ?_) (fun c => absurd rfl c)
    refine ae_goto (q := 632) dL_law_629 (by decide) ?_
    exact kx k w _ (hw4.trans hn1)
