/-! One turn of the law's loop for each method: the class's helper, the reference, what is compared. -/
theorem vix {i j : Int32} {n : Int} {L : Nat} (hj : j.toInt = n) (h0 : 0 ≤ n) (h4 : n ≤ 4) (hL : L ≤ 2560) (i0 : 0 ≤ i.toInt) (i5 : i.toInt + 5 ≤ L) : vp_in (i + j) L := by
  have e : (i + j).toInt = i.toInt + n := i_add rfl hj (by omega) (by omega)
  exact vin (by omega) (by omega)
theorem lg_cmp_rf {x : Int64} : lg_cmp x x = 0 := by unfold lg_cmp; simp
theorem am_DW.mono {c d : Nat} {ox : List (Nat × (Nat → Int32))} {y : MethodName} {M : am_M} {hh : List (Nat × Nat × Nat × Nat)} {as : List Value} {H : am_H} {P P1 : Option Value ⊕ String → am_H → Prop} (h : am_DW c ox d y M hh as H P1) (hP : ∀ o H', P1 o H' → P o H') : am_DW c ox d y M hh as H P := by
  obtain ⟨o, H', hV, hm1, hm2, hm3⟩ := h
  exact ⟨o, H', hV, hm1, hm2, hm3.1, hP o H' hm3.2⟩
set_option maxRecDepth 100000 in
set_option maxHeartbeats 4000000 in
theorem tn_body {c L : Nat} {xs : Nat → Int32} {i : Int32} {H : am_H} {P : Option Value ⊕ String → am_H → Prop} {S1 : Int32 → am_H → Prop} {S2 : Int32 → Int32 → am_H → Prop} (hL : L ≤ 2560) (i0 : 0 ≤ i.toInt) (i5 : i.toInt + 5 ≤ L) (hn : am_nx H = 320) (hH : am_DW 1 (am_ox L xs) 9 yL_body mL_body hL_body [.ref 0, .int (xs (i + 1).toNatClampNeg), .ref 319] H (fun o H1 => ∃ k, o = .inl (some (.int k)) ∧ S1 k H1)) (hM : ∀ k H1, S1 k H1 → (am_nx H1 = 320 ∧ am_sh H1 288 = (7, am_Nf 7)) ∧ am_D (am_ox L xs) 9 yX7_body mX7_body [.ref 288, .int (xs (i + 1).toNatClampNeg)] H1 (fun o H2 => ∃ w, o = .inl (some (.int w)) ∧ S2 k w H2)) (h2 : ∀ k w H2, S2 k w H2 → am_nx H2 = 320)  (kx : ∀ k w H2, S2 k w H2 → am_EB c (am_ox L xs) 10 mLw 425 [(6, .int w), (5, .int k), (4, .int i), (3, .ref 319), (2, .ref 288), (1, .ref 0), (0, .ref 1000000)] [] H2 P) : am_EB (c + 1) (am_ox L xs) 10 mLw 88 [(4, .int i), (3, .ref 319), (2, .ref 288), (1, .ref 0), (0, .ref 1000000)] [] H P := by
  refine ae_aload_n (q := 89) dL_law_88 rfl rfl rfl ?_
  refine ae_aload_n (q := 90) dL_law_89 rfl rfl rfl ?_
  refine ae_iload (q := 92) dL_law_90 rfl rfl ?_
  refine ae_iconst (v := 1) (q := 93) dL_law_92 (by decide) rfl ?_
  refine ae_iadd (q := 94) dL_law_93 rfl ?_
  refine ae_sld (i := 0) (r := (L, xs)) (q := 95) dL_law_94 rfl (vix (n := 1) (by decide) (by decide) (by decide) hL i0 i5) rfl ?_
  refine ae_aload_n (q := 96) dL_law_95 rfl rfl rfl ?_
  refine ae_callSW (c2 := c) (as := [.ref 0, .int (xs (i + 1).toNatClampNeg), .ref 319]) (st := []) (q := 99) dL_law_96 hH mwL_body lk_L_55 sm_L_body rfl rfl (Nat.le_of_ble_eq_true rfl) rfl (by omega) (fun o H1 h => by obtain ⟨k, rfl, -⟩ := h; exact ⟨_, rfl⟩) (fun v1 H1 h => ?_)
  obtain ⟨k, hk1, hS⟩ := h
  cases hk1
  obtain ⟨⟨n1, s1⟩, hD⟩ := hM k H1 hS
  refine ⟨Or.inl (n1.trans hn.symm), ?_⟩
  show am_EB c (am_ox L xs) 10 mLw 99 [(4, .int i), (3, .ref 319), (2, .ref 288), (1, .ref 0), (0, .ref 1000000)] [.int k] H1 P
  refine ae_istore (lv' := [(5, .int k), (4, .int i), (3, .ref 319), (2, .ref 288), (1, .ref 0), (0, .ref 1000000)]) (q := 101) dL_law_99 (by decide) rfl rfl ?_
  refine ae_aload_n (q := 102) dL_law_101 rfl rfl rfl ?_
  refine ae_aload_n (q := 103) dL_law_102 rfl rfl rfl ?_
  refine ae_iload (q := 105) dL_law_103 rfl rfl ?_
  refine ae_iconst (v := 1) (q := 106) dL_law_105 (by decide) rfl ?_
  refine ae_iadd (q := 107) dL_law_106 rfl ?_
  refine ae_sld (i := 0) (r := (L, xs)) (q := 108) dL_law_107 rfl (vix (n := 1) (by decide) (by decide) (by decide) hL i0 i5) rfl ?_
  refine ae_callV (ci := 7) (as := [.int (xs (i + 1).toNatClampNeg)]) (b := 288) (st := []) (q := 111) dL_law_108 hD myX7_body lk_L_60 im_X7_body se_X7_body rfl (by decide) s1 (by omega) rfl rfl (Nat.le_of_ble_eq_true rfl) rfl (fun o G h => by obtain ⟨w, rfl, -⟩ := h; exact ⟨_, rfl⟩) (fun v2 H2 h => ?_)
  obtain ⟨w, hw1, hS2⟩ := h
  cases hw1
  refine ⟨Or.inl ((h2 _ _ _ hS2).trans n1.symm), ?_⟩
  show am_EB c (am_ox L xs) 10 mLw 111 [(5, .int k), (4, .int i), (3, .ref 319), (2, .ref 288), (1, .ref 0), (0, .ref 1000000)] [.int w] H2 P
  refine ae_istore (lv' := [(6, .int w), (5, .int k), (4, .int i), (3, .ref 319), (2, .ref 288), (1, .ref 0), (0, .ref 1000000)]) (q := 113) dL_law_111 (by decide) rfl rfl ?_
  refine ae_goto (q := 425) dL_law_113 (by decide) ?_
  exact kx k w _ hS2
set_option maxRecDepth 100000 in
set_option maxHeartbeats 4000000 in
theorem tn_add {c L : Nat} {xs : Nat → Int32} {i : Int32} {H : am_H} {P : Option Value ⊕ String → am_H → Prop} {S1 : Int32 → am_H → Prop} {S2 : Int32 → Int32 → am_H → Prop} (hL : L ≤ 2560) (i0 : 0 ≤ i.toInt) (i5 : i.toInt + 5 ≤ L) (hn : am_nx H = 320) (hH : am_DW 1 (am_ox L xs) 9 yL_add mL_add hL_add [.ref 0, .int (xs (i + 1).toNatClampNeg), .int (xs (i + 2).toNatClampNeg), .int (xs (i + 3).toNatClampNeg), .ref 319] H (fun o H1 => ∃ k, o = .inl (some (.int k)) ∧ S1 k H1)) (hM : ∀ k H1, S1 k H1 → (am_nx H1 = 320 ∧ am_sh H1 288 = (7, am_Nf 7)) ∧ am_D (am_ox L xs) 9 yX7_add mX7_add [.ref 288, .int (xs (i + 1).toNatClampNeg), .int (xs (i + 2).toNatClampNeg), .int (xs (i + 3).toNatClampNeg)] H1 (fun o H2 => ∃ w, o = .inl (some (.int w)) ∧ S2 k w H2)) (h2 : ∀ k w H2, S2 k w H2 → am_nx H2 = 320) (h3 : ∀ k w H2, S2 k w H2 → am_sh H2 288 = (7, am_Nf 7) ∧ am_sh H2 319 = (102, 1) ∧ am_gi H2 288 37 = k ∧ (k = 0 → am_gl H2 319 0 = w.toInt64)) (kx : ∀ k w H2, S2 k w H2 → am_EB c (am_ox L xs) 10 mLw 425 [(6, .int w), (5, .int k), (4, .int i), (3, .ref 319), (2, .ref 288), (1, .ref 0), (0, .ref 1000000)] [] H2 P) : am_EB (c + 1) (am_ox L xs) 10 mLw 116 [(4, .int i), (3, .ref 319), (2, .ref 288), (1, .ref 0), (0, .ref 1000000)] [] H P := by
  refine ae_aload_n (q := 117) dL_law_116 rfl rfl rfl ?_
  refine ae_aload_n (q := 118) dL_law_117 rfl rfl rfl ?_
  refine ae_iload (q := 120) dL_law_118 rfl rfl ?_
  refine ae_iconst (v := 1) (q := 121) dL_law_120 (by decide) rfl ?_
  refine ae_iadd (q := 122) dL_law_121 rfl ?_
  refine ae_sld (i := 0) (r := (L, xs)) (q := 123) dL_law_122 rfl (vix (n := 1) (by decide) (by decide) (by decide) hL i0 i5) rfl ?_
  refine ae_aload_n (q := 124) dL_law_123 rfl rfl rfl ?_
  refine ae_iload (q := 126) dL_law_124 rfl rfl ?_
  refine ae_iconst (v := 2) (q := 127) dL_law_126 (by decide) rfl ?_
  refine ae_iadd (q := 128) dL_law_127 rfl ?_
  refine ae_sld (i := 0) (r := (L, xs)) (q := 129) dL_law_128 rfl (vix (n := 2) (by decide) (by decide) (by decide) hL i0 i5) rfl ?_
  refine ae_aload_n (q := 130) dL_law_129 rfl rfl rfl ?_
  refine ae_iload (q := 132) dL_law_130 rfl rfl ?_
  refine ae_iconst (v := 3) (q := 133) dL_law_132 (by decide) rfl ?_
  refine ae_iadd (q := 134) dL_law_133 rfl ?_
  refine ae_sld (i := 0) (r := (L, xs)) (q := 135) dL_law_134 rfl (vix (n := 3) (by decide) (by decide) (by decide) hL i0 i5) rfl ?_
  refine ae_aload_n (q := 136) dL_law_135 rfl rfl rfl ?_
  refine ae_callSW (c2 := c) (as := [.ref 0, .int (xs (i + 1).toNatClampNeg), .int (xs (i + 2).toNatClampNeg), .int (xs (i + 3).toNatClampNeg), .ref 319]) (st := []) (q := 139) dL_law_136 hH mwL_add lk_L_61 sm_L_add rfl rfl (Nat.le_of_ble_eq_true rfl) rfl (by omega) (fun o H1 h => by obtain ⟨k, rfl, -⟩ := h; exact ⟨_, rfl⟩) (fun v1 H1 h => ?_)
  obtain ⟨k, hk1, hS⟩ := h
  cases hk1
  obtain ⟨⟨n1, s1⟩, hD⟩ := hM k H1 hS
  refine ⟨Or.inl (n1.trans hn.symm), ?_⟩
  show am_EB c (am_ox L xs) 10 mLw 139 [(4, .int i), (3, .ref 319), (2, .ref 288), (1, .ref 0), (0, .ref 1000000)] [.int k] H1 P
  refine ae_istore (lv' := [(5, .int k), (4, .int i), (3, .ref 319), (2, .ref 288), (1, .ref 0), (0, .ref 1000000)]) (q := 141) dL_law_139 (by decide) rfl rfl ?_
  refine ae_aload_n (q := 142) dL_law_141 rfl rfl rfl ?_
  refine ae_aload_n (q := 143) dL_law_142 rfl rfl rfl ?_
  refine ae_iload (q := 145) dL_law_143 rfl rfl ?_
  refine ae_iconst (v := 1) (q := 146) dL_law_145 (by decide) rfl ?_
  refine ae_iadd (q := 147) dL_law_146 rfl ?_
  refine ae_sld (i := 0) (r := (L, xs)) (q := 148) dL_law_147 rfl (vix (n := 1) (by decide) (by decide) (by decide) hL i0 i5) rfl ?_
  refine ae_aload_n (q := 149) dL_law_148 rfl rfl rfl ?_
  refine ae_iload (q := 151) dL_law_149 rfl rfl ?_
  refine ae_iconst (v := 2) (q := 152) dL_law_151 (by decide) rfl ?_
  refine ae_iadd (q := 153) dL_law_152 rfl ?_
  refine ae_sld (i := 0) (r := (L, xs)) (q := 154) dL_law_153 rfl (vix (n := 2) (by decide) (by decide) (by decide) hL i0 i5) rfl ?_
  refine ae_aload_n (q := 155) dL_law_154 rfl rfl rfl ?_
  refine ae_iload (q := 157) dL_law_155 rfl rfl ?_
  refine ae_iconst (v := 3) (q := 158) dL_law_157 (by decide) rfl ?_
  refine ae_iadd (q := 159) dL_law_158 rfl ?_
  refine ae_sld (i := 0) (r := (L, xs)) (q := 160) dL_law_159 rfl (vix (n := 3) (by decide) (by decide) (by decide) hL i0 i5) rfl ?_
  refine ae_callV (ci := 7) (as := [.int (xs (i + 1).toNatClampNeg), .int (xs (i + 2).toNatClampNeg), .int (xs (i + 3).toNatClampNeg)]) (b := 288) (st := []) (q := 163) dL_law_160 hD myX7_add lk_L_64 im_X7_add se_X7_add rfl (by decide) s1 (by omega) rfl rfl (Nat.le_of_ble_eq_true rfl) rfl (fun o G h => by obtain ⟨w, rfl, -⟩ := h; exact ⟨_, rfl⟩) (fun v2 H2 h => ?_)
  obtain ⟨w, hw1, hS2⟩ := h
  cases hw1
  refine ⟨Or.inl ((h2 _ _ _ hS2).trans n1.symm), ?_⟩
  show am_EB c (am_ox L xs) 10 mLw 163 [(5, .int k), (4, .int i), (3, .ref 319), (2, .ref 288), (1, .ref 0), (0, .ref 1000000)] [.int w] H2 P
  refine ae_istore (lv' := [(6, .int w), (5, .int k), (4, .int i), (3, .ref 319), (2, .ref 288), (1, .ref 0), (0, .ref 1000000)]) (q := 165) dL_law_163 (by decide) rfl rfl ?_
  obtain ⟨c1, c2, c3, c4⟩ := h3 _ _ _ hS2
  have n2 := h2 _ _ _ hS2
  refine ae_aload_n (q := 166) dL_law_165 rfl rfl rfl ?_
  refine ae_callV (ci := 7) (as := []) (b := 288) (st := []) (q := 169) dL_law_166 (e_X7_thrown c1 (by omega)) myX7_thrown lk_L_65 im_X7_thrown se_X7_thrown rfl (by decide) c1 (by omega) rfl rfl (Nat.le_of_ble_eq_true rfl) rfl (fun o G h => ⟨_, h.1⟩) (fun v3 H3 h => ?_)
  obtain ⟨z1, z2⟩ := h
  subst z2
  cases z1
  refine ⟨Or.inl rfl, ?_⟩
  show am_EB c (am_ox L xs) 10 mLw 169 [(6, .int w), (5, .int k), (4, .int i), (3, .ref 319), (2, .ref 288), (1, .ref 0), (0, .ref 1000000)] [.int (am_gi H3 288 37)] H3 P
  refine ae_eqi c3 ?_
  refine ae_iload (q := 171) dL_law_169 rfl rfl ?_
  refine ae_icmp_eq (t := 176) (q := 174) dL_law_171 (by decide) rfl (fun _ => ?_) (fun c => absurd rfl c)
  refine ae_iload (q := 178) dL_law_176 rfl rfl ?_
  refine ae_if_ne (t := 193) (q := 181) dL_law_178 (by decide) rfl (fun _ => ?_) (fun cc => ?_)
  · refine ae_goto (q := 425) dL_law_193 (by decide) ?_
    exact kx k w _ hS2
  · refine ae_aload_n (q := 182) dL_law_181 rfl rfl rfl ?_
    refine ae_iconst (v := 0) (q := 183) dL_law_182 (by decide) rfl ?_
    refine ae_lald (n := 1) (q := 184) dL_law_183 c2 (by omega) (by unfold vp_in; decide) rfl ?_
    refine ae_eql (show am_gl H3 319 (0 : Int32).toNatClampNeg = w.toInt64 from c4 cc) ?_
    refine ae_iload (q := 186) dL_law_184 rfl rfl ?_
    refine ae_i2l (q := 187) dL_law_186 rfl ?_
    refine ae_lcmp (q := 188) dL_law_187 rfl ?_
    refine ae_eqi (show lg_cmp w.toInt64 w.toInt64 = 0 from lg_cmp_rf) ?_
    refine ae_if_eq (t := 193) (q := 191) dL_law_188 (by decide) rfl (fun _ => ?_) (fun c => absurd rfl c)
    refine ae_goto (q := 425) dL_law_193 (by decide) ?_
    exact kx k w _ hS2
set_option maxRecDepth 100000 in
set_option maxHeartbeats 4000000 in
theorem tn_begin {c L : Nat} {xs : Nat → Int32} {i : Int32} {H : am_H} {P : Option Value ⊕ String → am_H → Prop} {S1 : Int32 → am_H → Prop} {S2 : Int32 → Int32 → am_H → Prop} (hL : L ≤ 2560) (i0 : 0 ≤ i.toInt) (i5 : i.toInt + 5 ≤ L) (hn : am_nx H = 320) (hH : am_DW 1 (am_ox L xs) 9 yL_begin mL_begin hL_begin [.ref 0, .int (xs (i + 1).toNatClampNeg), .int (xs (i + 2).toNatClampNeg), .int (xs (i + 3).toNatClampNeg), .int (xs (i + 4).toNatClampNeg)] H (fun o H1 => ∃ k, o = .inl (some (.int k)) ∧ S1 k H1)) (hM : ∀ k H1, S1 k H1 → (am_nx H1 = 320 ∧ am_sh H1 288 = (7, am_Nf 7)) ∧ am_D (am_ox L xs) 9 yX7_begin mX7_begin [.ref 288, .int (xs (i + 1).toNatClampNeg), .int (xs (i + 2).toNatClampNeg), .int (xs (i + 3).toNatClampNeg), .int (xs (i + 4).toNatClampNeg)] H1 (fun o H2 => o = .inl none ∧ S2 k 0 H2)) (h2 : ∀ k w H2, S2 k w H2 → am_nx H2 = 320)  (kx : ∀ k w H2, S2 k w H2 → am_EB c (am_ox L xs) 10 mLw 425 [(5, .int k), (4, .int i), (3, .ref 319), (2, .ref 288), (1, .ref 0), (0, .ref 1000000)] [] H2 P) : am_EB (c + 1) (am_ox L xs) 10 mLw 196 [(4, .int i), (3, .ref 319), (2, .ref 288), (1, .ref 0), (0, .ref 1000000)] [] H P := by
  refine ae_aload_n (q := 197) dL_law_196 rfl rfl rfl ?_
  refine ae_aload_n (q := 198) dL_law_197 rfl rfl rfl ?_
  refine ae_iload (q := 200) dL_law_198 rfl rfl ?_
  refine ae_iconst (v := 1) (q := 201) dL_law_200 (by decide) rfl ?_
  refine ae_iadd (q := 202) dL_law_201 rfl ?_
  refine ae_sld (i := 0) (r := (L, xs)) (q := 203) dL_law_202 rfl (vix (n := 1) (by decide) (by decide) (by decide) hL i0 i5) rfl ?_
  refine ae_aload_n (q := 204) dL_law_203 rfl rfl rfl ?_
  refine ae_iload (q := 206) dL_law_204 rfl rfl ?_
  refine ae_iconst (v := 2) (q := 207) dL_law_206 (by decide) rfl ?_
  refine ae_iadd (q := 208) dL_law_207 rfl ?_
  refine ae_sld (i := 0) (r := (L, xs)) (q := 209) dL_law_208 rfl (vix (n := 2) (by decide) (by decide) (by decide) hL i0 i5) rfl ?_
  refine ae_aload_n (q := 210) dL_law_209 rfl rfl rfl ?_
  refine ae_iload (q := 212) dL_law_210 rfl rfl ?_
  refine ae_iconst (v := 3) (q := 213) dL_law_212 (by decide) rfl ?_
  refine ae_iadd (q := 214) dL_law_213 rfl ?_
  refine ae_sld (i := 0) (r := (L, xs)) (q := 215) dL_law_214 rfl (vix (n := 3) (by decide) (by decide) (by decide) hL i0 i5) rfl ?_
  refine ae_aload_n (q := 216) dL_law_215 rfl rfl rfl ?_
  refine ae_iload (q := 218) dL_law_216 rfl rfl ?_
  refine ae_iconst (v := 4) (q := 219) dL_law_218 (by decide) rfl ?_
  refine ae_iadd (q := 220) dL_law_219 rfl ?_
  refine ae_sld (i := 0) (r := (L, xs)) (q := 221) dL_law_220 rfl (vix (n := 4) (by decide) (by decide) (by decide) hL i0 i5) rfl ?_
  refine ae_callSW (c2 := c) (as := [.ref 0, .int (xs (i + 1).toNatClampNeg), .int (xs (i + 2).toNatClampNeg), .int (xs (i + 3).toNatClampNeg), .int (xs (i + 4).toNatClampNeg)]) (st := []) (q := 224) dL_law_221 hH mwL_begin lk_L_68 sm_L_begin rfl rfl (Nat.le_of_ble_eq_true rfl) rfl (by omega) (fun o H1 h => by obtain ⟨k, rfl, -⟩ := h; exact ⟨_, rfl⟩) (fun v1 H1 h => ?_)
  obtain ⟨k, hk1, hS⟩ := h
  cases hk1
  obtain ⟨⟨n1, s1⟩, hD⟩ := hM k H1 hS
  refine ⟨Or.inl (n1.trans hn.symm), ?_⟩
  show am_EB c (am_ox L xs) 10 mLw 224 [(4, .int i), (3, .ref 319), (2, .ref 288), (1, .ref 0), (0, .ref 1000000)] [.int k] H1 P
  refine ae_istore (lv' := [(5, .int k), (4, .int i), (3, .ref 319), (2, .ref 288), (1, .ref 0), (0, .ref 1000000)]) (q := 226) dL_law_224 (by decide) rfl rfl ?_
  refine ae_aload_n (q := 227) dL_law_226 rfl rfl rfl ?_
  refine ae_aload_n (q := 228) dL_law_227 rfl rfl rfl ?_
  refine ae_iload (q := 230) dL_law_228 rfl rfl ?_
  refine ae_iconst (v := 1) (q := 231) dL_law_230 (by decide) rfl ?_
  refine ae_iadd (q := 232) dL_law_231 rfl ?_
  refine ae_sld (i := 0) (r := (L, xs)) (q := 233) dL_law_232 rfl (vix (n := 1) (by decide) (by decide) (by decide) hL i0 i5) rfl ?_
  refine ae_aload_n (q := 234) dL_law_233 rfl rfl rfl ?_
  refine ae_iload (q := 236) dL_law_234 rfl rfl ?_
  refine ae_iconst (v := 2) (q := 237) dL_law_236 (by decide) rfl ?_
  refine ae_iadd (q := 238) dL_law_237 rfl ?_
  refine ae_sld (i := 0) (r := (L, xs)) (q := 239) dL_law_238 rfl (vix (n := 2) (by decide) (by decide) (by decide) hL i0 i5) rfl ?_
  refine ae_aload_n (q := 240) dL_law_239 rfl rfl rfl ?_
  refine ae_iload (q := 242) dL_law_240 rfl rfl ?_
  refine ae_iconst (v := 3) (q := 243) dL_law_242 (by decide) rfl ?_
  refine ae_iadd (q := 244) dL_law_243 rfl ?_
  refine ae_sld (i := 0) (r := (L, xs)) (q := 245) dL_law_244 rfl (vix (n := 3) (by decide) (by decide) (by decide) hL i0 i5) rfl ?_
  refine ae_aload_n (q := 246) dL_law_245 rfl rfl rfl ?_
  refine ae_iload (q := 248) dL_law_246 rfl rfl ?_
  refine ae_iconst (v := 4) (q := 249) dL_law_248 (by decide) rfl ?_
  refine ae_iadd (q := 250) dL_law_249 rfl ?_
  refine ae_sld (i := 0) (r := (L, xs)) (q := 251) dL_law_250 rfl (vix (n := 4) (by decide) (by decide) (by decide) hL i0 i5) rfl ?_
  refine ae_callV (ci := 7) (as := [.int (xs (i + 1).toNatClampNeg), .int (xs (i + 2).toNatClampNeg), .int (xs (i + 3).toNatClampNeg), .int (xs (i + 4).toNatClampNeg)]) (b := 288) (st := []) (q := 254) dL_law_251 hD myX7_begin lk_L_71 im_X7_begin se_X7_begin rfl (by decide) s1 (by omega) rfl rfl (Nat.le_of_ble_eq_true rfl) rfl (fun o G h => ⟨none, h.1⟩) (fun v2 H2 h => ?_)
  obtain ⟨hw1, hS2⟩ := h
  cases hw1
  refine ⟨Or.inl ((h2 _ _ _ hS2).trans n1.symm), ?_⟩
  show am_EB c (am_ox L xs) 10 mLw 254 [(5, .int k), (4, .int i), (3, .ref 319), (2, .ref 288), (1, .ref 0), (0, .ref 1000000)] [] H2 P
  refine ae_goto (q := 425) dL_law_254 (by decide) ?_
  exact kx k 0 _ hS2
set_option maxRecDepth 100000 in
set_option maxHeartbeats 4000000 in
theorem tn_run {c L : Nat} {xs : Nat → Int32} {i : Int32} {H : am_H} {P : Option Value ⊕ String → am_H → Prop} {S1 : Int32 → am_H → Prop} {S2 : Int32 → Int32 → am_H → Prop} (hL : L ≤ 2560) (i0 : 0 ≤ i.toInt) (i5 : i.toInt + 5 ≤ L) (hn : am_nx H = 320) (hH : am_DW 1 (am_ox L xs) 9 yL_run mL_run hL_run [.ref 0, .int (xs (i + 1).toNatClampNeg), .ref 319] H (fun o H1 => ∃ k, o = .inl (some (.int k)) ∧ S1 k H1)) (hM : ∀ k H1, S1 k H1 → (am_nx H1 = 320 ∧ am_sh H1 288 = (7, am_Nf 7)) ∧ am_D (am_ox L xs) 9 yX7_run mX7_run [.ref 288, .int (xs (i + 1).toNatClampNeg)] H1 (fun o H2 => ∃ w, o = .inl (some (.int w)) ∧ S2 k w H2)) (h2 : ∀ k w H2, S2 k w H2 → am_nx H2 = 320)  (kx : ∀ k w H2, S2 k w H2 → am_EB c (am_ox L xs) 10 mLw 425 [(6, .int w), (5, .int k), (4, .int i), (3, .ref 319), (2, .ref 288), (1, .ref 0), (0, .ref 1000000)] [] H2 P) : am_EB (c + 1) (am_ox L xs) 10 mLw 257 [(4, .int i), (3, .ref 319), (2, .ref 288), (1, .ref 0), (0, .ref 1000000)] [] H P := by
  refine ae_aload_n (q := 258) dL_law_257 rfl rfl rfl ?_
  refine ae_aload_n (q := 259) dL_law_258 rfl rfl rfl ?_
  refine ae_iload (q := 261) dL_law_259 rfl rfl ?_
  refine ae_iconst (v := 1) (q := 262) dL_law_261 (by decide) rfl ?_
  refine ae_iadd (q := 263) dL_law_262 rfl ?_
  refine ae_sld (i := 0) (r := (L, xs)) (q := 264) dL_law_263 rfl (vix (n := 1) (by decide) (by decide) (by decide) hL i0 i5) rfl ?_
  refine ae_aload_n (q := 265) dL_law_264 rfl rfl rfl ?_
  refine ae_callSW (c2 := c) (as := [.ref 0, .int (xs (i + 1).toNatClampNeg), .ref 319]) (st := []) (q := 268) dL_law_265 hH mwL_run lk_L_72 sm_L_run rfl rfl (Nat.le_of_ble_eq_true rfl) rfl (by omega) (fun o H1 h => by obtain ⟨k, rfl, -⟩ := h; exact ⟨_, rfl⟩) (fun v1 H1 h => ?_)
  obtain ⟨k, hk1, hS⟩ := h
  cases hk1
  obtain ⟨⟨n1, s1⟩, hD⟩ := hM k H1 hS
  refine ⟨Or.inl (n1.trans hn.symm), ?_⟩
  show am_EB c (am_ox L xs) 10 mLw 268 [(4, .int i), (3, .ref 319), (2, .ref 288), (1, .ref 0), (0, .ref 1000000)] [.int k] H1 P
  refine ae_istore (lv' := [(5, .int k), (4, .int i), (3, .ref 319), (2, .ref 288), (1, .ref 0), (0, .ref 1000000)]) (q := 270) dL_law_268 (by decide) rfl rfl ?_
  refine ae_aload_n (q := 271) dL_law_270 rfl rfl rfl ?_
  refine ae_aload_n (q := 272) dL_law_271 rfl rfl rfl ?_
  refine ae_iload (q := 274) dL_law_272 rfl rfl ?_
  refine ae_iconst (v := 1) (q := 275) dL_law_274 (by decide) rfl ?_
  refine ae_iadd (q := 276) dL_law_275 rfl ?_
  refine ae_sld (i := 0) (r := (L, xs)) (q := 277) dL_law_276 rfl (vix (n := 1) (by decide) (by decide) (by decide) hL i0 i5) rfl ?_
  refine ae_callV (ci := 7) (as := [.int (xs (i + 1).toNatClampNeg)]) (b := 288) (st := []) (q := 280) dL_law_277 hD myX7_run lk_L_74 im_X7_run se_X7_run rfl (by decide) s1 (by omega) rfl rfl (Nat.le_of_ble_eq_true rfl) rfl (fun o G h => by obtain ⟨w, rfl, -⟩ := h; exact ⟨_, rfl⟩) (fun v2 H2 h => ?_)
  obtain ⟨w, hw1, hS2⟩ := h
  cases hw1
  refine ⟨Or.inl ((h2 _ _ _ hS2).trans n1.symm), ?_⟩
  show am_EB c (am_ox L xs) 10 mLw 280 [(5, .int k), (4, .int i), (3, .ref 319), (2, .ref 288), (1, .ref 0), (0, .ref 1000000)] [.int w] H2 P
  refine ae_istore (lv' := [(6, .int w), (5, .int k), (4, .int i), (3, .ref 319), (2, .ref 288), (1, .ref 0), (0, .ref 1000000)]) (q := 282) dL_law_280 (by decide) rfl rfl ?_
  refine ae_goto (q := 425) dL_law_282 (by decide) ?_
  exact kx k w _ hS2
set_option maxRecDepth 100000 in
set_option maxHeartbeats 4000000 in
theorem tn_result {c L : Nat} {xs : Nat → Int32} {i : Int32} {H : am_H} {P : Option Value ⊕ String → am_H → Prop} {S1 : Int32 → am_H → Prop} {S2 : Int32 → Int32 → am_H → Prop} (hL : L ≤ 2560) (i0 : 0 ≤ i.toInt) (i5 : i.toInt + 5 ≤ L) (hn : am_nx H = 320) (hH : am_DW 1 (am_ox L xs) 9 yL_result mL_result hL_result [.ref 0, .ref 319] H (fun o H1 => ∃ k, o = .inl (some (.int k)) ∧ S1 k H1)) (hM : ∀ k H1, S1 k H1 → (am_nx H1 = 320 ∧ am_sh H1 288 = (7, am_Nf 7)) ∧ am_D (am_ox L xs) 9 yX7_result mX7_result [.ref 288] H1 (fun o H2 => ∃ w, o = .inl (some (.int w)) ∧ S2 k w H2)) (h2 : ∀ k w H2, S2 k w H2 → am_nx H2 = 320)  (kx : ∀ k w H2, S2 k w H2 → am_EB c (am_ox L xs) 10 mLw 425 [(6, .int w), (5, .int k), (4, .int i), (3, .ref 319), (2, .ref 288), (1, .ref 0), (0, .ref 1000000)] [] H2 P) : am_EB (c + 1) (am_ox L xs) 10 mLw 285 [(4, .int i), (3, .ref 319), (2, .ref 288), (1, .ref 0), (0, .ref 1000000)] [] H P := by
  refine ae_aload_n (q := 286) dL_law_285 rfl rfl rfl ?_
  refine ae_aload_n (q := 287) dL_law_286 rfl rfl rfl ?_
  refine ae_callSW (c2 := c) (as := [.ref 0, .ref 319]) (st := []) (q := 290) dL_law_287 hH mwL_result lk_L_75 sm_L_result rfl rfl (Nat.le_of_ble_eq_true rfl) rfl (by omega) (fun o H1 h => by obtain ⟨k, rfl, -⟩ := h; exact ⟨_, rfl⟩) (fun v1 H1 h => ?_)
  obtain ⟨k, hk1, hS⟩ := h
  cases hk1
  obtain ⟨⟨n1, s1⟩, hD⟩ := hM k H1 hS
  refine ⟨Or.inl (n1.trans hn.symm), ?_⟩
  show am_EB c (am_ox L xs) 10 mLw 290 [(4, .int i), (3, .ref 319), (2, .ref 288), (1, .ref 0), (0, .ref 1000000)] [.int k] H1 P
  refine ae_istore (lv' := [(5, .int k), (4, .int i), (3, .ref 319), (2, .ref 288), (1, .ref 0), (0, .ref 1000000)]) (q := 292) dL_law_290 (by decide) rfl rfl ?_
  refine ae_aload_n (q := 293) dL_law_292 rfl rfl rfl ?_
  refine ae_callV (ci := 7) (as := []) (b := 288) (st := []) (q := 296) dL_law_293 hD myX7_result lk_L_78 im_X7_result se_X7_result rfl (by decide) s1 (by omega) rfl rfl (Nat.le_of_ble_eq_true rfl) rfl (fun o G h => by obtain ⟨w, rfl, -⟩ := h; exact ⟨_, rfl⟩) (fun v2 H2 h => ?_)
  obtain ⟨w, hw1, hS2⟩ := h
  cases hw1
  refine ⟨Or.inl ((h2 _ _ _ hS2).trans n1.symm), ?_⟩
  show am_EB c (am_ox L xs) 10 mLw 296 [(5, .int k), (4, .int i), (3, .ref 319), (2, .ref 288), (1, .ref 0), (0, .ref 1000000)] [.int w] H2 P
  refine ae_istore (lv' := [(6, .int w), (5, .int k), (4, .int i), (3, .ref 319), (2, .ref 288), (1, .ref 0), (0, .ref 1000000)]) (q := 298) dL_law_296 (by decide) rfl rfl ?_
  refine ae_goto (q := 425) dL_law_298 (by decide) ?_
  exact kx k w _ hS2
set_option maxRecDepth 100000 in
set_option maxHeartbeats 4000000 in
theorem tn_said {c L : Nat} {xs : Nat → Int32} {i : Int32} {H : am_H} {P : Option Value ⊕ String → am_H → Prop} {S1 : Int32 → am_H → Prop} {S2 : Int32 → Int32 → am_H → Prop} (hL : L ≤ 2560) (i0 : 0 ≤ i.toInt) (i5 : i.toInt + 5 ≤ L) (hn : am_nx H = 320) (hH : am_DW 1 (am_ox L xs) 9 yL_said mL_said hL_said [.ref 0, .int (xs (i + 1).toNatClampNeg), .ref 319] H (fun o H1 => ∃ k, o = .inl (some (.int k)) ∧ S1 k H1)) (hM : ∀ k H1, S1 k H1 → (am_nx H1 = 320 ∧ am_sh H1 288 = (7, am_Nf 7)) ∧ am_D (am_ox L xs) 9 yX7_said mX7_said [.ref 288, .int (xs (i + 1).toNatClampNeg)] H1 (fun o H2 => ∃ w, o = .inl (some (.int w)) ∧ S2 k w H2)) (h2 : ∀ k w H2, S2 k w H2 → am_nx H2 = 320)  (kx : ∀ k w H2, S2 k w H2 → am_EB c (am_ox L xs) 10 mLw 425 [(6, .int w), (5, .int k), (4, .int i), (3, .ref 319), (2, .ref 288), (1, .ref 0), (0, .ref 1000000)] [] H2 P) : am_EB (c + 1) (am_ox L xs) 10 mLw 301 [(4, .int i), (3, .ref 319), (2, .ref 288), (1, .ref 0), (0, .ref 1000000)] [] H P := by
  refine ae_aload_n (q := 302) dL_law_301 rfl rfl rfl ?_
  refine ae_aload_n (q := 303) dL_law_302 rfl rfl rfl ?_
  refine ae_iload (q := 305) dL_law_303 rfl rfl ?_
  refine ae_iconst (v := 1) (q := 306) dL_law_305 (by decide) rfl ?_
  refine ae_iadd (q := 307) dL_law_306 rfl ?_
  refine ae_sld (i := 0) (r := (L, xs)) (q := 308) dL_law_307 rfl (vix (n := 1) (by decide) (by decide) (by decide) hL i0 i5) rfl ?_
  refine ae_aload_n (q := 309) dL_law_308 rfl rfl rfl ?_
  refine ae_callSW (c2 := c) (as := [.ref 0, .int (xs (i + 1).toNatClampNeg), .ref 319]) (st := []) (q := 312) dL_law_309 hH mwL_said lk_L_79 sm_L_said rfl rfl (Nat.le_of_ble_eq_true rfl) rfl (by omega) (fun o H1 h => by obtain ⟨k, rfl, -⟩ := h; exact ⟨_, rfl⟩) (fun v1 H1 h => ?_)
  obtain ⟨k, hk1, hS⟩ := h
  cases hk1
  obtain ⟨⟨n1, s1⟩, hD⟩ := hM k H1 hS
  refine ⟨Or.inl (n1.trans hn.symm), ?_⟩
  show am_EB c (am_ox L xs) 10 mLw 312 [(4, .int i), (3, .ref 319), (2, .ref 288), (1, .ref 0), (0, .ref 1000000)] [.int k] H1 P
  refine ae_istore (lv' := [(5, .int k), (4, .int i), (3, .ref 319), (2, .ref 288), (1, .ref 0), (0, .ref 1000000)]) (q := 314) dL_law_312 (by decide) rfl rfl ?_
  refine ae_aload_n (q := 315) dL_law_314 rfl rfl rfl ?_
  refine ae_aload_n (q := 316) dL_law_315 rfl rfl rfl ?_
  refine ae_iload (q := 318) dL_law_316 rfl rfl ?_
  refine ae_iconst (v := 1) (q := 319) dL_law_318 (by decide) rfl ?_
  refine ae_iadd (q := 320) dL_law_319 rfl ?_
  refine ae_sld (i := 0) (r := (L, xs)) (q := 321) dL_law_320 rfl (vix (n := 1) (by decide) (by decide) (by decide) hL i0 i5) rfl ?_
  refine ae_callV (ci := 7) (as := [.int (xs (i + 1).toNatClampNeg)]) (b := 288) (st := []) (q := 324) dL_law_321 hD myX7_said lk_L_81 im_X7_said se_X7_said rfl (by decide) s1 (by omega) rfl rfl (Nat.le_of_ble_eq_true rfl) rfl (fun o G h => by obtain ⟨w, rfl, -⟩ := h; exact ⟨_, rfl⟩) (fun v2 H2 h => ?_)
  obtain ⟨w, hw1, hS2⟩ := h
  cases hw1
  refine ⟨Or.inl ((h2 _ _ _ hS2).trans n1.symm), ?_⟩
  show am_EB c (am_ox L xs) 10 mLw 324 [(5, .int k), (4, .int i), (3, .ref 319), (2, .ref 288), (1, .ref 0), (0, .ref 1000000)] [.int w] H2 P
  refine ae_istore (lv' := [(6, .int w), (5, .int k), (4, .int i), (3, .ref 319), (2, .ref 288), (1, .ref 0), (0, .ref 1000000)]) (q := 326) dL_law_324 (by decide) rfl rfl ?_
  refine ae_goto (q := 425) dL_law_326 (by decide) ?_
  exact kx k w _ hS2
set_option maxRecDepth 100000 in
set_option maxHeartbeats 4000000 in
theorem tn_task {c L : Nat} {xs : Nat → Int32} {i : Int32} {H : am_H} {P : Option Value ⊕ String → am_H → Prop} {S1 : Int32 → am_H → Prop} {S2 : Int32 → Int32 → am_H → Prop} (hL : L ≤ 2560) (i0 : 0 ≤ i.toInt) (i5 : i.toInt + 5 ≤ L) (hn : am_nx H = 320) (hH : am_DW 1 (am_ox L xs) 9 yL_task mL_task hL_task [.ref 0, .int (xs (i + 1).toNatClampNeg), .int (xs (i + 2).toNatClampNeg), .ref 319] H (fun o H1 => ∃ k, o = .inl (some (.int k)) ∧ S1 k H1)) (hM : ∀ k H1, S1 k H1 → (am_nx H1 = 320 ∧ am_sh H1 288 = (7, am_Nf 7)) ∧ am_D (am_ox L xs) 9 yX7_task mX7_task [.ref 288, .int (xs (i + 1).toNatClampNeg), .int (xs (i + 2).toNatClampNeg)] H1 (fun o H2 => ∃ w, o = .inl (some (.int w)) ∧ S2 k w H2)) (h2 : ∀ k w H2, S2 k w H2 → am_nx H2 = 320)  (kx : ∀ k w H2, S2 k w H2 → am_EB c (am_ox L xs) 10 mLw 425 [(6, .int w), (5, .int k), (4, .int i), (3, .ref 319), (2, .ref 288), (1, .ref 0), (0, .ref 1000000)] [] H2 P) : am_EB (c + 1) (am_ox L xs) 10 mLw 329 [(4, .int i), (3, .ref 319), (2, .ref 288), (1, .ref 0), (0, .ref 1000000)] [] H P := by
  refine ae_aload_n (q := 330) dL_law_329 rfl rfl rfl ?_
  refine ae_aload_n (q := 331) dL_law_330 rfl rfl rfl ?_
  refine ae_iload (q := 333) dL_law_331 rfl rfl ?_
  refine ae_iconst (v := 1) (q := 334) dL_law_333 (by decide) rfl ?_
  refine ae_iadd (q := 335) dL_law_334 rfl ?_
  refine ae_sld (i := 0) (r := (L, xs)) (q := 336) dL_law_335 rfl (vix (n := 1) (by decide) (by decide) (by decide) hL i0 i5) rfl ?_
  refine ae_aload_n (q := 337) dL_law_336 rfl rfl rfl ?_
  refine ae_iload (q := 339) dL_law_337 rfl rfl ?_
  refine ae_iconst (v := 2) (q := 340) dL_law_339 (by decide) rfl ?_
  refine ae_iadd (q := 341) dL_law_340 rfl ?_
  refine ae_sld (i := 0) (r := (L, xs)) (q := 342) dL_law_341 rfl (vix (n := 2) (by decide) (by decide) (by decide) hL i0 i5) rfl ?_
  refine ae_aload_n (q := 343) dL_law_342 rfl rfl rfl ?_
  refine ae_callSW (c2 := c) (as := [.ref 0, .int (xs (i + 1).toNatClampNeg), .int (xs (i + 2).toNatClampNeg), .ref 319]) (st := []) (q := 346) dL_law_343 hH mwL_task lk_L_82 sm_L_task rfl rfl (Nat.le_of_ble_eq_true rfl) rfl (by omega) (fun o H1 h => by obtain ⟨k, rfl, -⟩ := h; exact ⟨_, rfl⟩) (fun v1 H1 h => ?_)
  obtain ⟨k, hk1, hS⟩ := h
  cases hk1
  obtain ⟨⟨n1, s1⟩, hD⟩ := hM k H1 hS
  refine ⟨Or.inl (n1.trans hn.symm), ?_⟩
  show am_EB c (am_ox L xs) 10 mLw 346 [(4, .int i), (3, .ref 319), (2, .ref 288), (1, .ref 0), (0, .ref 1000000)] [.int k] H1 P
  refine ae_istore (lv' := [(5, .int k), (4, .int i), (3, .ref 319), (2, .ref 288), (1, .ref 0), (0, .ref 1000000)]) (q := 348) dL_law_346 (by decide) rfl rfl ?_
  refine ae_aload_n (q := 349) dL_law_348 rfl rfl rfl ?_
  refine ae_aload_n (q := 350) dL_law_349 rfl rfl rfl ?_
  refine ae_iload (q := 352) dL_law_350 rfl rfl ?_
  refine ae_iconst (v := 1) (q := 353) dL_law_352 (by decide) rfl ?_
  refine ae_iadd (q := 354) dL_law_353 rfl ?_
  refine ae_sld (i := 0) (r := (L, xs)) (q := 355) dL_law_354 rfl (vix (n := 1) (by decide) (by decide) (by decide) hL i0 i5) rfl ?_
  refine ae_aload_n (q := 356) dL_law_355 rfl rfl rfl ?_
  refine ae_iload (q := 358) dL_law_356 rfl rfl ?_
  refine ae_iconst (v := 2) (q := 359) dL_law_358 (by decide) rfl ?_
  refine ae_iadd (q := 360) dL_law_359 rfl ?_
  refine ae_sld (i := 0) (r := (L, xs)) (q := 361) dL_law_360 rfl (vix (n := 2) (by decide) (by decide) (by decide) hL i0 i5) rfl ?_
  refine ae_callV (ci := 7) (as := [.int (xs (i + 1).toNatClampNeg), .int (xs (i + 2).toNatClampNeg)]) (b := 288) (st := []) (q := 364) dL_law_361 hD myX7_task lk_L_85 im_X7_task se_X7_task rfl (by decide) s1 (by omega) rfl rfl (Nat.le_of_ble_eq_true rfl) rfl (fun o G h => by obtain ⟨w, rfl, -⟩ := h; exact ⟨_, rfl⟩) (fun v2 H2 h => ?_)
  obtain ⟨w, hw1, hS2⟩ := h
  cases hw1
  refine ⟨Or.inl ((h2 _ _ _ hS2).trans n1.symm), ?_⟩
  show am_EB c (am_ox L xs) 10 mLw 364 [(5, .int k), (4, .int i), (3, .ref 319), (2, .ref 288), (1, .ref 0), (0, .ref 1000000)] [.int w] H2 P
  refine ae_istore (lv' := [(6, .int w), (5, .int k), (4, .int i), (3, .ref 319), (2, .ref 288), (1, .ref 0), (0, .ref 1000000)]) (q := 366) dL_law_364 (by decide) rfl rfl ?_
  refine ae_goto (q := 425) dL_law_366 (by decide) ?_
  exact kx k w _ hS2
set_option maxRecDepth 100000 in
set_option maxHeartbeats 4000000 in
theorem tn_future {c L : Nat} {xs : Nat → Int32} {i : Int32} {H : am_H} {P : Option Value ⊕ String → am_H → Prop} {S1 : Int32 → am_H → Prop} {S2 : Int32 → Int32 → am_H → Prop} (hL : L ≤ 2560) (i0 : 0 ≤ i.toInt) (i5 : i.toInt + 5 ≤ L) (hn : am_nx H = 320) (hH : am_DW 1 (am_ox L xs) 9 yL_future mL_future hL_future [.ref 0, .int (xs (i + 1).toNatClampNeg), .ref 319] H (fun o H1 => ∃ k, o = .inl (some (.int k)) ∧ S1 k H1)) (hM : ∀ k H1, S1 k H1 → (am_nx H1 = 320 ∧ am_sh H1 288 = (7, am_Nf 7)) ∧ am_D (am_ox L xs) 9 yX7_future mX7_future [.ref 288, .int (xs (i + 1).toNatClampNeg)] H1 (fun o H2 => ∃ w, o = .inl (some (.int w)) ∧ S2 k w H2)) (h2 : ∀ k w H2, S2 k w H2 → am_nx H2 = 320)  (kx : ∀ k w H2, S2 k w H2 → am_EB c (am_ox L xs) 10 mLw 425 [(6, .int w), (5, .int k), (4, .int i), (3, .ref 319), (2, .ref 288), (1, .ref 0), (0, .ref 1000000)] [] H2 P) : am_EB (c + 1) (am_ox L xs) 10 mLw 369 [(4, .int i), (3, .ref 319), (2, .ref 288), (1, .ref 0), (0, .ref 1000000)] [] H P := by
  refine ae_aload_n (q := 370) dL_law_369 rfl rfl rfl ?_
  refine ae_aload_n (q := 371) dL_law_370 rfl rfl rfl ?_
  refine ae_iload (q := 373) dL_law_371 rfl rfl ?_
  refine ae_iconst (v := 1) (q := 374) dL_law_373 (by decide) rfl ?_
  refine ae_iadd (q := 375) dL_law_374 rfl ?_
  refine ae_sld (i := 0) (r := (L, xs)) (q := 376) dL_law_375 rfl (vix (n := 1) (by decide) (by decide) (by decide) hL i0 i5) rfl ?_
  refine ae_aload_n (q := 377) dL_law_376 rfl rfl rfl ?_
  refine ae_callSW (c2 := c) (as := [.ref 0, .int (xs (i + 1).toNatClampNeg), .ref 319]) (st := []) (q := 380) dL_law_377 hH mwL_future lk_L_86 sm_L_future rfl rfl (Nat.le_of_ble_eq_true rfl) rfl (by omega) (fun o H1 h => by obtain ⟨k, rfl, -⟩ := h; exact ⟨_, rfl⟩) (fun v1 H1 h => ?_)
  obtain ⟨k, hk1, hS⟩ := h
  cases hk1
  obtain ⟨⟨n1, s1⟩, hD⟩ := hM k H1 hS
  refine ⟨Or.inl (n1.trans hn.symm), ?_⟩
  show am_EB c (am_ox L xs) 10 mLw 380 [(4, .int i), (3, .ref 319), (2, .ref 288), (1, .ref 0), (0, .ref 1000000)] [.int k] H1 P
  refine ae_istore (lv' := [(5, .int k), (4, .int i), (3, .ref 319), (2, .ref 288), (1, .ref 0), (0, .ref 1000000)]) (q := 382) dL_law_380 (by decide) rfl rfl ?_
  refine ae_aload_n (q := 383) dL_law_382 rfl rfl rfl ?_
  refine ae_aload_n (q := 384) dL_law_383 rfl rfl rfl ?_
  refine ae_iload (q := 386) dL_law_384 rfl rfl ?_
  refine ae_iconst (v := 1) (q := 387) dL_law_386 (by decide) rfl ?_
  refine ae_iadd (q := 388) dL_law_387 rfl ?_
  refine ae_sld (i := 0) (r := (L, xs)) (q := 389) dL_law_388 rfl (vix (n := 1) (by decide) (by decide) (by decide) hL i0 i5) rfl ?_
  refine ae_callV (ci := 7) (as := [.int (xs (i + 1).toNatClampNeg)]) (b := 288) (st := []) (q := 392) dL_law_389 hD myX7_future lk_L_88 im_X7_future se_X7_future rfl (by decide) s1 (by omega) rfl rfl (Nat.le_of_ble_eq_true rfl) rfl (fun o G h => by obtain ⟨w, rfl, -⟩ := h; exact ⟨_, rfl⟩) (fun v2 H2 h => ?_)
  obtain ⟨w, hw1, hS2⟩ := h
  cases hw1
  refine ⟨Or.inl ((h2 _ _ _ hS2).trans n1.symm), ?_⟩
  show am_EB c (am_ox L xs) 10 mLw 392 [(5, .int k), (4, .int i), (3, .ref 319), (2, .ref 288), (1, .ref 0), (0, .ref 1000000)] [.int w] H2 P
  refine ae_istore (lv' := [(6, .int w), (5, .int k), (4, .int i), (3, .ref 319), (2, .ref 288), (1, .ref 0), (0, .ref 1000000)]) (q := 394) dL_law_392 (by decide) rfl rfl ?_
  refine ae_goto (q := 425) dL_law_394 (by decide) ?_
  exact kx k w _ hS2
set_option maxRecDepth 100000 in
set_option maxHeartbeats 4000000 in
theorem tn_count {c L : Nat} {xs : Nat → Int32} {i : Int32} {H : am_H} {P : Option Value ⊕ String → am_H → Prop} {S1 : Int32 → am_H → Prop} {S2 : Int32 → Int32 → am_H → Prop} (hL : L ≤ 2560) (i0 : 0 ≤ i.toInt) (i5 : i.toInt + 5 ≤ L) (hn : am_nx H = 320) (hH : am_DW 1 (am_ox L xs) 9 yL_count mL_count hL_count [.ref 0, .int (xs (i + 1).toNatClampNeg), .ref 319] H (fun o H1 => ∃ k, o = .inl (some (.int k)) ∧ S1 k H1)) (hM : ∀ k H1, S1 k H1 → (am_nx H1 = 320 ∧ am_sh H1 288 = (7, am_Nf 7)) ∧ am_D (am_ox L xs) 9 yX7_count mX7_count [.ref 288, .int (xs (i + 1).toNatClampNeg)] H1 (fun o H2 => ∃ w, o = .inl (some (.int w)) ∧ S2 k w H2)) (h2 : ∀ k w H2, S2 k w H2 → am_nx H2 = 320)  (kx : ∀ k w H2, S2 k w H2 → am_EB c (am_ox L xs) 10 mLw 425 [(6, .int w), (5, .int k), (4, .int i), (3, .ref 319), (2, .ref 288), (1, .ref 0), (0, .ref 1000000)] [] H2 P) : am_EB (c + 1) (am_ox L xs) 10 mLw 397 [(4, .int i), (3, .ref 319), (2, .ref 288), (1, .ref 0), (0, .ref 1000000)] [] H P := by
  refine ae_aload_n (q := 398) dL_law_397 rfl rfl rfl ?_
  refine ae_aload_n (q := 399) dL_law_398 rfl rfl rfl ?_
  refine ae_iload (q := 401) dL_law_399 rfl rfl ?_
  refine ae_iconst (v := 1) (q := 402) dL_law_401 (by decide) rfl ?_
  refine ae_iadd (q := 403) dL_law_402 rfl ?_
  refine ae_sld (i := 0) (r := (L, xs)) (q := 404) dL_law_403 rfl (vix (n := 1) (by decide) (by decide) (by decide) hL i0 i5) rfl ?_
  refine ae_aload_n (q := 405) dL_law_404 rfl rfl rfl ?_
  refine ae_callSW (c2 := c) (as := [.ref 0, .int (xs (i + 1).toNatClampNeg), .ref 319]) (st := []) (q := 408) dL_law_405 hH mwL_count lk_L_89 sm_L_count rfl rfl (Nat.le_of_ble_eq_true rfl) rfl (by omega) (fun o H1 h => by obtain ⟨k, rfl, -⟩ := h; exact ⟨_, rfl⟩) (fun v1 H1 h => ?_)
  obtain ⟨k, hk1, hS⟩ := h
  cases hk1
  obtain ⟨⟨n1, s1⟩, hD⟩ := hM k H1 hS
  refine ⟨Or.inl (n1.trans hn.symm), ?_⟩
  show am_EB c (am_ox L xs) 10 mLw 408 [(4, .int i), (3, .ref 319), (2, .ref 288), (1, .ref 0), (0, .ref 1000000)] [.int k] H1 P
  refine ae_istore (lv' := [(5, .int k), (4, .int i), (3, .ref 319), (2, .ref 288), (1, .ref 0), (0, .ref 1000000)]) (q := 410) dL_law_408 (by decide) rfl rfl ?_
  refine ae_aload_n (q := 411) dL_law_410 rfl rfl rfl ?_
  refine ae_aload_n (q := 412) dL_law_411 rfl rfl rfl ?_
  refine ae_iload (q := 414) dL_law_412 rfl rfl ?_
  refine ae_iconst (v := 1) (q := 415) dL_law_414 (by decide) rfl ?_
  refine ae_iadd (q := 416) dL_law_415 rfl ?_
  refine ae_sld (i := 0) (r := (L, xs)) (q := 417) dL_law_416 rfl (vix (n := 1) (by decide) (by decide) (by decide) hL i0 i5) rfl ?_
  refine ae_callV (ci := 7) (as := [.int (xs (i + 1).toNatClampNeg)]) (b := 288) (st := []) (q := 420) dL_law_417 hD myX7_count lk_L_91 im_X7_count se_X7_count rfl (by decide) s1 (by omega) rfl rfl (Nat.le_of_ble_eq_true rfl) rfl (fun o G h => by obtain ⟨w, rfl, -⟩ := h; exact ⟨_, rfl⟩) (fun v2 H2 h => ?_)
  obtain ⟨w, hw1, hS2⟩ := h
  cases hw1
  refine ⟨Or.inl ((h2 _ _ _ hS2).trans n1.symm), ?_⟩
  show am_EB c (am_ox L xs) 10 mLw 420 [(5, .int k), (4, .int i), (3, .ref 319), (2, .ref 288), (1, .ref 0), (0, .ref 1000000)] [.int w] H2 P
  refine ae_istore (lv' := [(6, .int w), (5, .int k), (4, .int i), (3, .ref 319), (2, .ref 288), (1, .ref 0), (0, .ref 1000000)]) (q := 422) dL_law_420 (by decide) rfl rfl ?_
  refine ae_goto (q := 425) dL_law_422 (by decide) ?_
  exact kx k w _ hS2
