/-! One turn of the law's loop for each method: the class's helper, the reference, what is compared. -/
theorem vix {i j : Int32} {n : Int} {L : Nat} (hj : j.toInt = n) (h0 : 0 ≤ n) (h4 : n ≤ 4) (hL : L ≤ 2560) (i0 : 0 ≤ i.toInt) (i5 : i.toInt + 5 ≤ L) : vp_in (i + j) L := by
  have e : (i + j).toInt = i.toInt + n := i_add rfl hj (by omega) (by omega)
  exact vin (by omega) (by omega)
theorem lg_cmp_rf {x : Int64} : lg_cmp x x = 0 := by unfold lg_cmp; simp
theorem am_DW.mono {c d : Nat} {ox : List (Nat × (Nat → Int32))} {y : MethodName} {M : am_M} {hh : List (Nat × Nat × Nat × Nat)} {as : List Value} {H : am_H} {P P1 : Option Value ⊕ String → am_H → Prop} (h : am_DW c ox d y M hh as H P1) (hP : ∀ o H', P1 o H' → P o H') : am_DW c ox d y M hh as H P := by
  obtain ⟨o, H', hV, hm1, hm2, hm3⟩ := h
  exact ⟨o, H', hV, hm1, hm2, hm3.1, hP o H' hm3.2⟩
set_option maxRecDepth 100000 in
set_option maxHeartbeats 4000000 in
theorem tn_body {c L : Nat} {xs : Nat → Int32} {i : Int32} {H : am_H} {P : Option Value ⊕ String → am_H → Prop} {S1 : Int32 → am_H → Prop} {S2 : Int32 → Int32 → am_H → Prop} (hL : L ≤ 2560) (i0 : 0 ≤ i.toInt) (i5 : i.toInt + 5 ≤ L) (hn : am_nx H = 320) (hH : am_DW 1 (am_ox L xs) 9 yL_body mL_body hL_body [.ref 0, .int (xs (i + 1).toNatClampNeg), .ref 319] H (fun o H1 => ∃ k, o = .inl (some (.int k)) ∧ S1 k H1)) (hM : ∀ k H1, S1 k H1 → (am_nx H1 = 320 ∧ am_sh H1 288 = (7, am_Nf 7)) ∧ am_D (am_ox L xs) 9 yX7_body mX7_body [.ref 288, .int (xs (i + 1).toNatClampNeg)] H1 (fun o H2 => ∃ w, o = .inl (some (.int w)) ∧ S2 k w H2)) (h2 : ∀ k w H2, S2 k w H2 → am_nx H2 = 320)  (kx : ∀ k w H2, S2 k w H2 → am_EB c (am_ox L xs) 10 mLw 408 [(6, .int w), (5, .int k), (4, .int i), (3, .ref 319), (2, .ref 288), (1, .ref 0), (0, .ref 1000000)] [] H2 P) : am_EB (c + 1) (am_ox L xs) 10 mLw 88 [(4, .int i), (3, .ref 319), (2, .ref 288), (1, .ref 0), (0, .ref 1000000)] [] H P := by
  refine ae_aload_n (q := 89) dL_law_88 rfl rfl rfl ?_
  refine ae_aload_n (q := 90) dL_law_89 rfl rfl rfl ?_
  refine ae_iload (q := 92) dL_law_90 rfl rfl ?_
  refine ae_iconst (v := 1) (q := 93) dL_law_92 (by decide) rfl ?_
  refine ae_iadd (q := 94) dL_law_93 rfl ?_
  refine ae_sld (i := 0) (r := (L, xs)) (q := 95) dL_law_94 rfl (vix (n := 1) (by decide) (by decide) (by decide) hL i0 i5) rfl ?_
  refine ae_aload_n (q := 96) dL_law_95 rfl rfl rfl ?_
  refine ae_callSW (c2 := c) (as := [.ref 0, .int (xs (i + 1).toNatClampNeg), .ref 319]) (st := []) (q := 99) dL_law_96 hH mwL_body lk_L_55 sm_L_body rfl rfl (Nat.le_of_ble_eq_true rfl) rfl (by omega) (fun o H1 h => by obtain ⟨k, rfl, -⟩ := h; exact ⟨_, rfl⟩) (fun v1 H1 h => ?_)
  obtain ⟨k, hk1, hS⟩ := h
  cases hk1
  obtain ⟨⟨n1, s1⟩, hD⟩ := hM k H1 hS
  refine ⟨Or.inl (n1.trans hn.symm), ?_⟩
  show am_EB c (am_ox L xs) 10 mLw 99 [(4, .int i), (3, .ref 319), (2, .ref 288), (1, .ref 0), (0, .ref 1000000)] [.int k] H1 P
  refine ae_istore (lv' := [(5, .int k), (4, .int i), (3, .ref 319), (2, .ref 288), (1, .ref 0), (0, .ref 1000000)]) (q := 101) dL_law_99 (by decide) rfl rfl ?_
  refine ae_aload_n (q := 102) dL_law_101 rfl rfl rfl ?_
  refine ae_aload_n (q := 103) dL_law_102 rfl rfl rfl ?_
  refine ae_iload (q := 105) dL_law_103 rfl rfl ?_
  refine ae_iconst (v := 1) (q := 106) dL_law_105 (by decide) rfl ?_
  refine ae_iadd (q := 107) dL_law_106 rfl ?_
  refine ae_sld (i := 0) (r := (L, xs)) (q := 108) dL_law_107 rfl (vix (n := 1) (by decide) (by decide) (by decide) hL i0 i5) rfl ?_
  refine ae_callV (ci := 7) (as := [.int (xs (i + 1).toNatClampNeg)]) (b := 288) (st := []) (q := 111) dL_law_108 hD myX7_body lk_L_60 im_X7_body se_X7_body rfl (by decide) s1 (by omega) rfl rfl (Nat.le_of_ble_eq_true rfl) rfl (fun o G h => by obtain ⟨w, rfl, -⟩ := h; exact ⟨_, rfl⟩) (fun v2 H2 h => ?_)
  obtain ⟨w, hw1, hS2⟩ := h
  cases hw1
  refine ⟨Or.inl ((h2 _ _ _ hS2).trans n1.symm), ?_⟩
  show am_EB c (am_ox L xs) 10 mLw 111 [(5, .int k), (4, .int i), (3, .ref 319), (2, .ref 288), (1, .ref 0), (0, .ref 1000000)] [.int w] H2 P
  refine ae_istore (lv' := [(6, .int w), (5, .int k), (4, .int i), (3, .ref 319), (2, .ref 288), (1, .ref 0), (0, .ref 1000000)]) (q := 113) dL_law_111 (by decide) rfl rfl ?_
  refine ae_goto (q := 408) dL_law_113 (by decide) ?_
  exact kx k w _ hS2
set_option maxRecDepth 100000 in
set_option maxHeartbeats 4000000 in
theorem tn_add {c L : Nat} {xs : Nat → Int32} {i : Int32} {H : am_H} {P : Option Value ⊕ String → am_H → Prop} {S1 : Int32 → am_H → Prop} {S2 : Int32 → Int32 → am_H → Prop} (hL : L ≤ 2560) (i0 : 0 ≤ i.toInt) (i5 : i.toInt + 5 ≤ L) (hn : am_nx H = 320) (hH : am_DW 1 (am_ox L xs) 9 yL_add mL_add hL_add [.ref 0, .int (xs (i + 1).toNatClampNeg), .int (xs (i + 2).toNatClampNeg), .int (xs (i + 3).toNatClampNeg), .ref 319] H (fun o H1 => ∃ k, o = .inl (some (.int k)) ∧ S1 k H1)) (hM : ∀ k H1, S1 k H1 → (am_nx H1 = 320 ∧ am_sh H1 288 = (7, am_Nf 7)) ∧ am_D (am_ox L xs) 9 yX7_add mX7_add [.ref 288, .int (xs (i + 1).toNatClampNeg), .int (xs (i + 2).toNatClampNeg), .int (xs (i + 3).toNatClampNeg)] H1 (fun o H2 => ∃ w, o = .inl (some (.int w)) ∧ S2 k w H2)) (h2 : ∀ k w H2, S2 k w H2 → am_nx H2 = 320)  (kx : ∀ k w H2, S2 k w H2 → am_EB c (am_ox L xs) 10 mLw 408 [(6, .int w), (5, .int k), (4, .int i), (3, .ref 319), (2, .ref 288), (1, .ref 0), (0, .ref 1000000)] [] H2 P) : am_EB (c + 1) (am_ox L xs) 10 mLw 116 [(4, .int i), (3, .ref 319), (2, .ref 288), (1, .ref 0), (0, .ref 1000000)] [] H P := by
  refine ae_aload_n (q := 117) dL_law_116 rfl rfl rfl ?_
  refine ae_aload_n (q := 118) dL_law_117 rfl rfl rfl ?_
  refine ae_iload (q := 120) dL_law_118 rfl rfl ?_
  refine ae_iconst (v := 1) (q := 121) dL_law_120 (by decide) rfl ?_
  refine ae_iadd (q := 122) dL_law_121 rfl ?_
  refine ae_sld (i := 0) (r := (L, xs)) (q := 123) dL_law_122 rfl (vix (n := 1) (by decide) (by decide) (by decide) hL i0 i5) rfl ?_
  refine ae_aload_n (q := 124) dL_law_123 rfl rfl rfl ?_
  refine ae_iload (q := 126) dL_law_124 rfl rfl ?_
  refine ae_iconst (v := 2) (q := 127) dL_law_126 (by decide) rfl ?_
  refine ae_iadd (q := 128) dL_law_127 rfl ?_
  refine ae_sld (i := 0) (r := (L, xs)) (q := 129) dL_law_128 rfl (vix (n := 2) (by decide) (by decide) (by decide) hL i0 i5) rfl ?_
  refine ae_aload_n (q := 130) dL_law_129 rfl rfl rfl ?_
  refine ae_iload (q := 132) dL_law_130 rfl rfl ?_
  refine ae_iconst (v := 3) (q := 133) dL_law_132 (by decide) rfl ?_
  refine ae_iadd (q := 134) dL_law_133 rfl ?_
  refine ae_sld (i := 0) (r := (L, xs)) (q := 135) dL_law_134 rfl (vix (n := 3) (by decide) (by decide) (by decide) hL i0 i5) rfl ?_
  refine ae_aload_n (q := 136) dL_law_135 rfl rfl rfl ?_
  refine ae_callSW (c2 := c) (as := [.ref 0, .int (xs (i + 1).toNatClampNeg), .int (xs (i + 2).toNatClampNeg), .int (xs (i + 3).toNatClampNeg), .ref 319]) (st := []) (q := 139) dL_law_136 hH mwL_add lk_L_61 sm_L_add rfl rfl (Nat.le_of_ble_eq_true rfl) rfl (by omega) (fun o H1 h => by obtain ⟨k, rfl, -⟩ := h; exact ⟨_, rfl⟩) (fun v1 H1 h => ?_)
  obtain ⟨k, hk1, hS⟩ := h
  cases hk1
  obtain ⟨⟨n1, s1⟩, hD⟩ := hM k H1 hS
  refine ⟨Or.inl (n1.trans hn.symm), ?_⟩
  show am_EB c (am_ox L xs) 10 mLw 139 [(4, .int i), (3, .ref 319), (2, .ref 288), (1, .ref 0), (0, .ref 1000000)] [.int k] H1 P
  refine ae_istore (lv' := [(5, .int k), (4, .int i), (3, .ref 319), (2, .ref 288), (1, .ref 0), (0, .ref 1000000)]) (q := 141) dL_law_139 (by decide) rfl rfl ?_
  refine ae_aload_n (q := 142) dL_law_141 rfl rfl rfl ?_
  refine ae_aload_n (q := 143) dL_law_142 rfl rfl rfl ?_
  refine ae_iload (q := 145) dL_law_143 rfl rfl ?_
  refine ae_iconst (v := 1) (q := 146) dL_law_145 (by decide) rfl ?_
  refine ae_iadd (q := 147) dL_law_146 rfl ?_
  refine ae_sld (i := 0) (r := (L, xs)) (q := 148) dL_law_147 rfl (vix (n := 1) (by decide) (by decide) (by decide) hL i0 i5) rfl ?_
  refine ae_aload_n (q := 149) dL_law_148 rfl rfl rfl ?_
  refine ae_iload (q := 151) dL_law_149 rfl rfl ?_
  refine ae_iconst (v := 2) (q := 152) dL_law_151 (by decide) rfl ?_
  refine ae_iadd (q := 153) dL_law_152 rfl ?_
  refine ae_sld (i := 0) (r := (L, xs)) (q := 154) dL_law_153 rfl (vix (n := 2) (by decide) (by decide) (by decide) hL i0 i5) rfl ?_
  refine ae_aload_n (q := 155) dL_law_154 rfl rfl rfl ?_
  refine ae_iload (q := 157) dL_law_155 rfl rfl ?_
  refine ae_iconst (v := 3) (q := 158) dL_law_157 (by decide) rfl ?_
  refine ae_iadd (q := 159) dL_law_158 rfl ?_
  refine ae_sld (i := 0) (r := (L, xs)) (q := 160) dL_law_159 rfl (vix (n := 3) (by decide) (by decide) (by decide) hL i0 i5) rfl ?_
  refine ae_callV (ci := 7) (as := [.int (xs (i + 1).toNatClampNeg), .int (xs (i + 2).toNatClampNeg), .int (xs (i + 3).toNatClampNeg)]) (b := 288) (st := []) (q := 163) dL_law_160 hD myX7_add lk_L_64 im_X7_add se_X7_add rfl (by decide) s1 (by omega) rfl rfl (Nat.le_of_ble_eq_true rfl) rfl (fun o G h => by obtain ⟨w, rfl, -⟩ := h; exact ⟨_, rfl⟩) (fun v2 H2 h => ?_)
  obtain ⟨w, hw1, hS2⟩ := h
  cases hw1
  refine ⟨Or.inl ((h2 _ _ _ hS2).trans n1.symm), ?_⟩
  show am_EB c (am_ox L xs) 10 mLw 163 [(5, .int k), (4, .int i), (3, .ref 319), (2, .ref 288), (1, .ref 0), (0, .ref 1000000)] [.int w] H2 P
  refine ae_istore (lv' := [(6, .int w), (5, .int k), (4, .int i), (3, .ref 319), (2, .ref 288), (1, .ref 0), (0, .ref 1000000)]) (q := 165) dL_law_163 (by decide) rfl rfl ?_
  refine ae_goto (q := 408) dL_law_165 (by decide) ?_
  exact kx k w _ hS2
set_option maxRecDepth 100000 in
set_option maxHeartbeats 4000000 in
theorem tn_begin {c L : Nat} {xs : Nat → Int32} {i : Int32} {H : am_H} {P : Option Value ⊕ String → am_H → Prop} {S1 : Int32 → am_H → Prop} {S2 : Int32 → Int32 → am_H → Prop} (hL : L ≤ 2560) (i0 : 0 ≤ i.toInt) (i5 : i.toInt + 5 ≤ L) (hn : am_nx H = 320) (hH : am_DW 1 (am_ox L xs) 9 yL_begin mL_begin hL_begin [.ref 0, .int (xs (i + 1).toNatClampNeg), .int (xs (i + 2).toNatClampNeg), .int (xs (i + 3).toNatClampNeg), .int (xs (i + 4).toNatClampNeg)] H (fun o H1 => ∃ k, o = .inl (some (.int k)) ∧ S1 k H1)) (hM : ∀ k H1, S1 k H1 → (am_nx H1 = 320 ∧ am_sh H1 288 = (7, am_Nf 7)) ∧ am_D (am_ox L xs) 9 yX7_begin mX7_begin [.ref 288, .int (xs (i + 1).toNatClampNeg), .int (xs (i + 2).toNatClampNeg), .int (xs (i + 3).toNatClampNeg), .int (xs (i + 4).toNatClampNeg)] H1 (fun o H2 => o = .inl none ∧ S2 k 0 H2)) (h2 : ∀ k w H2, S2 k w H2 → am_nx H2 = 320) (h3 : ∀ k w H2, S2 k w H2 → am_sh H2 288 = (7, am_Nf 7) ∧ am_sh H2 319 = (102, 1) ∧ am_gi H2 288 37 = k ∧ True) (kx : ∀ k w H2, S2 k w H2 → am_EB c (am_ox L xs) 10 mLw 408 [(5, .int k), (4, .int i), (3, .ref 319), (2, .ref 288), (1, .ref 0), (0, .ref 1000000)] [] H2 P) : am_EB (c + 1) (am_ox L xs) 10 mLw 168 [(4, .int i), (3, .ref 319), (2, .ref 288), (1, .ref 0), (0, .ref 1000000)] [] H P := by
  refine ae_aload_n (q := 169) dL_law_168 rfl rfl rfl ?_
  refine ae_aload_n (q := 170) dL_law_169 rfl rfl rfl ?_
  refine ae_iload (q := 172) dL_law_170 rfl rfl ?_
  refine ae_iconst (v := 1) (q := 173) dL_law_172 (by decide) rfl ?_
  refine ae_iadd (q := 174) dL_law_173 rfl ?_
  refine ae_sld (i := 0) (r := (L, xs)) (q := 175) dL_law_174 rfl (vix (n := 1) (by decide) (by decide) (by decide) hL i0 i5) rfl ?_
  refine ae_aload_n (q := 176) dL_law_175 rfl rfl rfl ?_
  refine ae_iload (q := 178) dL_law_176 rfl rfl ?_
  refine ae_iconst (v := 2) (q := 179) dL_law_178 (by decide) rfl ?_
  refine ae_iadd (q := 180) dL_law_179 rfl ?_
  refine ae_sld (i := 0) (r := (L, xs)) (q := 181) dL_law_180 rfl (vix (n := 2) (by decide) (by decide) (by decide) hL i0 i5) rfl ?_
  refine ae_aload_n (q := 182) dL_law_181 rfl rfl rfl ?_
  refine ae_iload (q := 184) dL_law_182 rfl rfl ?_
  refine ae_iconst (v := 3) (q := 185) dL_law_184 (by decide) rfl ?_
  refine ae_iadd (q := 186) dL_law_185 rfl ?_
  refine ae_sld (i := 0) (r := (L, xs)) (q := 187) dL_law_186 rfl (vix (n := 3) (by decide) (by decide) (by decide) hL i0 i5) rfl ?_
  refine ae_aload_n (q := 188) dL_law_187 rfl rfl rfl ?_
  refine ae_iload (q := 190) dL_law_188 rfl rfl ?_
  refine ae_iconst (v := 4) (q := 191) dL_law_190 (by decide) rfl ?_
  refine ae_iadd (q := 192) dL_law_191 rfl ?_
  refine ae_sld (i := 0) (r := (L, xs)) (q := 193) dL_law_192 rfl (vix (n := 4) (by decide) (by decide) (by decide) hL i0 i5) rfl ?_
  refine ae_callSW (c2 := c) (as := [.ref 0, .int (xs (i + 1).toNatClampNeg), .int (xs (i + 2).toNatClampNeg), .int (xs (i + 3).toNatClampNeg), .int (xs (i + 4).toNatClampNeg)]) (st := []) (q := 196) dL_law_193 hH mwL_begin lk_L_65 sm_L_begin rfl rfl (Nat.le_of_ble_eq_true rfl) rfl (by omega) (fun o H1 h => by obtain ⟨k, rfl, -⟩ := h; exact ⟨_, rfl⟩) (fun v1 H1 h => ?_)
  obtain ⟨k, hk1, hS⟩ := h
  cases hk1
  obtain ⟨⟨n1, s1⟩, hD⟩ := hM k H1 hS
  refine ⟨Or.inl (n1.trans hn.symm), ?_⟩
  show am_EB c (am_ox L xs) 10 mLw 196 [(4, .int i), (3, .ref 319), (2, .ref 288), (1, .ref 0), (0, .ref 1000000)] [.int k] H1 P
  refine ae_istore (lv' := [(5, .int k), (4, .int i), (3, .ref 319), (2, .ref 288), (1, .ref 0), (0, .ref 1000000)]) (q := 198) dL_law_196 (by decide) rfl rfl ?_
  refine ae_aload_n (q := 199) dL_law_198 rfl rfl rfl ?_
  refine ae_aload_n (q := 200) dL_law_199 rfl rfl rfl ?_
  refine ae_iload (q := 202) dL_law_200 rfl rfl ?_
  refine ae_iconst (v := 1) (q := 203) dL_law_202 (by decide) rfl ?_
  refine ae_iadd (q := 204) dL_law_203 rfl ?_
  refine ae_sld (i := 0) (r := (L, xs)) (q := 205) dL_law_204 rfl (vix (n := 1) (by decide) (by decide) (by decide) hL i0 i5) rfl ?_
  refine ae_aload_n (q := 206) dL_law_205 rfl rfl rfl ?_
  refine ae_iload (q := 208) dL_law_206 rfl rfl ?_
  refine ae_iconst (v := 2) (q := 209) dL_law_208 (by decide) rfl ?_
  refine ae_iadd (q := 210) dL_law_209 rfl ?_
  refine ae_sld (i := 0) (r := (L, xs)) (q := 211) dL_law_210 rfl (vix (n := 2) (by decide) (by decide) (by decide) hL i0 i5) rfl ?_
  refine ae_aload_n (q := 212) dL_law_211 rfl rfl rfl ?_
  refine ae_iload (q := 214) dL_law_212 rfl rfl ?_
  refine ae_iconst (v := 3) (q := 215) dL_law_214 (by decide) rfl ?_
  refine ae_iadd (q := 216) dL_law_215 rfl ?_
  refine ae_sld (i := 0) (r := (L, xs)) (q := 217) dL_law_216 rfl (vix (n := 3) (by decide) (by decide) (by decide) hL i0 i5) rfl ?_
  refine ae_aload_n (q := 218) dL_law_217 rfl rfl rfl ?_
  refine ae_iload (q := 220) dL_law_218 rfl rfl ?_
  refine ae_iconst (v := 4) (q := 221) dL_law_220 (by decide) rfl ?_
  refine ae_iadd (q := 222) dL_law_221 rfl ?_
  refine ae_sld (i := 0) (r := (L, xs)) (q := 223) dL_law_222 rfl (vix (n := 4) (by decide) (by decide) (by decide) hL i0 i5) rfl ?_
  refine ae_callV (ci := 7) (as := [.int (xs (i + 1).toNatClampNeg), .int (xs (i + 2).toNatClampNeg), .int (xs (i + 3).toNatClampNeg), .int (xs (i + 4).toNatClampNeg)]) (b := 288) (st := []) (q := 226) dL_law_223 hD myX7_begin lk_L_68 im_X7_begin se_X7_begin rfl (by decide) s1 (by omega) rfl rfl (Nat.le_of_ble_eq_true rfl) rfl (fun o G h => ⟨none, h.1⟩) (fun v2 H2 h => ?_)
  obtain ⟨hw1, hS2⟩ := h
  cases hw1
  refine ⟨Or.inl ((h2 _ _ _ hS2).trans n1.symm), ?_⟩
  show am_EB c (am_ox L xs) 10 mLw 226 [(5, .int k), (4, .int i), (3, .ref 319), (2, .ref 288), (1, .ref 0), (0, .ref 1000000)] [] H2 P
  obtain ⟨c1, c2, c3, c4⟩ := h3 _ _ _ hS2
  have n2 := h2 _ _ _ hS2
  refine ae_aload_n (q := 227) dL_law_226 rfl rfl rfl ?_
  refine ae_callV (ci := 7) (as := []) (b := 288) (st := []) (q := 230) dL_law_227 (e_X7_thrown c1 (by omega)) myX7_thrown lk_L_69 im_X7_thrown se_X7_thrown rfl (by decide) c1 (by omega) rfl rfl (Nat.le_of_ble_eq_true rfl) rfl (fun o G h => ⟨_, h.1⟩) (fun v3 H3 h => ?_)
  obtain ⟨z1, z2⟩ := h
  subst z2
  cases z1
  refine ⟨Or.inl rfl, ?_⟩
  show am_EB c (am_ox L xs) 10 mLw 230 [(5, .int k), (4, .int i), (3, .ref 319), (2, .ref 288), (1, .ref 0), (0, .ref 1000000)] [.int (am_gi H3 288 37)] H3 P
  refine ae_eqi c3 ?_
  refine ae_iload (q := 232) dL_law_230 rfl rfl ?_
  refine ae_icmp_eq (t := 237) (q := 235) dL_law_232 (by decide) rfl (fun _ => ?_) (fun c => absurd rfl c)
  refine ae_goto (q := 408) dL_law_237 (by decide) ?_
  exact kx k 0 _ hS2
set_option maxRecDepth 100000 in
set_option maxHeartbeats 4000000 in
theorem tn_run {c L : Nat} {xs : Nat → Int32} {i : Int32} {H : am_H} {P : Option Value ⊕ String → am_H → Prop} {S1 : Int32 → am_H → Prop} {S2 : Int32 → Int32 → am_H → Prop} (hL : L ≤ 2560) (i0 : 0 ≤ i.toInt) (i5 : i.toInt + 5 ≤ L) (hn : am_nx H = 320) (hH : am_DW 1 (am_ox L xs) 9 yL_run mL_run hL_run [.ref 0, .int (xs (i + 1).toNatClampNeg), .ref 319] H (fun o H1 => ∃ k, o = .inl (some (.int k)) ∧ S1 k H1)) (hM : ∀ k H1, S1 k H1 → (am_nx H1 = 320 ∧ am_sh H1 288 = (7, am_Nf 7)) ∧ am_D (am_ox L xs) 9 yX7_run mX7_run [.ref 288, .int (xs (i + 1).toNatClampNeg)] H1 (fun o H2 => ∃ w, o = .inl (some (.int w)) ∧ S2 k w H2)) (h2 : ∀ k w H2, S2 k w H2 → am_nx H2 = 320)  (kx : ∀ k w H2, S2 k w H2 → am_EB c (am_ox L xs) 10 mLw 408 [(6, .int w), (5, .int k), (4, .int i), (3, .ref 319), (2, .ref 288), (1, .ref 0), (0, .ref 1000000)] [] H2 P) : am_EB (c + 1) (am_ox L xs) 10 mLw 240 [(4, .int i), (3, .ref 319), (2, .ref 288), (1, .ref 0), (0, .ref 1000000)] [] H P := by
  refine ae_aload_n (q := 241) dL_law_240 rfl rfl rfl ?_
  refine ae_aload_n (q := 242) dL_law_241 rfl rfl rfl ?_
  refine ae_iload (q := 244) dL_law_242 rfl rfl ?_
  refine ae_iconst (v := 1) (q := 245) dL_law_244 (by decide) rfl ?_
  refine ae_iadd (q := 246) dL_law_245 rfl ?_
  refine ae_sld (i := 0) (r := (L, xs)) (q := 247) dL_law_246 rfl (vix (n := 1) (by decide) (by decide) (by decide) hL i0 i5) rfl ?_
  refine ae_aload_n (q := 248) dL_law_247 rfl rfl rfl ?_
  refine ae_callSW (c2 := c) (as := [.ref 0, .int (xs (i + 1).toNatClampNeg), .ref 319]) (st := []) (q := 251) dL_law_248 hH mwL_run lk_L_72 sm_L_run rfl rfl (Nat.le_of_ble_eq_true rfl) rfl (by omega) (fun o H1 h => by obtain ⟨k, rfl, -⟩ := h; exact ⟨_, rfl⟩) (fun v1 H1 h => ?_)
  obtain ⟨k, hk1, hS⟩ := h
  cases hk1
  obtain ⟨⟨n1, s1⟩, hD⟩ := hM k H1 hS
  refine ⟨Or.inl (n1.trans hn.symm), ?_⟩
  show am_EB c (am_ox L xs) 10 mLw 251 [(4, .int i), (3, .ref 319), (2, .ref 288), (1, .ref 0), (0, .ref 1000000)] [.int k] H1 P
  refine ae_istore (lv' := [(5, .int k), (4, .int i), (3, .ref 319), (2, .ref 288), (1, .ref 0), (0, .ref 1000000)]) (q := 253) dL_law_251 (by decide) rfl rfl ?_
  refine ae_aload_n (q := 254) dL_law_253 rfl rfl rfl ?_
  refine ae_aload_n (q := 255) dL_law_254 rfl rfl rfl ?_
  refine ae_iload (q := 257) dL_law_255 rfl rfl ?_
  refine ae_iconst (v := 1) (q := 258) dL_law_257 (by decide) rfl ?_
  refine ae_iadd (q := 259) dL_law_258 rfl ?_
  refine ae_sld (i := 0) (r := (L, xs)) (q := 260) dL_law_259 rfl (vix (n := 1) (by decide) (by decide) (by decide) hL i0 i5) rfl ?_
  refine ae_callV (ci := 7) (as := [.int (xs (i + 1).toNatClampNeg)]) (b := 288) (st := []) (q := 263) dL_law_260 hD myX7_run lk_L_74 im_X7_run se_X7_run rfl (by decide) s1 (by omega) rfl rfl (Nat.le_of_ble_eq_true rfl) rfl (fun o G h => by obtain ⟨w, rfl, -⟩ := h; exact ⟨_, rfl⟩) (fun v2 H2 h => ?_)
  obtain ⟨w, hw1, hS2⟩ := h
  cases hw1
  refine ⟨Or.inl ((h2 _ _ _ hS2).trans n1.symm), ?_⟩
  show am_EB c (am_ox L xs) 10 mLw 263 [(5, .int k), (4, .int i), (3, .ref 319), (2, .ref 288), (1, .ref 0), (0, .ref 1000000)] [.int w] H2 P
  refine ae_istore (lv' := [(6, .int w), (5, .int k), (4, .int i), (3, .ref 319), (2, .ref 288), (1, .ref 0), (0, .ref 1000000)]) (q := 265) dL_law_263 (by decide) rfl rfl ?_
  refine ae_goto (q := 408) dL_law_265 (by decide) ?_
  exact kx k w _ hS2
set_option maxRecDepth 100000 in
set_option maxHeartbeats 4000000 in
theorem tn_result {c L : Nat} {xs : Nat → Int32} {i : Int32} {H : am_H} {P : Option Value ⊕ String → am_H → Prop} {S1 : Int32 → am_H → Prop} {S2 : Int32 → Int32 → am_H → Prop} (hL : L ≤ 2560) (i0 : 0 ≤ i.toInt) (i5 : i.toInt + 5 ≤ L) (hn : am_nx H = 320) (hH : am_DW 1 (am_ox L xs) 9 yL_result mL_result hL_result [.ref 0, .ref 319] H (fun o H1 => ∃ k, o = .inl (some (.int k)) ∧ S1 k H1)) (hM : ∀ k H1, S1 k H1 → (am_nx H1 = 320 ∧ am_sh H1 288 = (7, am_Nf 7)) ∧ am_D (am_ox L xs) 9 yX7_result mX7_result [.ref 288] H1 (fun o H2 => ∃ w, o = .inl (some (.int w)) ∧ S2 k w H2)) (h2 : ∀ k w H2, S2 k w H2 → am_nx H2 = 320)  (kx : ∀ k w H2, S2 k w H2 → am_EB c (am_ox L xs) 10 mLw 408 [(6, .int w), (5, .int k), (4, .int i), (3, .ref 319), (2, .ref 288), (1, .ref 0), (0, .ref 1000000)] [] H2 P) : am_EB (c + 1) (am_ox L xs) 10 mLw 268 [(4, .int i), (3, .ref 319), (2, .ref 288), (1, .ref 0), (0, .ref 1000000)] [] H P := by
  refine ae_aload_n (q := 269) dL_law_268 rfl rfl rfl ?_
  refine ae_aload_n (q := 270) dL_law_269 rfl rfl rfl ?_
  refine ae_callSW (c2 := c) (as := [.ref 0, .ref 319]) (st := []) (q := 273) dL_law_270 hH mwL_result lk_L_75 sm_L_result rfl rfl (Nat.le_of_ble_eq_true rfl) rfl (by omega) (fun o H1 h => by obtain ⟨k, rfl, -⟩ := h; exact ⟨_, rfl⟩) (fun v1 H1 h => ?_)
  obtain ⟨k, hk1, hS⟩ := h
  cases hk1
  obtain ⟨⟨n1, s1⟩, hD⟩ := hM k H1 hS
  refine ⟨Or.inl (n1.trans hn.symm), ?_⟩
  show am_EB c (am_ox L xs) 10 mLw 273 [(4, .int i), (3, .ref 319), (2, .ref 288), (1, .ref 0), (0, .ref 1000000)] [.int k] H1 P
  refine ae_istore (lv' := [(5, .int k), (4, .int i), (3, .ref 319), (2, .ref 288), (1, .ref 0), (0, .ref 1000000)]) (q := 275) dL_law_273 (by decide) rfl rfl ?_
  refine ae_aload_n (q := 276) dL_law_275 rfl rfl rfl ?_
  refine ae_callV (ci := 7) (as := []) (b := 288) (st := []) (q := 279) dL_law_276 hD myX7_result lk_L_78 im_X7_result se_X7_result rfl (by decide) s1 (by omega) rfl rfl (Nat.le_of_ble_eq_true rfl) rfl (fun o G h => by obtain ⟨w, rfl, -⟩ := h; exact ⟨_, rfl⟩) (fun v2 H2 h => ?_)
  obtain ⟨w, hw1, hS2⟩ := h
  cases hw1
  refine ⟨Or.inl ((h2 _ _ _ hS2).trans n1.symm), ?_⟩
  show am_EB c (am_ox L xs) 10 mLw 279 [(5, .int k), (4, .int i), (3, .ref 319), (2, .ref 288), (1, .ref 0), (0, .ref 1000000)] [.int w] H2 P
  refine ae_istore (lv' := [(6, .int w), (5, .int k), (4, .int i), (3, .ref 319), (2, .ref 288), (1, .ref 0), (0, .ref 1000000)]) (q := 281) dL_law_279 (by decide) rfl rfl ?_
  refine ae_goto (q := 408) dL_law_281 (by decide) ?_
  exact kx k w _ hS2
set_option maxRecDepth 100000 in
set_option maxHeartbeats 4000000 in
theorem tn_said {c L : Nat} {xs : Nat → Int32} {i : Int32} {H : am_H} {P : Option Value ⊕ String → am_H → Prop} {S1 : Int32 → am_H → Prop} {S2 : Int32 → Int32 → am_H → Prop} (hL : L ≤ 2560) (i0 : 0 ≤ i.toInt) (i5 : i.toInt + 5 ≤ L) (hn : am_nx H = 320) (hH : am_DW 1 (am_ox L xs) 9 yL_said mL_said hL_said [.ref 0, .int (xs (i + 1).toNatClampNeg), .ref 319] H (fun o H1 => ∃ k, o = .inl (some (.int k)) ∧ S1 k H1)) (hM : ∀ k H1, S1 k H1 → (am_nx H1 = 320 ∧ am_sh H1 288 = (7, am_Nf 7)) ∧ am_D (am_ox L xs) 9 yX7_said mX7_said [.ref 288, .int (xs (i + 1).toNatClampNeg)] H1 (fun o H2 => ∃ w, o = .inl (some (.int w)) ∧ S2 k w H2)) (h2 : ∀ k w H2, S2 k w H2 → am_nx H2 = 320)  (kx : ∀ k w H2, S2 k w H2 → am_EB c (am_ox L xs) 10 mLw 408 [(6, .int w), (5, .int k), (4, .int i), (3, .ref 319), (2, .ref 288), (1, .ref 0), (0, .ref 1000000)] [] H2 P) : am_EB (c + 1) (am_ox L xs) 10 mLw 284 [(4, .int i), (3, .ref 319), (2, .ref 288), (1, .ref 0), (0, .ref 1000000)] [] H P := by
  refine ae_aload_n (q := 285) dL_law_284 rfl rfl rfl ?_
  refine ae_aload_n (q := 286) dL_law_285 rfl rfl rfl ?_
  refine ae_iload (q := 288) dL_law_286 rfl rfl ?_
  refine ae_iconst (v := 1) (q := 289) dL_law_288 (by decide) rfl ?_
  refine ae_iadd (q := 290) dL_law_289 rfl ?_
  refine ae_sld (i := 0) (r := (L, xs)) (q := 291) dL_law_290 rfl (vix (n := 1) (by decide) (by decide) (by decide) hL i0 i5) rfl ?_
  refine ae_aload_n (q := 292) dL_law_291 rfl rfl rfl ?_
  refine ae_callSW (c2 := c) (as := [.ref 0, .int (xs (i + 1).toNatClampNeg), .ref 319]) (st := []) (q := 295) dL_law_292 hH mwL_said lk_L_79 sm_L_said rfl rfl (Nat.le_of_ble_eq_true rfl) rfl (by omega) (fun o H1 h => by obtain ⟨k, rfl, -⟩ := h; exact ⟨_, rfl⟩) (fun v1 H1 h => ?_)
  obtain ⟨k, hk1, hS⟩ := h
  cases hk1
  obtain ⟨⟨n1, s1⟩, hD⟩ := hM k H1 hS
  refine ⟨Or.inl (n1.trans hn.symm), ?_⟩
  show am_EB c (am_ox L xs) 10 mLw 295 [(4, .int i), (3, .ref 319), (2, .ref 288), (1, .ref 0), (0, .ref 1000000)] [.int k] H1 P
  refine ae_istore (lv' := [(5, .int k), (4, .int i), (3, .ref 319), (2, .ref 288), (1, .ref 0), (0, .ref 1000000)]) (q := 297) dL_law_295 (by decide) rfl rfl ?_
  refine ae_aload_n (q := 298) dL_law_297 rfl rfl rfl ?_
  refine ae_aload_n (q := 299) dL_law_298 rfl rfl rfl ?_
  refine ae_iload (q := 301) dL_law_299 rfl rfl ?_
  refine ae_iconst (v := 1) (q := 302) dL_law_301 (by decide) rfl ?_
  refine ae_iadd (q := 303) dL_law_302 rfl ?_
  refine ae_sld (i := 0) (r := (L, xs)) (q := 304) dL_law_303 rfl (vix (n := 1) (by decide) (by decide) (by decide) hL i0 i5) rfl ?_
  refine ae_callV (ci := 7) (as := [.int (xs (i + 1).toNatClampNeg)]) (b := 288) (st := []) (q := 307) dL_law_304 hD myX7_said lk_L_81 im_X7_said se_X7_said rfl (by decide) s1 (by omega) rfl rfl (Nat.le_of_ble_eq_true rfl) rfl (fun o G h => by obtain ⟨w, rfl, -⟩ := h; exact ⟨_, rfl⟩) (fun v2 H2 h => ?_)
  obtain ⟨w, hw1, hS2⟩ := h
  cases hw1
  refine ⟨Or.inl ((h2 _ _ _ hS2).trans n1.symm), ?_⟩
  show am_EB c (am_ox L xs) 10 mLw 307 [(5, .int k), (4, .int i), (3, .ref 319), (2, .ref 288), (1, .ref 0), (0, .ref 1000000)] [.int w] H2 P
  refine ae_istore (lv' := [(6, .int w), (5, .int k), (4, .int i), (3, .ref 319), (2, .ref 288), (1, .ref 0), (0, .ref 1000000)]) (q := 309) dL_law_307 (by decide) rfl rfl ?_
  refine ae_goto (q := 408) dL_law_309 (by decide) ?_
  exact kx k w _ hS2
set_option maxRecDepth 100000 in
set_option maxHeartbeats 4000000 in
theorem tn_task {c L : Nat} {xs : Nat → Int32} {i : Int32} {H : am_H} {P : Option Value ⊕ String → am_H → Prop} {S1 : Int32 → am_H → Prop} {S2 : Int32 → Int32 → am_H → Prop} (hL : L ≤ 2560) (i0 : 0 ≤ i.toInt) (i5 : i.toInt + 5 ≤ L) (hn : am_nx H = 320) (hH : am_DW 1 (am_ox L xs) 9 yL_task mL_task hL_task [.ref 0, .int (xs (i + 1).toNatClampNeg), .int (xs (i + 2).toNatClampNeg), .ref 319] H (fun o H1 => ∃ k, o = .inl (some (.int k)) ∧ S1 k H1)) (hM : ∀ k H1, S1 k H1 → (am_nx H1 = 320 ∧ am_sh H1 288 = (7, am_Nf 7)) ∧ am_D (am_ox L xs) 9 yX7_task mX7_task [.ref 288, .int (xs (i + 1).toNatClampNeg), .int (xs (i + 2).toNatClampNeg)] H1 (fun o H2 => ∃ w, o = .inl (some (.int w)) ∧ S2 k w H2)) (h2 : ∀ k w H2, S2 k w H2 → am_nx H2 = 320)  (kx : ∀ k w H2, S2 k w H2 → am_EB c (am_ox L xs) 10 mLw 408 [(6, .int w), (5, .int k), (4, .int i), (3, .ref 319), (2, .ref 288), (1, .ref 0), (0, .ref 1000000)] [] H2 P) : am_EB (c + 1) (am_ox L xs) 10 mLw 312 [(4, .int i), (3, .ref 319), (2, .ref 288), (1, .ref 0), (0, .ref 1000000)] [] H P := by
  refine ae_aload_n (q := 313) dL_law_312 rfl rfl rfl ?_
  refine ae_aload_n (q := 314) dL_law_313 rfl rfl rfl ?_
  refine ae_iload (q := 316) dL_law_314 rfl rfl ?_
  refine ae_iconst (v := 1) (q := 317) dL_law_316 (by decide) rfl ?_
  refine ae_iadd (q := 318) dL_law_317 rfl ?_
  refine ae_sld (i := 0) (r := (L, xs)) (q := 319) dL_law_318 rfl (vix (n := 1) (by decide) (by decide) (by decide) hL i0 i5) rfl ?_
  refine ae_aload_n (q := 320) dL_law_319 rfl rfl rfl ?_
  refine ae_iload (q := 322) dL_law_320 rfl rfl ?_
  refine ae_iconst (v := 2) (q := 323) dL_law_322 (by decide) rfl ?_
  refine ae_iadd (q := 324) dL_law_323 rfl ?_
  refine ae_sld (i := 0) (r := (L, xs)) (q := 325) dL_law_324 rfl (vix (n := 2) (by decide) (by decide) (by decide) hL i0 i5) rfl ?_
  refine ae_aload_n (q := 326) dL_law_325 rfl rfl rfl ?_
  refine ae_callSW (c2 := c) (as := [.ref 0, .int (xs (i + 1).toNatClampNeg), .int (xs (i + 2).toNatClampNeg), .ref 319]) (st := []) (q := 329) dL_law_326 hH mwL_task lk_L_82 sm_L_task rfl rfl (Nat.le_of_ble_eq_true rfl) rfl (by omega) (fun o H1 h => by obtain ⟨k, rfl, -⟩ := h; exact ⟨_, rfl⟩) (fun v1 H1 h => ?_)
  obtain ⟨k, hk1, hS⟩ := h
  cases hk1
  obtain ⟨⟨n1, s1⟩, hD⟩ := hM k H1 hS
  refine ⟨Or.inl (n1.trans hn.symm), ?_⟩
  show am_EB c (am_ox L xs) 10 mLw 329 [(4, .int i), (3, .ref 319), (2, .ref 288), (1, .ref 0), (0, .ref 1000000)] [.int k] H1 P
  refine ae_istore (lv' := [(5, .int k), (4, .int i), (3, .ref 319), (2, .ref 288), (1, .ref 0), (0, .ref 1000000)]) (q := 331) dL_law_329 (by decide) rfl rfl ?_
  refine ae_aload_n (q := 332) dL_law_331 rfl rfl rfl ?_
  refine ae_aload_n (q := 333) dL_law_332 rfl rfl rfl ?_
  refine ae_iload (q := 335) dL_law_333 rfl rfl ?_
  refine ae_iconst (v := 1) (q := 336) dL_law_335 (by decide) rfl ?_
  refine ae_iadd (q := 337) dL_law_336 rfl ?_
  refine ae_sld (i := 0) (r := (L, xs)) (q := 338) dL_law_337 rfl (vix (n := 1) (by decide) (by decide) (by decide) hL i0 i5) rfl ?_
  refine ae_aload_n (q := 339) dL_law_338 rfl rfl rfl ?_
  refine ae_iload (q := 341) dL_law_339 rfl rfl ?_
  refine ae_iconst (v := 2) (q := 342) dL_law_341 (by decide) rfl ?_
  refine ae_iadd (q := 343) dL_law_342 rfl ?_
  refine ae_sld (i := 0) (r := (L, xs)) (q := 344) dL_law_343 rfl (vix (n := 2) (by decide) (by decide) (by decide) hL i0 i5) rfl ?_
  refine ae_callV (ci := 7) (as := [.int (xs (i + 1).toNatClampNeg), .int (xs (i + 2).toNatClampNeg)]) (b := 288) (st := []) (q := 347) dL_law_344 hD myX7_task lk_L_85 im_X7_task se_X7_task rfl (by decide) s1 (by omega) rfl rfl (Nat.le_of_ble_eq_true rfl) rfl (fun o G h => by obtain ⟨w, rfl, -⟩ := h; exact ⟨_, rfl⟩) (fun v2 H2 h => ?_)
  obtain ⟨w, hw1, hS2⟩ := h
  cases hw1
  refine ⟨Or.inl ((h2 _ _ _ hS2).trans n1.symm), ?_⟩
  show am_EB c (am_ox L xs) 10 mLw 347 [(5, .int k), (4, .int i), (3, .ref 319), (2, .ref 288), (1, .ref 0), (0, .ref 1000000)] [.int w] H2 P
  refine ae_istore (lv' := [(6, .int w), (5, .int k), (4, .int i), (3, .ref 319), (2, .ref 288), (1, .ref 0), (0, .ref 1000000)]) (q := 349) dL_law_347 (by decide) rfl rfl ?_
  refine ae_goto (q := 408) dL_law_349 (by decide) ?_
  exact kx k w _ hS2
set_option maxRecDepth 100000 in
set_option maxHeartbeats 4000000 in
theorem tn_future {c L : Nat} {xs : Nat → Int32} {i : Int32} {H : am_H} {P : Option Value ⊕ String → am_H → Prop} {S1 : Int32 → am_H → Prop} {S2 : Int32 → Int32 → am_H → Prop} (hL : L ≤ 2560) (i0 : 0 ≤ i.toInt) (i5 : i.toInt + 5 ≤ L) (hn : am_nx H = 320) (hH : am_DW 1 (am_ox L xs) 9 yL_future mL_future hL_future [.ref 0, .int (xs (i + 1).toNatClampNeg), .ref 319] H (fun o H1 => ∃ k, o = .inl (some (.int k)) ∧ S1 k H1)) (hM : ∀ k H1, S1 k H1 → (am_nx H1 = 320 ∧ am_sh H1 288 = (7, am_Nf 7)) ∧ am_D (am_ox L xs) 9 yX7_future mX7_future [.ref 288, .int (xs (i + 1).toNatClampNeg)] H1 (fun o H2 => ∃ w, o = .inl (some (.int w)) ∧ S2 k w H2)) (h2 : ∀ k w H2, S2 k w H2 → am_nx H2 = 320)  (kx : ∀ k w H2, S2 k w H2 → am_EB c (am_ox L xs) 10 mLw 408 [(6, .int w), (5, .int k), (4, .int i), (3, .ref 319), (2, .ref 288), (1, .ref 0), (0, .ref 1000000)] [] H2 P) : am_EB (c + 1) (am_ox L xs) 10 mLw 352 [(4, .int i), (3, .ref 319), (2, .ref 288), (1, .ref 0), (0, .ref 1000000)] [] H P := by
  refine ae_aload_n (q := 353) dL_law_352 rfl rfl rfl ?_
  refine ae_aload_n (q := 354) dL_law_353 rfl rfl rfl ?_
  refine ae_iload (q := 356) dL_law_354 rfl rfl ?_
  refine ae_iconst (v := 1) (q := 357) dL_law_356 (by decide) rfl ?_
  refine ae_iadd (q := 358) dL_law_357 rfl ?_
  refine ae_sld (i := 0) (r := (L, xs)) (q := 359) dL_law_358 rfl (vix (n := 1) (by decide) (by decide) (by decide) hL i0 i5) rfl ?_
  refine ae_aload_n (q := 360) dL_law_359 rfl rfl rfl ?_
  refine ae_callSW (c2 := c) (as := [.ref 0, .int (xs (i + 1).toNatClampNeg), .ref 319]) (st := []) (q := 363) dL_law_360 hH mwL_future lk_L_86 sm_L_future rfl rfl (Nat.le_of_ble_eq_true rfl) rfl (by omega) (fun o H1 h => by obtain ⟨k, rfl, -⟩ := h; exact ⟨_, rfl⟩) (fun v1 H1 h => ?_)
  obtain ⟨k, hk1, hS⟩ := h
  cases hk1
  obtain ⟨⟨n1, s1⟩, hD⟩ := hM k H1 hS
  refine ⟨Or.inl (n1.trans hn.symm), ?_⟩
  show am_EB c (am_ox L xs) 10 mLw 363 [(4, .int i), (3, .ref 319), (2, .ref 288), (1, .ref 0), (0, .ref 1000000)] [.int k] H1 P
  refine ae_istore (lv' := [(5, .int k), (4, .int i), (3, .ref 319), (2, .ref 288), (1, .ref 0), (0, .ref 1000000)]) (q := 365) dL_law_363 (by decide) rfl rfl ?_
  refine ae_aload_n (q := 366) dL_law_365 rfl rfl rfl ?_
  refine ae_aload_n (q := 367) dL_law_366 rfl rfl rfl ?_
  refine ae_iload (q := 369) dL_law_367 rfl rfl ?_
  refine ae_iconst (v := 1) (q := 370) dL_law_369 (by decide) rfl ?_
  refine ae_iadd (q := 371) dL_law_370 rfl ?_
  refine ae_sld (i := 0) (r := (L, xs)) (q := 372) dL_law_371 rfl (vix (n := 1) (by decide) (by decide) (by decide) hL i0 i5) rfl ?_
  refine ae_callV (ci := 7) (as := [.int (xs (i + 1).toNatClampNeg)]) (b := 288) (st := []) (q := 375) dL_law_372 hD myX7_future lk_L_88 im_X7_future se_X7_future rfl (by decide) s1 (by omega) rfl rfl (Nat.le_of_ble_eq_true rfl) rfl (fun o G h => by obtain ⟨w, rfl, -⟩ := h; exact ⟨_, rfl⟩) (fun v2 H2 h => ?_)
  obtain ⟨w, hw1, hS2⟩ := h
  cases hw1
  refine ⟨Or.inl ((h2 _ _ _ hS2).trans n1.symm), ?_⟩
  show am_EB c (am_ox L xs) 10 mLw 375 [(5, .int k), (4, .int i), (3, .ref 319), (2, .ref 288), (1, .ref 0), (0, .ref 1000000)] [.int w] H2 P
  refine ae_istore (lv' := [(6, .int w), (5, .int k), (4, .int i), (3, .ref 319), (2, .ref 288), (1, .ref 0), (0, .ref 1000000)]) (q := 377) dL_law_375 (by decide) rfl rfl ?_
  refine ae_goto (q := 408) dL_law_377 (by decide) ?_
  exact kx k w _ hS2
set_option maxRecDepth 100000 in
set_option maxHeartbeats 4000000 in
theorem tn_count {c L : Nat} {xs : Nat → Int32} {i : Int32} {H : am_H} {P : Option Value ⊕ String → am_H → Prop} {S1 : Int32 → am_H → Prop} {S2 : Int32 → Int32 → am_H → Prop} (hL : L ≤ 2560) (i0 : 0 ≤ i.toInt) (i5 : i.toInt + 5 ≤ L) (hn : am_nx H = 320) (hH : am_DW 1 (am_ox L xs) 9 yL_count mL_count hL_count [.ref 0, .int (xs (i + 1).toNatClampNeg), .ref 319] H (fun o H1 => ∃ k, o = .inl (some (.int k)) ∧ S1 k H1)) (hM : ∀ k H1, S1 k H1 → (am_nx H1 = 320 ∧ am_sh H1 288 = (7, am_Nf 7)) ∧ am_D (am_ox L xs) 9 yX7_count mX7_count [.ref 288, .int (xs (i + 1).toNatClampNeg)] H1 (fun o H2 => ∃ w, o = .inl (some (.int w)) ∧ S2 k w H2)) (h2 : ∀ k w H2, S2 k w H2 → am_nx H2 = 320)  (kx : ∀ k w H2, S2 k w H2 → am_EB c (am_ox L xs) 10 mLw 408 [(6, .int w), (5, .int k), (4, .int i), (3, .ref 319), (2, .ref 288), (1, .ref 0), (0, .ref 1000000)] [] H2 P) : am_EB (c + 1) (am_ox L xs) 10 mLw 380 [(4, .int i), (3, .ref 319), (2, .ref 288), (1, .ref 0), (0, .ref 1000000)] [] H P := by
  refine ae_aload_n (q := 381) dL_law_380 rfl rfl rfl ?_
  refine ae_aload_n (q := 382) dL_law_381 rfl rfl rfl ?_
  refine ae_iload (q := 384) dL_law_382 rfl rfl ?_
  refine ae_iconst (v := 1) (q := 385) dL_law_384 (by decide) rfl ?_
  refine ae_iadd (q := 386) dL_law_385 rfl ?_
  refine ae_sld (i := 0) (r := (L, xs)) (q := 387) dL_law_386 rfl (vix (n := 1) (by decide) (by decide) (by decide) hL i0 i5) rfl ?_
  refine ae_aload_n (q := 388) dL_law_387 rfl rfl rfl ?_
  refine ae_callSW (c2 := c) (as := [.ref 0, .int (xs (i + 1).toNatClampNeg), .ref 319]) (st := []) (q := 391) dL_law_388 hH mwL_count lk_L_89 sm_L_count rfl rfl (Nat.le_of_ble_eq_true rfl) rfl (by omega) (fun o H1 h => by obtain ⟨k, rfl, -⟩ := h; exact ⟨_, rfl⟩) (fun v1 H1 h => ?_)
  obtain ⟨k, hk1, hS⟩ := h
  cases hk1
  obtain ⟨⟨n1, s1⟩, hD⟩ := hM k H1 hS
  refine ⟨Or.inl (n1.trans hn.symm), ?_⟩
  show am_EB c (am_ox L xs) 10 mLw 391 [(4, .int i), (3, .ref 319), (2, .ref 288), (1, .ref 0), (0, .ref 1000000)] [.int k] H1 P
  refine ae_istore (lv' := [(5, .int k), (4, .int i), (3, .ref 319), (2, .ref 288), (1, .ref 0), (0, .ref 1000000)]) (q := 393) dL_law_391 (by decide) rfl rfl ?_
  refine ae_aload_n (q := 394) dL_law_393 rfl rfl rfl ?_
  refine ae_aload_n (q := 395) dL_law_394 rfl rfl rfl ?_
  refine ae_iload (q := 397) dL_law_395 rfl rfl ?_
  refine ae_iconst (v := 1) (q := 398) dL_law_397 (by decide) rfl ?_
  refine ae_iadd (q := 399) dL_law_398 rfl ?_
  refine ae_sld (i := 0) (r := (L, xs)) (q := 400) dL_law_399 rfl (vix (n := 1) (by decide) (by decide) (by decide) hL i0 i5) rfl ?_
  refine ae_callV (ci := 7) (as := [.int (xs (i + 1).toNatClampNeg)]) (b := 288) (st := []) (q := 403) dL_law_400 hD myX7_count lk_L_91 im_X7_count se_X7_count rfl (by decide) s1 (by omega) rfl rfl (Nat.le_of_ble_eq_true rfl) rfl (fun o G h => by obtain ⟨w, rfl, -⟩ := h; exact ⟨_, rfl⟩) (fun v2 H2 h => ?_)
  obtain ⟨w, hw1, hS2⟩ := h
  cases hw1
  refine ⟨Or.inl ((h2 _ _ _ hS2).trans n1.symm), ?_⟩
  show am_EB c (am_ox L xs) 10 mLw 403 [(5, .int k), (4, .int i), (3, .ref 319), (2, .ref 288), (1, .ref 0), (0, .ref 1000000)] [.int w] H2 P
  refine ae_istore (lv' := [(6, .int w), (5, .int k), (4, .int i), (3, .ref 319), (2, .ref 288), (1, .ref 0), (0, .ref 1000000)]) (q := 405) dL_law_403 (by decide) rfl rfl ?_
  refine ae_goto (q := 408) dL_law_405 (by decide) ?_
  exact kx k w _ hS2
