/-! count: the reference on fresh objects. -/
theorem le_of {x g : Int32} {b : Int} (hg : g.toInt = b) (h : x ≤ g) : x.toInt ≤ b := by rw [← hg]; exact Int32.le_iff_toInt_le.mp h
theorem nle_of {x g : Int32} {b : Int} (hg : g.toInt = b) (h : ¬ x ≤ g) : b < x.toInt := by
  have h1 : ¬ x.toInt ≤ g.toInt := fun q => h (Int32.le_iff_toInt_le.mpr q)
  omega
set_option maxRecDepth 100000 in
set_option maxHeartbeats 4000000 in
theorem e_X7_queuedAt {ox : List (Nat × (Nat → Int32))} {d : Nat} {H : am_H} {a : Nat} {x y : Int32} (hs : am_sh H a = (7, am_Nf 7)) (hb : a < am_nx H) (hz : am_gi H a 39 = 0) : am_D ox d yX7_queuedAt mX7_queuedAt [.ref a, .int x, .int y] H (fun o H1 => o = .inl (some (.int (-1))) ∧ H1 = H) := by
  refine ae_enter rfl rfl rfl rfl (Nat.le_of_ble_eq_true rfl) ?_
  show am_E ox d mX7_queuedAt 0 [(0, .ref a), (1, .int x), (2, .int y)] [] H _
  refine ae_aload_n (q := 1) dX7_queuedAt_0 rfl rfl rfl ?_
  refine ae_getI (q := 4) dX7_queuedAt_1 fl_X7_122 rfl hs hb rfl ?_
  refine ae_if_eq (t := 39) (q := 7) dX7_queuedAt_4 (by decide) rfl (fun c1 => ?_) (fun c1 => absurd hz c1)
  refine ae_iconst (v := (-1)) (q := 40) dX7_queuedAt_39 (by decide) rfl ?_
  refine ae_iret dX7_queuedAt_40 rfl rfl ?_
  exact ⟨rfl, rfl⟩
set_option maxRecDepth 100000 in
set_option maxHeartbeats 4000000 in
theorem e_X7_count {ox : List (Nat × (Nat → Int32))} {d : Nat} {H : am_H} {x0 : Int32} (h : mz H) : am_D ox (d + 1) yX7_count mX7_count [.ref 288, .int x0] H (fun o H1 => ∀ k v, R_count x0 k v → mr k v H o H1) := by
  refine ae_enter rfl rfl rfl rfl (Nat.le_of_ble_eq_true rfl) ?_
  show am_E ox (d + 1) mX7_count 0 [(0, .ref 288), (1, .int x0)] [] H _
  refine ae_iload_n (q := 1) dX7_count_0 rfl rfl rfl ?_
  refine ae_bipush (v := 20) (q := 3) dX7_count_1 (by decide) rfl ?_
  refine ae_bipush (v := 22) (q := 5) dX7_count_3 (by decide) rfl ?_
  refine ae_wX7 (q := 8) dX7_count_5 lk_X7_105 (Nat.le_of_ble_eq_true rfl) rfl (fun w5 => ?_) (fun w5 => ?_)
  · have g5 := rg_of (a := 20) (b := 22) (by decide) (by decide) w5
    refine ae_if_ne (t := 45) (q := 11) dX7_count_8 (by decide) rfl (fun _ => ?_) (fun h => absurd h (by decide))
    refine ae_iconst (v := 1) (q := 46) dX7_count_45 (by decide) rfl ?_
    refine ae_goto (q := 50) dX7_count_46 (by decide) ?_
    refine ae_istore_n (lv' := [(2, .int 1), (0, .ref 288), (1, .int x0)]) (q := 51) dX7_count_50 rfl (by decide) rfl rfl ?_
    refine ae_iload_n (q := 52) dX7_count_51 rfl rfl rfl ?_
    refine ae_iconst (v := 0) (q := 53) dX7_count_52 (by decide) rfl ?_
    refine ae_bipush (v := 10) (q := 55) dX7_count_53 (by decide) rfl ?_
    refine ae_wX7 (q := 58) dX7_count_55 lk_X7_105 (Nat.le_of_ble_eq_true rfl) rfl (fun w55 => ?_) (fun w55 => ?_)
    · have g55 := rg_of (a := 0) (b := 10) (by decide) (by decide) w55
      refine ae_if_ne (t := 71) (q := 61) dX7_count_58 (by decide) rfl (fun _ => ?_) (fun h => absurd h (by decide))
      refine ae_aload_n (q := 72) dX7_count_71 rfl rfl rfl ?_
      refine ae_iconst (v := 0) (q := 73) dX7_count_72 (by decide) rfl ?_
      refine ae_putI (q := 76) dX7_count_73 fl_X7_101 rfl rfl rfl h.s (h.lt (by decide)) rfl ?_
      refine ae_iload_n (q := 77) dX7_count_76 rfl rfl rfl ?_
      refine ae_bipush (v := 99) (q := 79) dX7_count_77 (by decide) rfl ?_
      refine ae_icmp_le (t := 92) (q := 82) dX7_count_79 (by decide) rfl (fun n79 => ?_) (fun n79 => ?_)
      · have m79 := le_of (b := 99) (by decide) n79
        refine ae_iload_n (q := 93) dX7_count_92 rfl rfl rfl ?_
        refine ae_bipush (v := 39) (q := 95) dX7_count_93 (by decide) rfl ?_
        refine ae_icmp_le (t := 108) (q := 98) dX7_count_95 (by decide) rfl (fun n95 => ?_) (fun n95 => ?_)
        · have m95 := le_of (b := 39) (by decide) n95
          refine ae_iload_n (q := 109) dX7_count_108 rfl rfl rfl ?_
          refine ae_bipush (v := 29) (q := 111) dX7_count_109 (by decide) rfl ?_
          refine ae_icmp_le (t := 146) (q := 114) dX7_count_111 (by decide) rfl (fun n111 => ?_) (fun n111 => ?_)
          · have m111 := le_of (b := 29) (by decide) n111
            refine ae_iload_n (q := 147) dX7_count_146 rfl rfl rfl ?_
            refine ae_bipush (v := 19) (q := 149) dX7_count_147 (by decide) rfl ?_
            refine ae_icmp_le (t := 184) (q := 152) dX7_count_149 (by decide) rfl (fun n149 => ?_) (fun n149 => ?_)
            · have m149 := le_of (b := 19) (by decide) n149
              refine ae_aload_n (q := 185) dX7_count_184 rfl rfl rfl ?_
              refine ae_getI (q := 188) dX7_count_185 fl_X7_122 rfl h.s (h.lt (by decide)) rfl ?_
              refine ae_if_ne (t := 193) (q := 191) dX7_count_188 (by decide) rfl (fun c1 => absurd (gi_si (h.i 39) (by decide)) c1) (fun c1 => ?_)
              refine ae_iconst (v := 0) (q := 192) dX7_count_191 (by decide) rfl ?_
              refine ae_iret dX7_count_192 rfl rfl ?_
              intro k v hR
              have hkv : k = 0 ∧ (k = 0 → v = 0) := by
                rcases hR with ⟨q, rfl, rfl⟩ | ⟨q, rfl, rfl⟩ | ⟨q, rfl, rfl⟩ | ⟨q, rfl, rfl⟩ | ⟨q, rfl, rfl⟩ | ⟨q, rfl, rfl⟩ <;> first | exact ⟨rfl, fun _ => rfl⟩ | (exfalso; simp only [rg] at *; omega)
              exact ⟨⟨_, rfl, fun q => (hkv.2 q).symm⟩, by rw [hkv.1]; exact gi_set, rfl, rfl, rfl⟩
            · have m149 := nle_of (b := 19) (by decide) n149
              refine ae_aload_n (q := 153) dX7_count_152 rfl rfl rfl ?_
              refine ae_getI (q := 156) dX7_count_153 fl_X7_122 rfl h.s (h.lt (by decide)) rfl ?_
              refine ae_if_eq (t := 182) (q := 159) dX7_count_156 (by decide) rfl (fun c2 => ?_) (fun c2 => absurd (gi_si (h.i 39) (by decide)) c2)
              refine ae_iconst (v := (-1)) (q := 183) dX7_count_182 (by decide) rfl ?_
              refine ae_iret dX7_count_183 rfl rfl ?_
              intro k v hR
              have hkv : k = 0 ∧ (k = 0 → v = (-1)) := by
                rcases hR with ⟨q, rfl, rfl⟩ | ⟨q, rfl, rfl⟩ | ⟨q, rfl, rfl⟩ | ⟨q, rfl, rfl⟩ | ⟨q, rfl, rfl⟩ | ⟨q, rfl, rfl⟩ <;> first | exact ⟨rfl, fun _ => rfl⟩ | (exfalso; simp only [rg] at *; omega)
              exact ⟨⟨_, rfl, fun q => (hkv.2 q).symm⟩, by rw [hkv.1]; exact gi_set, rfl, rfl, rfl⟩
          · have m111 := nle_of (b := 29) (by decide) n111
            refine ae_aload_n (q := 115) dX7_count_114 rfl rfl rfl ?_
            refine ae_getI (q := 118) dX7_count_115 fl_X7_122 rfl h.s (h.lt (by decide)) rfl ?_
            refine ae_if_eq (t := 144) (q := 121) dX7_count_118 (by decide) rfl (fun c3 => ?_) (fun c3 => absurd (gi_si (h.i 39) (by decide)) c3)
            refine ae_iconst (v := 0) (q := 145) dX7_count_144 (by decide) rfl ?_
            refine ae_iret dX7_count_145 rfl rfl ?_
            intro k v hR
            have hkv : k = 0 ∧ (k = 0 → v = 0) := by
              rcases hR with ⟨q, rfl, rfl⟩ | ⟨q, rfl, rfl⟩ | ⟨q, rfl, rfl⟩ | ⟨q, rfl, rfl⟩ | ⟨q, rfl, rfl⟩ | ⟨q, rfl, rfl⟩ <;> first | exact ⟨rfl, fun _ => rfl⟩ | (exfalso; simp only [rg] at *; omega)
            exact ⟨⟨_, rfl, fun q => (hkv.2 q).symm⟩, by rw [hkv.1]; exact gi_set, rfl, rfl, rfl⟩
        · have m95 := nle_of (b := 39) (by decide) n95
          refine ae_aload_n (q := 99) dX7_count_98 rfl rfl rfl ?_
          refine ae_iconst (v := 0) (q := 100) dX7_count_99 (by decide) rfl ?_
          refine ae_iload_n (q := 101) dX7_count_100 rfl rfl rfl ?_
          refine ae_bipush (v := 40) (q := 103) dX7_count_101 (by decide) rfl ?_
          refine ae_isub (q := 104) dX7_count_103 rfl ?_
          refine ae_callV (ci := 7) (as := [.int 0, .int (x0 - 40)]) (b := 288) (st := []) (q := 107) dX7_count_104 (e_X7_queuedAt h.s (h.lt (by decide)) (gi_si (h.i 39) (by decide))) myX7_queuedAt lk_X7_225 im_X7_queuedAt se_X7_queuedAt rfl (by decide) h.s (h.lt (by decide)) rfl rfl (Nat.le_of_ble_eq_true rfl) rfl (fun o H1 h => ⟨_, h.1⟩) (fun v G hv => ?_)
          obtain ⟨hv1, hv2⟩ := hv
          subst hv2
          cases hv1
          refine ⟨Or.inl rfl, ?_⟩
          refine ae_iret dX7_count_107 rfl rfl ?_
          intro k v hR
          have hkv : k = 0 ∧ (k = 0 → v = (-1)) := by
            rcases hR with ⟨q, rfl, rfl⟩ | ⟨q, rfl, rfl⟩ | ⟨q, rfl, rfl⟩ | ⟨q, rfl, rfl⟩ | ⟨q, rfl, rfl⟩ | ⟨q, rfl, rfl⟩ <;> first | exact ⟨rfl, fun _ => rfl⟩ | (exfalso; simp only [rg] at *; omega)
          exact ⟨⟨_, rfl, fun q => (hkv.2 q).symm⟩, by rw [hkv.1]; exact gi_set, rfl, rfl, rfl⟩
      · have m79 := nle_of (b := 99) (by decide) n79
        refine ae_aload_n (q := 83) dX7_count_82 rfl rfl rfl ?_
        refine ae_iconst (v := 1) (q := 84) dX7_count_83 (by decide) rfl ?_
        refine ae_iload_n (q := 85) dX7_count_84 rfl rfl rfl ?_
        refine ae_bipush (v := 100) (q := 87) dX7_count_85 (by decide) rfl ?_
        refine ae_isub (q := 88) dX7_count_87 rfl ?_
        refine ae_callV (ci := 7) (as := [.int 1, .int (x0 - 100)]) (b := 288) (st := []) (q := 91) dX7_count_88 (e_X7_queuedAt h.s (h.lt (by decide)) (gi_si (h.i 39) (by decide))) myX7_queuedAt lk_X7_225 im_X7_queuedAt se_X7_queuedAt rfl (by decide) h.s (h.lt (by decide)) rfl rfl (Nat.le_of_ble_eq_true rfl) rfl (fun o H1 h => ⟨_, h.1⟩) (fun v G hv => ?_)
        obtain ⟨hv1, hv2⟩ := hv
        subst hv2
        cases hv1
        refine ⟨Or.inl rfl, ?_⟩
        refine ae_iret dX7_count_91 rfl rfl ?_
        intro k v hR
        have hkv : k = 0 ∧ (k = 0 → v = (-1)) := by
          rcases hR with ⟨q, rfl, rfl⟩ | ⟨q, rfl, rfl⟩ | ⟨q, rfl, rfl⟩ | ⟨q, rfl, rfl⟩ | ⟨q, rfl, rfl⟩ | ⟨q, rfl, rfl⟩ <;> first | exact ⟨rfl, fun _ => rfl⟩ | (exfalso; simp only [rg] at *; omega)
        exact ⟨⟨_, rfl, fun q => (hkv.2 q).symm⟩, by rw [hkv.1]; exact gi_set, rfl, rfl, rfl⟩
    · have g55 := rg_not (a := 0) (b := 10) (by decide) (by decide) w55
      refine ae_if_ne (t := 71) (q := 61) dX7_count_58 (by decide) rfl (fun h => absurd h (by decide)) (fun _ => ?_)
      refine ae_iload_n (q := 62) dX7_count_61 rfl rfl rfl ?_
      refine ae_if_ne (t := 71) (q := 65) dX7_count_62 (by decide) rfl (fun _ => ?_) (fun h => absurd h (by decide))
      refine ae_aload_n (q := 72) dX7_count_71 rfl rfl rfl ?_
      refine ae_iconst (v := 0) (q := 73) dX7_count_72 (by decide) rfl ?_
      refine ae_putI (q := 76) dX7_count_73 fl_X7_101 rfl rfl rfl h.s (h.lt (by decide)) rfl ?_
      refine ae_iload_n (q := 77) dX7_count_76 rfl rfl rfl ?_
      refine ae_bipush (v := 99) (q := 79) dX7_count_77 (by decide) rfl ?_
      refine ae_icmp_le (t := 92) (q := 82) dX7_count_79 (by decide) rfl (fun n79 => ?_) (fun n79 => ?_)
      · have m79 := le_of (b := 99) (by decide) n79
        refine ae_iload_n (q := 93) dX7_count_92 rfl rfl rfl ?_
        refine ae_bipush (v := 39) (q := 95) dX7_count_93 (by decide) rfl ?_
        refine ae_icmp_le (t := 108) (q := 98) dX7_count_95 (by decide) rfl (fun n95 => ?_) (fun n95 => ?_)
        · have m95 := le_of (b := 39) (by decide) n95
          refine ae_iload_n (q := 109) dX7_count_108 rfl rfl rfl ?_
          refine ae_bipush (v := 29) (q := 111) dX7_count_109 (by decide) rfl ?_
          refine ae_icmp_le (t := 146) (q := 114) dX7_count_111 (by decide) rfl (fun n111 => ?_) (fun n111 => ?_)
          · have m111 := le_of (b := 29) (by decide) n111
            refine ae_iload_n (q := 147) dX7_count_146 rfl rfl rfl ?_
            refine ae_bipush (v := 19) (q := 149) dX7_count_147 (by decide) rfl ?_
            refine ae_icmp_le (t := 184) (q := 152) dX7_count_149 (by decide) rfl (fun n149 => ?_) (fun n149 => ?_)
            · have m149 := le_of (b := 19) (by decide) n149
              refine ae_aload_n (q := 185) dX7_count_184 rfl rfl rfl ?_
              refine ae_getI (q := 188) dX7_count_185 fl_X7_122 rfl h.s (h.lt (by decide)) rfl ?_
              refine ae_if_ne (t := 193) (q := 191) dX7_count_188 (by decide) rfl (fun c4 => absurd (gi_si (h.i 39) (by decide)) c4) (fun c4 => ?_)
              refine ae_iconst (v := 0) (q := 192) dX7_count_191 (by decide) rfl ?_
              refine ae_iret dX7_count_192 rfl rfl ?_
              intro k v hR
              have hkv : k = 0 ∧ (k = 0 → v = 0) := by
                rcases hR with ⟨q, rfl, rfl⟩ | ⟨q, rfl, rfl⟩ | ⟨q, rfl, rfl⟩ | ⟨q, rfl, rfl⟩ | ⟨q, rfl, rfl⟩ | ⟨q, rfl, rfl⟩ <;> first | exact ⟨rfl, fun _ => rfl⟩ | (exfalso; simp only [rg] at *; omega)
              exact ⟨⟨_, rfl, fun q => (hkv.2 q).symm⟩, by rw [hkv.1]; exact gi_set, rfl, rfl, rfl⟩
            · have m149 := nle_of (b := 19) (by decide) n149
              refine ae_aload_n (q := 153) dX7_count_152 rfl rfl rfl ?_
              refine ae_getI (q := 156) dX7_count_153 fl_X7_122 rfl h.s (h.lt (by decide)) rfl ?_
              refine ae_if_eq (t := 182) (q := 159) dX7_count_156 (by decide) rfl (fun c5 => ?_) (fun c5 => absurd (gi_si (h.i 39) (by decide)) c5)
              refine ae_iconst (v := (-1)) (q := 183) dX7_count_182 (by decide) rfl ?_
              refine ae_iret dX7_count_183 rfl rfl ?_
              intro k v hR
              have hkv : k = 0 ∧ (k = 0 → v = (-1)) := by
                rcases hR with ⟨q, rfl, rfl⟩ | ⟨q, rfl, rfl⟩ | ⟨q, rfl, rfl⟩ | ⟨q, rfl, rfl⟩ | ⟨q, rfl, rfl⟩ | ⟨q, rfl, rfl⟩ <;> first | exact ⟨rfl, fun _ => rfl⟩ | (exfalso; simp only [rg] at *; omega)
              exact ⟨⟨_, rfl, fun q => (hkv.2 q).symm⟩, by rw [hkv.1]; exact gi_set, rfl, rfl, rfl⟩
          · have m111 := nle_of (b := 29) (by decide) n111
            refine ae_aload_n (q := 115) dX7_count_114 rfl rfl rfl ?_
            refine ae_getI (q := 118) dX7_count_115 fl_X7_122 rfl h.s (h.lt (by decide)) rfl ?_
            refine ae_if_eq (t := 144) (q := 121) dX7_count_118 (by decide) rfl (fun c6 => ?_) (fun c6 => absurd (gi_si (h.i 39) (by decide)) c6)
            refine ae_iconst (v := 0) (q := 145) dX7_count_144 (by decide) rfl ?_
            refine ae_iret dX7_count_145 rfl rfl ?_
            intro k v hR
            have hkv : k = 0 ∧ (k = 0 → v = 0) := by
              rcases hR with ⟨q, rfl, rfl⟩ | ⟨q, rfl, rfl⟩ | ⟨q, rfl, rfl⟩ | ⟨q, rfl, rfl⟩ | ⟨q, rfl, rfl⟩ | ⟨q, rfl, rfl⟩ <;> first | exact ⟨rfl, fun _ => rfl⟩ | (exfalso; simp only [rg] at *; omega)
            exact ⟨⟨_, rfl, fun q => (hkv.2 q).symm⟩, by rw [hkv.1]; exact gi_set, rfl, rfl, rfl⟩
        · have m95 := nle_of (b := 39) (by decide) n95
          refine ae_aload_n (q := 99) dX7_count_98 rfl rfl rfl ?_
          refine ae_iconst (v := 0) (q := 100) dX7_count_99 (by decide) rfl ?_
          refine ae_iload_n (q := 101) dX7_count_100 rfl rfl rfl ?_
          refine ae_bipush (v := 40) (q := 103) dX7_count_101 (by decide) rfl ?_
          refine ae_isub (q := 104) dX7_count_103 rfl ?_
          refine ae_callV (ci := 7) (as := [.int 0, .int (x0 - 40)]) (b := 288) (st := []) (q := 107) dX7_count_104 (e_X7_queuedAt h.s (h.lt (by decide)) (gi_si (h.i 39) (by decide))) myX7_queuedAt lk_X7_225 im_X7_queuedAt se_X7_queuedAt rfl (by decide) h.s (h.lt (by decide)) rfl rfl (Nat.le_of_ble_eq_true rfl) rfl (fun o H1 h => ⟨_, h.1⟩) (fun v G hv => ?_)
          obtain ⟨hv1, hv2⟩ := hv
          subst hv2
          cases hv1
          refine ⟨Or.inl rfl, ?_⟩
          refine ae_iret dX7_count_107 rfl rfl ?_
          intro k v hR
          have hkv : k = 0 ∧ (k = 0 → v = (-1)) := by
            rcases hR with ⟨q, rfl, rfl⟩ | ⟨q, rfl, rfl⟩ | ⟨q, rfl, rfl⟩ | ⟨q, rfl, rfl⟩ | ⟨q, rfl, rfl⟩ | ⟨q, rfl, rfl⟩ <;> first | exact ⟨rfl, fun _ => rfl⟩ | (exfalso; simp only [rg] at *; omega)
          exact ⟨⟨_, rfl, fun q => (hkv.2 q).symm⟩, by rw [hkv.1]; exact gi_set, rfl, rfl, rfl⟩
      · have m79 := nle_of (b := 99) (by decide) n79
        refine ae_aload_n (q := 83) dX7_count_82 rfl rfl rfl ?_
        refine ae_iconst (v := 1) (q := 84) dX7_count_83 (by decide) rfl ?_
        refine ae_iload_n (q := 85) dX7_count_84 rfl rfl rfl ?_
        refine ae_bipush (v := 100) (q := 87) dX7_count_85 (by decide) rfl ?_
        refine ae_isub (q := 88) dX7_count_87 rfl ?_
        refine ae_callV (ci := 7) (as := [.int 1, .int (x0 - 100)]) (b := 288) (st := []) (q := 91) dX7_count_88 (e_X7_queuedAt h.s (h.lt (by decide)) (gi_si (h.i 39) (by decide))) myX7_queuedAt lk_X7_225 im_X7_queuedAt se_X7_queuedAt rfl (by decide) h.s (h.lt (by decide)) rfl rfl (Nat.le_of_ble_eq_true rfl) rfl (fun o H1 h => ⟨_, h.1⟩) (fun v G hv => ?_)
        obtain ⟨hv1, hv2⟩ := hv
        subst hv2
        cases hv1
        refine ⟨Or.inl rfl, ?_⟩
        refine ae_iret dX7_count_91 rfl rfl ?_
        intro k v hR
        have hkv : k = 0 ∧ (k = 0 → v = (-1)) := by
          rcases hR with ⟨q, rfl, rfl⟩ | ⟨q, rfl, rfl⟩ | ⟨q, rfl, rfl⟩ | ⟨q, rfl, rfl⟩ | ⟨q, rfl, rfl⟩ | ⟨q, rfl, rfl⟩ <;> first | exact ⟨rfl, fun _ => rfl⟩ | (exfalso; simp only [rg] at *; omega)
        exact ⟨⟨_, rfl, fun q => (hkv.2 q).symm⟩, by rw [hkv.1]; exact gi_set, rfl, rfl, rfl⟩
  · have g5 := rg_not (a := 20) (b := 22) (by decide) (by decide) w5
    refine ae_if_ne (t := 45) (q := 11) dX7_count_8 (by decide) rfl (fun h => absurd h (by decide)) (fun _ => ?_)
    refine ae_iload_n (q := 12) dX7_count_11 rfl rfl rfl ?_
    refine ae_bipush (v := 30) (q := 14) dX7_count_12 (by decide) rfl ?_
    refine ae_bipush (v := 32) (q := 16) dX7_count_14 (by decide) rfl ?_
    refine ae_wX7 (q := 19) dX7_count_16 lk_X7_105 (Nat.le_of_ble_eq_true rfl) rfl (fun w16 => ?_) (fun w16 => ?_)
    · have g16 := rg_of (a := 30) (b := 32) (by decide) (by decide) w16
      refine ae_if_ne (t := 45) (q := 22) dX7_count_19 (by decide) rfl (fun _ => ?_) (fun h => absurd h (by decide))
      refine ae_iconst (v := 1) (q := 46) dX7_count_45 (by decide) rfl ?_
      refine ae_goto (q := 50) dX7_count_46 (by decide) ?_
      refine ae_istore_n (lv' := [(2, .int 1), (0, .ref 288), (1, .int x0)]) (q := 51) dX7_count_50 rfl (by decide) rfl rfl ?_
      refine ae_iload_n (q := 52) dX7_count_51 rfl rfl rfl ?_
      refine ae_iconst (v := 0) (q := 53) dX7_count_52 (by decide) rfl ?_
      refine ae_bipush (v := 10) (q := 55) dX7_count_53 (by decide) rfl ?_
      refine ae_wX7 (q := 58) dX7_count_55 lk_X7_105 (Nat.le_of_ble_eq_true rfl) rfl (fun w55 => ?_) (fun w55 => ?_)
      · have g55 := rg_of (a := 0) (b := 10) (by decide) (by decide) w55
        refine ae_if_ne (t := 71) (q := 61) dX7_count_58 (by decide) rfl (fun _ => ?_) (fun h => absurd h (by decide))
        refine ae_aload_n (q := 72) dX7_count_71 rfl rfl rfl ?_
        refine ae_iconst (v := 0) (q := 73) dX7_count_72 (by decide) rfl ?_
        refine ae_putI (q := 76) dX7_count_73 fl_X7_101 rfl rfl rfl h.s (h.lt (by decide)) rfl ?_
        refine ae_iload_n (q := 77) dX7_count_76 rfl rfl rfl ?_
        refine ae_bipush (v := 99) (q := 79) dX7_count_77 (by decide) rfl ?_
        refine ae_icmp_le (t := 92) (q := 82) dX7_count_79 (by decide) rfl (fun n79 => ?_) (fun n79 => ?_)
        · have m79 := le_of (b := 99) (by decide) n79
          refine ae_iload_n (q := 93) dX7_count_92 rfl rfl rfl ?_
          refine ae_bipush (v := 39) (q := 95) dX7_count_93 (by decide) rfl ?_
          refine ae_icmp_le (t := 108) (q := 98) dX7_count_95 (by decide) rfl (fun n95 => ?_) (fun n95 => ?_)
          · have m95 := le_of (b := 39) (by decide) n95
            refine ae_iload_n (q := 109) dX7_count_108 rfl rfl rfl ?_
            refine ae_bipush (v := 29) (q := 111) dX7_count_109 (by decide) rfl ?_
            refine ae_icmp_le (t := 146) (q := 114) dX7_count_111 (by decide) rfl (fun n111 => ?_) (fun n111 => ?_)
            · have m111 := le_of (b := 29) (by decide) n111
              refine ae_iload_n (q := 147) dX7_count_146 rfl rfl rfl ?_
              refine ae_bipush (v := 19) (q := 149) dX7_count_147 (by decide) rfl ?_
              refine ae_icmp_le (t := 184) (q := 152) dX7_count_149 (by decide) rfl (fun n149 => ?_) (fun n149 => ?_)
              · have m149 := le_of (b := 19) (by decide) n149
                refine ae_aload_n (q := 185) dX7_count_184 rfl rfl rfl ?_
                refine ae_getI (q := 188) dX7_count_185 fl_X7_122 rfl h.s (h.lt (by decide)) rfl ?_
                refine ae_if_ne (t := 193) (q := 191) dX7_count_188 (by decide) rfl (fun c7 => absurd (gi_si (h.i 39) (by decide)) c7) (fun c7 => ?_)
                refine ae_iconst (v := 0) (q := 192) dX7_count_191 (by decide) rfl ?_
                refine ae_iret dX7_count_192 rfl rfl ?_
                intro k v hR
                have hkv : k = 0 ∧ (k = 0 → v = 0) := by
                  rcases hR with ⟨q, rfl, rfl⟩ | ⟨q, rfl, rfl⟩ | ⟨q, rfl, rfl⟩ | ⟨q, rfl, rfl⟩ | ⟨q, rfl, rfl⟩ | ⟨q, rfl, rfl⟩ <;> first | exact ⟨rfl, fun _ => rfl⟩ | (exfalso; simp only [rg] at *; omega)
                exact ⟨⟨_, rfl, fun q => (hkv.2 q).symm⟩, by rw [hkv.1]; exact gi_set, rfl, rfl, rfl⟩
              · have m149 := nle_of (b := 19) (by decide) n149
                refine ae_aload_n (q := 153) dX7_count_152 rfl rfl rfl ?_
                refine ae_getI (q := 156) dX7_count_153 fl_X7_122 rfl h.s (h.lt (by decide)) rfl ?_
                refine ae_if_eq (t := 182) (q := 159) dX7_count_156 (by decide) rfl (fun c8 => ?_) (fun c8 => absurd (gi_si (h.i 39) (by decide)) c8)
                refine ae_iconst (v := (-1)) (q := 183) dX7_count_182 (by decide) rfl ?_
                refine ae_iret dX7_count_183 rfl rfl ?_
                intro k v hR
                have hkv : k = 0 ∧ (k = 0 → v = (-1)) := by
                  rcases hR with ⟨q, rfl, rfl⟩ | ⟨q, rfl, rfl⟩ | ⟨q, rfl, rfl⟩ | ⟨q, rfl, rfl⟩ | ⟨q, rfl, rfl⟩ | ⟨q, rfl, rfl⟩ <;> first | exact ⟨rfl, fun _ => rfl⟩ | (exfalso; simp only [rg] at *; omega)
                exact ⟨⟨_, rfl, fun q => (hkv.2 q).symm⟩, by rw [hkv.1]; exact gi_set, rfl, rfl, rfl⟩
            · have m111 := nle_of (b := 29) (by decide) n111
              refine ae_aload_n (q := 115) dX7_count_114 rfl rfl rfl ?_
              refine ae_getI (q := 118) dX7_count_115 fl_X7_122 rfl h.s (h.lt (by decide)) rfl ?_
              refine ae_if_eq (t := 144) (q := 121) dX7_count_118 (by decide) rfl (fun c9 => ?_) (fun c9 => absurd (gi_si (h.i 39) (by decide)) c9)
              refine ae_iconst (v := 0) (q := 145) dX7_count_144 (by decide) rfl ?_
              refine ae_iret dX7_count_145 rfl rfl ?_
              intro k v hR
              have hkv : k = 0 ∧ (k = 0 → v = 0) := by
                rcases hR with ⟨q, rfl, rfl⟩ | ⟨q, rfl, rfl⟩ | ⟨q, rfl, rfl⟩ | ⟨q, rfl, rfl⟩ | ⟨q, rfl, rfl⟩ | ⟨q, rfl, rfl⟩ <;> first | exact ⟨rfl, fun _ => rfl⟩ | (exfalso; simp only [rg] at *; omega)
              exact ⟨⟨_, rfl, fun q => (hkv.2 q).symm⟩, by rw [hkv.1]; exact gi_set, rfl, rfl, rfl⟩
          · have m95 := nle_of (b := 39) (by decide) n95
            refine ae_aload_n (q := 99) dX7_count_98 rfl rfl rfl ?_
            refine ae_iconst (v := 0) (q := 100) dX7_count_99 (by decide) rfl ?_
            refine ae_iload_n (q := 101) dX7_count_100 rfl rfl rfl ?_
            refine ae_bipush (v := 40) (q := 103) dX7_count_101 (by decide) rfl ?_
            refine ae_isub (q := 104) dX7_count_103 rfl ?_
            refine ae_callV (ci := 7) (as := [.int 0, .int (x0 - 40)]) (b := 288) (st := []) (q := 107) dX7_count_104 (e_X7_queuedAt h.s (h.lt (by decide)) (gi_si (h.i 39) (by decide))) myX7_queuedAt lk_X7_225 im_X7_queuedAt se_X7_queuedAt rfl (by decide) h.s (h.lt (by decide)) rfl rfl (Nat.le_of_ble_eq_true rfl) rfl (fun o H1 h => ⟨_, h.1⟩) (fun v G hv => ?_)
            obtain ⟨hv1, hv2⟩ := hv
            subst hv2
            cases hv1
            refine ⟨Or.inl rfl, ?_⟩
            refine ae_iret dX7_count_107 rfl rfl ?_
            intro k v hR
            have hkv : k = 0 ∧ (k = 0 → v = (-1)) := by
              rcases hR with ⟨q, rfl, rfl⟩ | ⟨q, rfl, rfl⟩ | ⟨q, rfl, rfl⟩ | ⟨q, rfl, rfl⟩ | ⟨q, rfl, rfl⟩ | ⟨q, rfl, rfl⟩ <;> first | exact ⟨rfl, fun _ => rfl⟩ | (exfalso; simp only [rg] at *; omega)
            exact ⟨⟨_, rfl, fun q => (hkv.2 q).symm⟩, by rw [hkv.1]; exact gi_set, rfl, rfl, rfl⟩
        · have m79 := nle_of (b := 99) (by decide) n79
          refine ae_aload_n (q := 83) dX7_count_82 rfl rfl rfl ?_
          refine ae_iconst (v := 1) (q := 84) dX7_count_83 (by decide) rfl ?_
          refine ae_iload_n (q := 85) dX7_count_84 rfl rfl rfl ?_
          refine ae_bipush (v := 100) (q := 87) dX7_count_85 (by decide) rfl ?_
          refine ae_isub (q := 88) dX7_count_87 rfl ?_
          refine ae_callV (ci := 7) (as := [.int 1, .int (x0 - 100)]) (b := 288) (st := []) (q := 91) dX7_count_88 (e_X7_queuedAt h.s (h.lt (by decide)) (gi_si (h.i 39) (by decide))) myX7_queuedAt lk_X7_225 im_X7_queuedAt se_X7_queuedAt rfl (by decide) h.s (h.lt (by decide)) rfl rfl (Nat.le_of_ble_eq_true rfl) rfl (fun o H1 h => ⟨_, h.1⟩) (fun v G hv => ?_)
          obtain ⟨hv1, hv2⟩ := hv
          subst hv2
          cases hv1
          refine ⟨Or.inl rfl, ?_⟩
          refine ae_iret dX7_count_91 rfl rfl ?_
          intro k v hR
          have hkv : k = 0 ∧ (k = 0 → v = (-1)) := by
            rcases hR with ⟨q, rfl, rfl⟩ | ⟨q, rfl, rfl⟩ | ⟨q, rfl, rfl⟩ | ⟨q, rfl, rfl⟩ | ⟨q, rfl, rfl⟩ | ⟨q, rfl, rfl⟩ <;> first | exact ⟨rfl, fun _ => rfl⟩ | (exfalso; simp only [rg] at *; omega)
          exact ⟨⟨_, rfl, fun q => (hkv.2 q).symm⟩, by rw [hkv.1]; exact gi_set, rfl, rfl, rfl⟩
      · have g55 := rg_not (a := 0) (b := 10) (by decide) (by decide) w55
        refine ae_if_ne (t := 71) (q := 61) dX7_count_58 (by decide) rfl (fun h => absurd h (by decide)) (fun _ => ?_)
        refine ae_iload_n (q := 62) dX7_count_61 rfl rfl rfl ?_
        refine ae_if_ne (t := 71) (q := 65) dX7_count_62 (by decide) rfl (fun _ => ?_) (fun h => absurd h (by decide))
        refine ae_aload_n (q := 72) dX7_count_71 rfl rfl rfl ?_
        refine ae_iconst (v := 0) (q := 73) dX7_count_72 (by decide) rfl ?_
        refine ae_putI (q := 76) dX7_count_73 fl_X7_101 rfl rfl rfl h.s (h.lt (by decide)) rfl ?_
        refine ae_iload_n (q := 77) dX7_count_76 rfl rfl rfl ?_
        refine ae_bipush (v := 99) (q := 79) dX7_count_77 (by decide) rfl ?_
        refine ae_icmp_le (t := 92) (q := 82) dX7_count_79 (by decide) rfl (fun n79 => ?_) (fun n79 => ?_)
        · have m79 := le_of (b := 99) (by decide) n79
          refine ae_iload_n (q := 93) dX7_count_92 rfl rfl rfl ?_
          refine ae_bipush (v := 39) (q := 95) dX7_count_93 (by decide) rfl ?_
          refine ae_icmp_le (t := 108) (q := 98) dX7_count_95 (by decide) rfl (fun n95 => ?_) (fun n95 => ?_)
          · have m95 := le_of (b := 39) (by decide) n95
            refine ae_iload_n (q := 109) dX7_count_108 rfl rfl rfl ?_
            refine ae_bipush (v := 29) (q := 111) dX7_count_109 (by decide) rfl ?_
            refine ae_icmp_le (t := 146) (q := 114) dX7_count_111 (by decide) rfl (fun n111 => ?_) (fun n111 => ?_)
            · have m111 := le_of (b := 29) (by decide) n111
              refine ae_iload_n (q := 147) dX7_count_146 rfl rfl rfl ?_
              refine ae_bipush (v := 19) (q := 149) dX7_count_147 (by decide) rfl ?_
              refine ae_icmp_le (t := 184) (q := 152) dX7_count_149 (by decide) rfl (fun n149 => ?_) (fun n149 => ?_)
              · have m149 := le_of (b := 19) (by decide) n149
                refine ae_aload_n (q := 185) dX7_count_184 rfl rfl rfl ?_
                refine ae_getI (q := 188) dX7_count_185 fl_X7_122 rfl h.s (h.lt (by decide)) rfl ?_
                refine ae_if_ne (t := 193) (q := 191) dX7_count_188 (by decide) rfl (fun c10 => absurd (gi_si (h.i 39) (by decide)) c10) (fun c10 => ?_)
                refine ae_iconst (v := 0) (q := 192) dX7_count_191 (by decide) rfl ?_
                refine ae_iret dX7_count_192 rfl rfl ?_
                intro k v hR
                have hkv : k = 0 ∧ (k = 0 → v = 0) := by
                  rcases hR with ⟨q, rfl, rfl⟩ | ⟨q, rfl, rfl⟩ | ⟨q, rfl, rfl⟩ | ⟨q, rfl, rfl⟩ | ⟨q, rfl, rfl⟩ | ⟨q, rfl, rfl⟩ <;> first | exact ⟨rfl, fun _ => rfl⟩ | (exfalso; simp only [rg] at *; omega)
                exact ⟨⟨_, rfl, fun q => (hkv.2 q).symm⟩, by rw [hkv.1]; exact gi_set, rfl, rfl, rfl⟩
              · have m149 := nle_of (b := 19) (by decide) n149
                refine ae_aload_n (q := 153) dX7_count_152 rfl rfl rfl ?_
                refine ae_getI (q := 156) dX7_count_153 fl_X7_122 rfl h.s (h.lt (by decide)) rfl ?_
                refine ae_if_eq (t := 182) (q := 159) dX7_count_156 (by decide) rfl (fun c11 => ?_) (fun c11 => absurd (gi_si (h.i 39) (by decide)) c11)
                refine ae_iconst (v := (-1)) (q := 183) dX7_count_182 (by decide) rfl ?_
                refine ae_iret dX7_count_183 rfl rfl ?_
                intro k v hR
                have hkv : k = 0 ∧ (k = 0 → v = (-1)) := by
                  rcases hR with ⟨q, rfl, rfl⟩ | ⟨q, rfl, rfl⟩ | ⟨q, rfl, rfl⟩ | ⟨q, rfl, rfl⟩ | ⟨q, rfl, rfl⟩ | ⟨q, rfl, rfl⟩ <;> first | exact ⟨rfl, fun _ => rfl⟩ | (exfalso; simp only [rg] at *; omega)
                exact ⟨⟨_, rfl, fun q => (hkv.2 q).symm⟩, by rw [hkv.1]; exact gi_set, rfl, rfl, rfl⟩
            · have m111 := nle_of (b := 29) (by decide) n111
              refine ae_aload_n (q := 115) dX7_count_114 rfl rfl rfl ?_
              refine ae_getI (q := 118) dX7_count_115 fl_X7_122 rfl h.s (h.lt (by decide)) rfl ?_
              refine ae_if_eq (t := 144) (q := 121) dX7_count_118 (by decide) rfl (fun c12 => ?_) (fun c12 => absurd (gi_si (h.i 39) (by decide)) c12)
              refine ae_iconst (v := 0) (q := 145) dX7_count_144 (by decide) rfl ?_
              refine ae_iret dX7_count_145 rfl rfl ?_
              intro k v hR
              have hkv : k = 0 ∧ (k = 0 → v = 0) := by
                rcases hR with ⟨q, rfl, rfl⟩ | ⟨q, rfl, rfl⟩ | ⟨q, rfl, rfl⟩ | ⟨q, rfl, rfl⟩ | ⟨q, rfl, rfl⟩ | ⟨q, rfl, rfl⟩ <;> first | exact ⟨rfl, fun _ => rfl⟩ | (exfalso; simp only [rg] at *; omega)
              exact ⟨⟨_, rfl, fun q => (hkv.2 q).symm⟩, by rw [hkv.1]; exact gi_set, rfl, rfl, rfl⟩
          · have m95 := nle_of (b := 39) (by decide) n95
            refine ae_aload_n (q := 99) dX7_count_98 rfl rfl rfl ?_
            refine ae_iconst (v := 0) (q := 100) dX7_count_99 (by decide) rfl ?_
            refine ae_iload_n (q := 101) dX7_count_100 rfl rfl rfl ?_
            refine ae_bipush (v := 40) (q := 103) dX7_count_101 (by decide) rfl ?_
            refine ae_isub (q := 104) dX7_count_103 rfl ?_
            refine ae_callV (ci := 7) (as := [.int 0, .int (x0 - 40)]) (b := 288) (st := []) (q := 107) dX7_count_104 (e_X7_queuedAt h.s (h.lt (by decide)) (gi_si (h.i 39) (by decide))) myX7_queuedAt lk_X7_225 im_X7_queuedAt se_X7_queuedAt rfl (by decide) h.s (h.lt (by decide)) rfl rfl (Nat.le_of_ble_eq_true rfl) rfl (fun o H1 h => ⟨_, h.1⟩) (fun v G hv => ?_)
            obtain ⟨hv1, hv2⟩ := hv
            subst hv2
            cases hv1
            refine ⟨Or.inl rfl, ?_⟩
            refine ae_iret dX7_count_107 rfl rfl ?_
            intro k v hR
            have hkv : k = 0 ∧ (k = 0 → v = (-1)) := by
              rcases hR with ⟨q, rfl, rfl⟩ | ⟨q, rfl, rfl⟩ | ⟨q, rfl, rfl⟩ | ⟨q, rfl, rfl⟩ | ⟨q, rfl, rfl⟩ | ⟨q, rfl, rfl⟩ <;> first | exact ⟨rfl, fun _ => rfl⟩ | (exfalso; simp only [rg] at *; omega)
            exact ⟨⟨_, rfl, fun q => (hkv.2 q).symm⟩, by rw [hkv.1]; exact gi_set, rfl, rfl, rfl⟩
        · have m79 := nle_of (b := 99) (by decide) n79
          refine ae_aload_n (q := 83) dX7_count_82 rfl rfl rfl ?_
          refine ae_iconst (v := 1) (q := 84) dX7_count_83 (by decide) rfl ?_
          refine ae_iload_n (q := 85) dX7_count_84 rfl rfl rfl ?_
          refine ae_bipush (v := 100) (q := 87) dX7_count_85 (by decide) rfl ?_
          refine ae_isub (q := 88) dX7_count_87 rfl ?_
          refine ae_callV (ci := 7) (as := [.int 1, .int (x0 - 100)]) (b := 288) (st := []) (q := 91) dX7_count_88 (e_X7_queuedAt h.s (h.lt (by decide)) (gi_si (h.i 39) (by decide))) myX7_queuedAt lk_X7_225 im_X7_queuedAt se_X7_queuedAt rfl (by decide) h.s (h.lt (by decide)) rfl rfl (Nat.le_of_ble_eq_true rfl) rfl (fun o H1 h => ⟨_, h.1⟩) (fun v G hv => ?_)
          obtain ⟨hv1, hv2⟩ := hv
          subst hv2
          cases hv1
          refine ⟨Or.inl rfl, ?_⟩
          refine ae_iret dX7_count_91 rfl rfl ?_
          intro k v hR
          have hkv : k = 0 ∧ (k = 0 → v = (-1)) := by
            rcases hR with ⟨q, rfl, rfl⟩ | ⟨q, rfl, rfl⟩ | ⟨q, rfl, rfl⟩ | ⟨q, rfl, rfl⟩ | ⟨q, rfl, rfl⟩ | ⟨q, rfl, rfl⟩ <;> first | exact ⟨rfl, fun _ => rfl⟩ | (exfalso; simp only [rg] at *; omega)
          exact ⟨⟨_, rfl, fun q => (hkv.2 q).symm⟩, by rw [hkv.1]; exact gi_set, rfl, rfl, rfl⟩
    · have g16 := rg_not (a := 30) (b := 32) (by decide) (by decide) w16
      refine ae_if_ne (t := 45) (q := 22) dX7_count_19 (by decide) rfl (fun h => absurd h (by decide)) (fun _ => ?_)
      refine ae_iload_n (q := 23) dX7_count_22 rfl rfl rfl ?_
      refine ae_bipush (v := 40) (q := 25) dX7_count_23 (by decide) rfl ?_
      refine ae_bipush (v := 87) (q := 27) dX7_count_25 (by decide) rfl ?_
      refine ae_wX7 (q := 30) dX7_count_27 lk_X7_105 (Nat.le_of_ble_eq_true rfl) rfl (fun w27 => ?_) (fun w27 => ?_)
      · have g27 := rg_of (a := 40) (b := 87) (by decide) (by decide) w27
        refine ae_if_ne (t := 45) (q := 33) dX7_count_30 (by decide) rfl (fun _ => ?_) (fun h => absurd h (by decide))
        refine ae_iconst (v := 1) (q := 46) dX7_count_45 (by decide) rfl ?_
        refine ae_goto (q := 50) dX7_count_46 (by decide) ?_
        refine ae_istore_n (lv' := [(2, .int 1), (0, .ref 288), (1, .int x0)]) (q := 51) dX7_count_50 rfl (by decide) rfl rfl ?_
        refine ae_iload_n (q := 52) dX7_count_51 rfl rfl rfl ?_
        refine ae_iconst (v := 0) (q := 53) dX7_count_52 (by decide) rfl ?_
        refine ae_bipush (v := 10) (q := 55) dX7_count_53 (by decide) rfl ?_
        refine ae_wX7 (q := 58) dX7_count_55 lk_X7_105 (Nat.le_of_ble_eq_true rfl) rfl (fun w55 => ?_) (fun w55 => ?_)
        · have g55 := rg_of (a := 0) (b := 10) (by decide) (by decide) w55
          refine ae_if_ne (t := 71) (q := 61) dX7_count_58 (by decide) rfl (fun _ => ?_) (fun h => absurd h (by decide))
          refine ae_aload_n (q := 72) dX7_count_71 rfl rfl rfl ?_
          refine ae_iconst (v := 0) (q := 73) dX7_count_72 (by decide) rfl ?_
          refine ae_putI (q := 76) dX7_count_73 fl_X7_101 rfl rfl rfl h.s (h.lt (by decide)) rfl ?_
          refine ae_iload_n (q := 77) dX7_count_76 rfl rfl rfl ?_
          refine ae_bipush (v := 99) (q := 79) dX7_count_77 (by decide) rfl ?_
          refine ae_icmp_le (t := 92) (q := 82) dX7_count_79 (by decide) rfl (fun n79 => ?_) (fun n79 => ?_)
          · have m79 := le_of (b := 99) (by decide) n79
            refine ae_iload_n (q := 93) dX7_count_92 rfl rfl rfl ?_
            refine ae_bipush (v := 39) (q := 95) dX7_count_93 (by decide) rfl ?_
            refine ae_icmp_le (t := 108) (q := 98) dX7_count_95 (by decide) rfl (fun n95 => ?_) (fun n95 => ?_)
            · have m95 := le_of (b := 39) (by decide) n95
              refine ae_iload_n (q := 109) dX7_count_108 rfl rfl rfl ?_
              refine ae_bipush (v := 29) (q := 111) dX7_count_109 (by decide) rfl ?_
              refine ae_icmp_le (t := 146) (q := 114) dX7_count_111 (by decide) rfl (fun n111 => ?_) (fun n111 => ?_)
              · have m111 := le_of (b := 29) (by decide) n111
                refine ae_iload_n (q := 147) dX7_count_146 rfl rfl rfl ?_
                refine ae_bipush (v := 19) (q := 149) dX7_count_147 (by decide) rfl ?_
                refine ae_icmp_le (t := 184) (q := 152) dX7_count_149 (by decide) rfl (fun n149 => ?_) (fun n149 => ?_)
                · have m149 := le_of (b := 19) (by decide) n149
                  refine ae_aload_n (q := 185) dX7_count_184 rfl rfl rfl ?_
                  refine ae_getI (q := 188) dX7_count_185 fl_X7_122 rfl h.s (h.lt (by decide)) rfl ?_
                  refine ae_if_ne (t := 193) (q := 191) dX7_count_188 (by decide) rfl (fun c13 => absurd (gi_si (h.i 39) (by decide)) c13) (fun c13 => ?_)
                  refine ae_iconst (v := 0) (q := 192) dX7_count_191 (by decide) rfl ?_
                  refine ae_iret dX7_count_192 rfl rfl ?_
                  intro k v hR
                  have hkv : k = 0 ∧ (k = 0 → v = 0) := by
                    rcases hR with ⟨q, rfl, rfl⟩ | ⟨q, rfl, rfl⟩ | ⟨q, rfl, rfl⟩ | ⟨q, rfl, rfl⟩ | ⟨q, rfl, rfl⟩ | ⟨q, rfl, rfl⟩ <;> first | exact ⟨rfl, fun _ => rfl⟩ | (exfalso; simp only [rg] at *; omega)
                  exact ⟨⟨_, rfl, fun q => (hkv.2 q).symm⟩, by rw [hkv.1]; exact gi_set, rfl, rfl, rfl⟩
                · have m149 := nle_of (b := 19) (by decide) n149
                  refine ae_aload_n (q := 153) dX7_count_152 rfl rfl rfl ?_
                  refine ae_getI (q := 156) dX7_count_153 fl_X7_122 rfl h.s (h.lt (by decide)) rfl ?_
                  refine ae_if_eq (t := 182) (q := 159) dX7_count_156 (by decide) rfl (fun c14 => ?_) (fun c14 => absurd (gi_si (h.i 39) (by decide)) c14)
                  refine ae_iconst (v := (-1)) (q := 183) dX7_count_182 (by decide) rfl ?_
                  refine ae_iret dX7_count_183 rfl rfl ?_
                  intro k v hR
                  have hkv : k = 0 ∧ (k = 0 → v = (-1)) := by
                    rcases hR with ⟨q, rfl, rfl⟩ | ⟨q, rfl, rfl⟩ | ⟨q, rfl, rfl⟩ | ⟨q, rfl, rfl⟩ | ⟨q, rfl, rfl⟩ | ⟨q, rfl, rfl⟩ <;> first | exact ⟨rfl, fun _ => rfl⟩ | (exfalso; simp only [rg] at *; omega)
                  exact ⟨⟨_, rfl, fun q => (hkv.2 q).symm⟩, by rw [hkv.1]; exact gi_set, rfl, rfl, rfl⟩
              · have m111 := nle_of (b := 29) (by decide) n111
                refine ae_aload_n (q := 115) dX7_count_114 rfl rfl rfl ?_
                refine ae_getI (q := 118) dX7_count_115 fl_X7_122 rfl h.s (h.lt (by decide)) rfl ?_
                refine ae_if_eq (t := 144) (q := 121) dX7_count_118 (by decide) rfl (fun c15 => ?_) (fun c15 => absurd (gi_si (h.i 39) (by decide)) c15)
                refine ae_iconst (v := 0) (q := 145) dX7_count_144 (by decide) rfl ?_
                refine ae_iret dX7_count_145 rfl rfl ?_
                intro k v hR
                have hkv : k = 0 ∧ (k = 0 → v = 0) := by
                  rcases hR with ⟨q, rfl, rfl⟩ | ⟨q, rfl, rfl⟩ | ⟨q, rfl, rfl⟩ | ⟨q, rfl, rfl⟩ | ⟨q, rfl, rfl⟩ | ⟨q, rfl, rfl⟩ <;> first | exact ⟨rfl, fun _ => rfl⟩ | (exfalso; simp only [rg] at *; omega)
                exact ⟨⟨_, rfl, fun q => (hkv.2 q).symm⟩, by rw [hkv.1]; exact gi_set, rfl, rfl, rfl⟩
            · have m95 := nle_of (b := 39) (by decide) n95
              refine ae_aload_n (q := 99) dX7_count_98 rfl rfl rfl ?_
              refine ae_iconst (v := 0) (q := 100) dX7_count_99 (by decide) rfl ?_
              refine ae_iload_n (q := 101) dX7_count_100 rfl rfl rfl ?_
              refine ae_bipush (v := 40) (q := 103) dX7_count_101 (by decide) rfl ?_
              refine ae_isub (q := 104) dX7_count_103 rfl ?_
              refine ae_callV (ci := 7) (as := [.int 0, .int (x0 - 40)]) (b := 288) (st := []) (q := 107) dX7_count_104 (e_X7_queuedAt h.s (h.lt (by decide)) (gi_si (h.i 39) (by decide))) myX7_queuedAt lk_X7_225 im_X7_queuedAt se_X7_queuedAt rfl (by decide) h.s (h.lt (by decide)) rfl rfl (Nat.le_of_ble_eq_true rfl) rfl (fun o H1 h => ⟨_, h.1⟩) (fun v G hv => ?_)
              obtain ⟨hv1, hv2⟩ := hv
              subst hv2
              cases hv1
              refine ⟨Or.inl rfl, ?_⟩
              refine ae_iret dX7_count_107 rfl rfl ?_
              intro k v hR
              have hkv : k = 0 ∧ (k = 0 → v = (-1)) := by
                rcases hR with ⟨q, rfl, rfl⟩ | ⟨q, rfl, rfl⟩ | ⟨q, rfl, rfl⟩ | ⟨q, rfl, rfl⟩ | ⟨q, rfl, rfl⟩ | ⟨q, rfl, rfl⟩ <;> first | exact ⟨rfl, fun _ => rfl⟩ | (exfalso; simp only [rg] at *; omega)
              exact ⟨⟨_, rfl, fun q => (hkv.2 q).symm⟩, by rw [hkv.1]; exact gi_set, rfl, rfl, rfl⟩
          · have m79 := nle_of (b := 99) (by decide) n79
            refine ae_aload_n (q := 83) dX7_count_82 rfl rfl rfl ?_
            refine ae_iconst (v := 1) (q := 84) dX7_count_83 (by decide) rfl ?_
            refine ae_iload_n (q := 85) dX7_count_84 rfl rfl rfl ?_
            refine ae_bipush (v := 100) (q := 87) dX7_count_85 (by decide) rfl ?_
            refine ae_isub (q := 88) dX7_count_87 rfl ?_
            refine ae_callV (ci := 7) (as := [.int 1, .int (x0 - 100)]) (b := 288) (st := []) (q := 91) dX7_count_88 (e_X7_queuedAt h.s (h.lt (by decide)) (gi_si (h.i 39) (by decide))) myX7_queuedAt lk_X7_225 im_X7_queuedAt se_X7_queuedAt rfl (by decide) h.s (h.lt (by decide)) rfl rfl (Nat.le_of_ble_eq_true rfl) rfl (fun o H1 h => ⟨_, h.1⟩) (fun v G hv => ?_)
            obtain ⟨hv1, hv2⟩ := hv
            subst hv2
            cases hv1
            refine ⟨Or.inl rfl, ?_⟩
            refine ae_iret dX7_count_91 rfl rfl ?_
            intro k v hR
            have hkv : k = 0 ∧ (k = 0 → v = (-1)) := by
              rcases hR with ⟨q, rfl, rfl⟩ | ⟨q, rfl, rfl⟩ | ⟨q, rfl, rfl⟩ | ⟨q, rfl, rfl⟩ | ⟨q, rfl, rfl⟩ | ⟨q, rfl, rfl⟩ <;> first | exact ⟨rfl, fun _ => rfl⟩ | (exfalso; simp only [rg] at *; omega)
            exact ⟨⟨_, rfl, fun q => (hkv.2 q).symm⟩, by rw [hkv.1]; exact gi_set, rfl, rfl, rfl⟩
        · have g55 := rg_not (a := 0) (b := 10) (by decide) (by decide) w55
          refine ae_if_ne (t := 71) (q := 61) dX7_count_58 (by decide) rfl (fun h => absurd h (by decide)) (fun _ => ?_)
          refine ae_iload_n (q := 62) dX7_count_61 rfl rfl rfl ?_
          refine ae_if_ne (t := 71) (q := 65) dX7_count_62 (by decide) rfl (fun _ => ?_) (fun h => absurd h (by decide))
          refine ae_aload_n (q := 72) dX7_count_71 rfl rfl rfl ?_
          refine ae_iconst (v := 0) (q := 73) dX7_count_72 (by decide) rfl ?_
          refine ae_putI (q := 76) dX7_count_73 fl_X7_101 rfl rfl rfl h.s (h.lt (by decide)) rfl ?_
          refine ae_iload_n (q := 77) dX7_count_76 rfl rfl rfl ?_
          refine ae_bipush (v := 99) (q := 79) dX7_count_77 (by decide) rfl ?_
          refine ae_icmp_le (t := 92) (q := 82) dX7_count_79 (by decide) rfl (fun n79 => ?_) (fun n79 => ?_)
          · have m79 := le_of (b := 99) (by decide) n79
            refine ae_iload_n (q := 93) dX7_count_92 rfl rfl rfl ?_
            refine ae_bipush (v := 39) (q := 95) dX7_count_93 (by decide) rfl ?_
            refine ae_icmp_le (t := 108) (q := 98) dX7_count_95 (by decide) rfl (fun n95 => ?_) (fun n95 => ?_)
            · have m95 := le_of (b := 39) (by decide) n95
              refine ae_iload_n (q := 109) dX7_count_108 rfl rfl rfl ?_
              refine ae_bipush (v := 29) (q := 111) dX7_count_109 (by decide) rfl ?_
              refine ae_icmp_le (t := 146) (q := 114) dX7_count_111 (by decide) rfl (fun n111 => ?_) (fun n111 => ?_)
              · have m111 := le_of (b := 29) (by decide) n111
                refine ae_iload_n (q := 147) dX7_count_146 rfl rfl rfl ?_
                refine ae_bipush (v := 19) (q := 149) dX7_count_147 (by decide) rfl ?_
                refine ae_icmp_le (t := 184) (q := 152) dX7_count_149 (by decide) rfl (fun n149 => ?_) (fun n149 => ?_)
                · have m149 := le_of (b := 19) (by decide) n149
                  refine ae_aload_n (q := 185) dX7_count_184 rfl rfl rfl ?_
                  refine ae_getI (q := 188) dX7_count_185 fl_X7_122 rfl h.s (h.lt (by decide)) rfl ?_
                  refine ae_if_ne (t := 193) (q := 191) dX7_count_188 (by decide) rfl (fun c16 => absurd (gi_si (h.i 39) (by decide)) c16) (fun c16 => ?_)
                  refine ae_iconst (v := 0) (q := 192) dX7_count_191 (by decide) rfl ?_
                  refine ae_iret dX7_count_192 rfl rfl ?_
                  intro k v hR
                  have hkv : k = 0 ∧ (k = 0 → v = 0) := by
                    rcases hR with ⟨q, rfl, rfl⟩ | ⟨q, rfl, rfl⟩ | ⟨q, rfl, rfl⟩ | ⟨q, rfl, rfl⟩ | ⟨q, rfl, rfl⟩ | ⟨q, rfl, rfl⟩ <;> first | exact ⟨rfl, fun _ => rfl⟩ | (exfalso; simp only [rg] at *; omega)
                  exact ⟨⟨_, rfl, fun q => (hkv.2 q).symm⟩, by rw [hkv.1]; exact gi_set, rfl, rfl, rfl⟩
                · have m149 := nle_of (b := 19) (by decide) n149
                  refine ae_aload_n (q := 153) dX7_count_152 rfl rfl rfl ?_
                  refine ae_getI (q := 156) dX7_count_153 fl_X7_122 rfl h.s (h.lt (by decide)) rfl ?_
                  refine ae_if_eq (t := 182) (q := 159) dX7_count_156 (by decide) rfl (fun c17 => ?_) (fun c17 => absurd (gi_si (h.i 39) (by decide)) c17)
                  refine ae_iconst (v := (-1)) (q := 183) dX7_count_182 (by decide) rfl ?_
                  refine ae_iret dX7_count_183 rfl rfl ?_
                  intro k v hR
                  have hkv : k = 0 ∧ (k = 0 → v = (-1)) := by
                    rcases hR with ⟨q, rfl, rfl⟩ | ⟨q, rfl, rfl⟩ | ⟨q, rfl, rfl⟩ | ⟨q, rfl, rfl⟩ | ⟨q, rfl, rfl⟩ | ⟨q, rfl, rfl⟩ <;> first | exact ⟨rfl, fun _ => rfl⟩ | (exfalso; simp only [rg] at *; omega)
                  exact ⟨⟨_, rfl, fun q => (hkv.2 q).symm⟩, by rw [hkv.1]; exact gi_set, rfl, rfl, rfl⟩
              · have m111 := nle_of (b := 29) (by decide) n111
                refine ae_aload_n (q := 115) dX7_count_114 rfl rfl rfl ?_
                refine ae_getI (q := 118) dX7_count_115 fl_X7_122 rfl h.s (h.lt (by decide)) rfl ?_
                refine ae_if_eq (t := 144) (q := 121) dX7_count_118 (by decide) rfl (fun c18 => ?_) (fun c18 => absurd (gi_si (h.i 39) (by decide)) c18)
                refine ae_iconst (v := 0) (q := 145) dX7_count_144 (by decide) rfl ?_
                refine ae_iret dX7_count_145 rfl rfl ?_
                intro k v hR
                have hkv : k = 0 ∧ (k = 0 → v = 0) := by
                  rcases hR with ⟨q, rfl, rfl⟩ | ⟨q, rfl, rfl⟩ | ⟨q, rfl, rfl⟩ | ⟨q, rfl, rfl⟩ | ⟨q, rfl, rfl⟩ | ⟨q, rfl, rfl⟩ <;> first | exact ⟨rfl, fun _ => rfl⟩ | (exfalso; simp only [rg] at *; omega)
                exact ⟨⟨_, rfl, fun q => (hkv.2 q).symm⟩, by rw [hkv.1]; exact gi_set, rfl, rfl, rfl⟩
            · have m95 := nle_of (b := 39) (by decide) n95
              refine ae_aload_n (q := 99) dX7_count_98 rfl rfl rfl ?_
              refine ae_iconst (v := 0) (q := 100) dX7_count_99 (by decide) rfl ?_
              refine ae_iload_n (q := 101) dX7_count_100 rfl rfl rfl ?_
              refine ae_bipush (v := 40) (q := 103) dX7_count_101 (by decide) rfl ?_
              refine ae_isub (q := 104) dX7_count_103 rfl ?_
              refine ae_callV (ci := 7) (as := [.int 0, .int (x0 - 40)]) (b := 288) (st := []) (q := 107) dX7_count_104 (e_X7_queuedAt h.s (h.lt (by decide)) (gi_si (h.i 39) (by decide))) myX7_queuedAt lk_X7_225 im_X7_queuedAt se_X7_queuedAt rfl (by decide) h.s (h.lt (by decide)) rfl rfl (Nat.le_of_ble_eq_true rfl) rfl (fun o H1 h => ⟨_, h.1⟩) (fun v G hv => ?_)
              obtain ⟨hv1, hv2⟩ := hv
              subst hv2
              cases hv1
              refine ⟨Or.inl rfl, ?_⟩
              refine ae_iret dX7_count_107 rfl rfl ?_
              intro k v hR
              have hkv : k = 0 ∧ (k = 0 → v = (-1)) := by
                rcases hR with ⟨q, rfl, rfl⟩ | ⟨q, rfl, rfl⟩ | ⟨q, rfl, rfl⟩ | ⟨q, rfl, rfl⟩ | ⟨q, rfl, rfl⟩ | ⟨q, rfl, rfl⟩ <;> first | exact ⟨rfl, fun _ => rfl⟩ | (exfalso; simp only [rg] at *; omega)
              exact ⟨⟨_, rfl, fun q => (hkv.2 q).symm⟩, by rw [hkv.1]; exact gi_set, rfl, rfl, rfl⟩
          · have m79 := nle_of (b := 99) (by decide) n79
            refine ae_aload_n (q := 83) dX7_count_82 rfl rfl rfl ?_
            refine ae_iconst (v := 1) (q := 84) dX7_count_83 (by decide) rfl ?_
            refine ae_iload_n (q := 85) dX7_count_84 rfl rfl rfl ?_
            refine ae_bipush (v := 100) (q := 87) dX7_count_85 (by decide) rfl ?_
            refine ae_isub (q := 88) dX7_count_87 rfl ?_
            refine ae_callV (ci := 7) (as := [.int 1, .int (x0 - 100)]) (b := 288) (st := []) (q := 91) dX7_count_88 (e_X7_queuedAt h.s (h.lt (by decide)) (gi_si (h.i 39) (by decide))) myX7_queuedAt lk_X7_225 im_X7_queuedAt se_X7_queuedAt rfl (by decide) h.s (h.lt (by decide)) rfl rfl (Nat.le_of_ble_eq_true rfl) rfl (fun o H1 h => ⟨_, h.1⟩) (fun v G hv => ?_)
            obtain ⟨hv1, hv2⟩ := hv
            subst hv2
            cases hv1
            refine ⟨Or.inl rfl, ?_⟩
            refine ae_iret dX7_count_91 rfl rfl ?_
            intro k v hR
            have hkv : k = 0 ∧ (k = 0 → v = (-1)) := by
              rcases hR with ⟨q, rfl, rfl⟩ | ⟨q, rfl, rfl⟩ | ⟨q, rfl, rfl⟩ | ⟨q, rfl, rfl⟩ | ⟨q, rfl, rfl⟩ | ⟨q, rfl, rfl⟩ <;> first | exact ⟨rfl, fun _ => rfl⟩ | (exfalso; simp only [rg] at *; omega)
            exact ⟨⟨_, rfl, fun q => (hkv.2 q).symm⟩, by rw [hkv.1]; exact gi_set, rfl, rfl, rfl⟩
      · have g27 := rg_not (a := 40) (b := 87) (by decide) (by decide) w27
        refine ae_if_ne (t := 45) (q := 33) dX7_count_30 (by decide) rfl (fun h => absurd h (by decide)) (fun _ => ?_)
        refine ae_iload_n (q := 34) dX7_count_33 rfl rfl rfl ?_
        refine ae_bipush (v := 100) (q := 36) dX7_count_34 (by decide) rfl ?_
        refine ae_sipush (v := 147) (q := 39) dX7_count_36 (by decide) rfl ?_
        refine ae_wX7 (q := 42) dX7_count_39 lk_X7_105 (Nat.le_of_ble_eq_true rfl) rfl (fun w39 => ?_) (fun w39 => ?_)
        · have g39 := rg_of (a := 100) (b := 147) (by decide) (by decide) w39
          refine ae_if_eq (t := 49) (q := 45) dX7_count_42 (by decide) rfl (fun h => absurd h (by decide)) (fun _ => ?_)
          refine ae_iconst (v := 1) (q := 46) dX7_count_45 (by decide) rfl ?_
          refine ae_goto (q := 50) dX7_count_46 (by decide) ?_
          refine ae_istore_n (lv' := [(2, .int 1), (0, .ref 288), (1, .int x0)]) (q := 51) dX7_count_50 rfl (by decide) rfl rfl ?_
          refine ae_iload_n (q := 52) dX7_count_51 rfl rfl rfl ?_
          refine ae_iconst (v := 0) (q := 53) dX7_count_52 (by decide) rfl ?_
          refine ae_bipush (v := 10) (q := 55) dX7_count_53 (by decide) rfl ?_
          refine ae_wX7 (q := 58) dX7_count_55 lk_X7_105 (Nat.le_of_ble_eq_true rfl) rfl (fun w55 => ?_) (fun w55 => ?_)
          · have g55 := rg_of (a := 0) (b := 10) (by decide) (by decide) w55
            refine ae_if_ne (t := 71) (q := 61) dX7_count_58 (by decide) rfl (fun _ => ?_) (fun h => absurd h (by decide))
            refine ae_aload_n (q := 72) dX7_count_71 rfl rfl rfl ?_
            refine ae_iconst (v := 0) (q := 73) dX7_count_72 (by decide) rfl ?_
            refine ae_putI (q := 76) dX7_count_73 fl_X7_101 rfl rfl rfl h.s (h.lt (by decide)) rfl ?_
            refine ae_iload_n (q := 77) dX7_count_76 rfl rfl rfl ?_
            refine ae_bipush (v := 99) (q := 79) dX7_count_77 (by decide) rfl ?_
            refine ae_icmp_le (t := 92) (q := 82) dX7_count_79 (by decide) rfl (fun n79 => ?_) (fun n79 => ?_)
            · have m79 := le_of (b := 99) (by decide) n79
              refine ae_iload_n (q := 93) dX7_count_92 rfl rfl rfl ?_
              refine ae_bipush (v := 39) (q := 95) dX7_count_93 (by decide) rfl ?_
              refine ae_icmp_le (t := 108) (q := 98) dX7_count_95 (by decide) rfl (fun n95 => ?_) (fun n95 => ?_)
              · have m95 := le_of (b := 39) (by decide) n95
                refine ae_iload_n (q := 109) dX7_count_108 rfl rfl rfl ?_
                refine ae_bipush (v := 29) (q := 111) dX7_count_109 (by decide) rfl ?_
                refine ae_icmp_le (t := 146) (q := 114) dX7_count_111 (by decide) rfl (fun n111 => ?_) (fun n111 => ?_)
                · have m111 := le_of (b := 29) (by decide) n111
                  refine ae_iload_n (q := 147) dX7_count_146 rfl rfl rfl ?_
                  refine ae_bipush (v := 19) (q := 149) dX7_count_147 (by decide) rfl ?_
                  refine ae_icmp_le (t := 184) (q := 152) dX7_count_149 (by decide) rfl (fun n149 => ?_) (fun n149 => ?_)
                  · have m149 := le_of (b := 19) (by decide) n149
                    refine ae_aload_n (q := 185) dX7_count_184 rfl rfl rfl ?_
                    refine ae_getI (q := 188) dX7_count_185 fl_X7_122 rfl h.s (h.lt (by decide)) rfl ?_
                    refine ae_if_ne (t := 193) (q := 191) dX7_count_188 (by decide) rfl (fun c19 => absurd (gi_si (h.i 39) (by decide)) c19) (fun c19 => ?_)
                    refine ae_iconst (v := 0) (q := 192) dX7_count_191 (by decide) rfl ?_
                    refine ae_iret dX7_count_192 rfl rfl ?_
                    intro k v hR
                    have hkv : k = 0 ∧ (k = 0 → v = 0) := by
                      rcases hR with ⟨q, rfl, rfl⟩ | ⟨q, rfl, rfl⟩ | ⟨q, rfl, rfl⟩ | ⟨q, rfl, rfl⟩ | ⟨q, rfl, rfl⟩ | ⟨q, rfl, rfl⟩ <;> first | exact ⟨rfl, fun _ => rfl⟩ | (exfalso; simp only [rg] at *; omega)
                    exact ⟨⟨_, rfl, fun q => (hkv.2 q).symm⟩, by rw [hkv.1]; exact gi_set, rfl, rfl, rfl⟩
                  · have m149 := nle_of (b := 19) (by decide) n149
                    refine ae_aload_n (q := 153) dX7_count_152 rfl rfl rfl ?_
                    refine ae_getI (q := 156) dX7_count_153 fl_X7_122 rfl h.s (h.lt (by decide)) rfl ?_
                    refine ae_if_eq (t := 182) (q := 159) dX7_count_156 (by decide) rfl (fun c20 => ?_) (fun c20 => absurd (gi_si (h.i 39) (by decide)) c20)
                    refine ae_iconst (v := (-1)) (q := 183) dX7_count_182 (by decide) rfl ?_
                    refine ae_iret dX7_count_183 rfl rfl ?_
                    intro k v hR
                    have hkv : k = 0 ∧ (k = 0 → v = (-1)) := by
                      rcases hR with ⟨q, rfl, rfl⟩ | ⟨q, rfl, rfl⟩ | ⟨q, rfl, rfl⟩ | ⟨q, rfl, rfl⟩ | ⟨q, rfl, rfl⟩ | ⟨q, rfl, rfl⟩ <;> first | exact ⟨rfl, fun _ => rfl⟩ | (exfalso; simp only [rg] at *; omega)
                    exact ⟨⟨_, rfl, fun q => (hkv.2 q).symm⟩, by rw [hkv.1]; exact gi_set, rfl, rfl, rfl⟩
                · have m111 := nle_of (b := 29) (by decide) n111
                  refine ae_aload_n (q := 115) dX7_count_114 rfl rfl rfl ?_
                  refine ae_getI (q := 118) dX7_count_115 fl_X7_122 rfl h.s (h.lt (by decide)) rfl ?_
                  refine ae_if_eq (t := 144) (q := 121) dX7_count_118 (by decide) rfl (fun c21 => ?_) (fun c21 => absurd (gi_si (h.i 39) (by decide)) c21)
                  refine ae_iconst (v := 0) (q := 145) dX7_count_144 (by decide) rfl ?_
                  refine ae_iret dX7_count_145 rfl rfl ?_
                  intro k v hR
                  have hkv : k = 0 ∧ (k = 0 → v = 0) := by
                    rcases hR with ⟨q, rfl, rfl⟩ | ⟨q, rfl, rfl⟩ | ⟨q, rfl, rfl⟩ | ⟨q, rfl, rfl⟩ | ⟨q, rfl, rfl⟩ | ⟨q, rfl, rfl⟩ <;> first | exact ⟨rfl, fun _ => rfl⟩ | (exfalso; simp only [rg] at *; omega)
                  exact ⟨⟨_, rfl, fun q => (hkv.2 q).symm⟩, by rw [hkv.1]; exact gi_set, rfl, rfl, rfl⟩
              · have m95 := nle_of (b := 39) (by decide) n95
                refine ae_aload_n (q := 99) dX7_count_98 rfl rfl rfl ?_
                refine ae_iconst (v := 0) (q := 100) dX7_count_99 (by decide) rfl ?_
                refine ae_iload_n (q := 101) dX7_count_100 rfl rfl rfl ?_
                refine ae_bipush (v := 40) (q := 103) dX7_count_101 (by decide) rfl ?_
                refine ae_isub (q := 104) dX7_count_103 rfl ?_
                refine ae_callV (ci := 7) (as := [.int 0, .int (x0 - 40)]) (b := 288) (st := []) (q := 107) dX7_count_104 (e_X7_queuedAt h.s (h.lt (by decide)) (gi_si (h.i 39) (by decide))) myX7_queuedAt lk_X7_225 im_X7_queuedAt se_X7_queuedAt rfl (by decide) h.s (h.lt (by decide)) rfl rfl (Nat.le_of_ble_eq_true rfl) rfl (fun o H1 h => ⟨_, h.1⟩) (fun v G hv => ?_)
                obtain ⟨hv1, hv2⟩ := hv
                subst hv2
                cases hv1
                refine ⟨Or.inl rfl, ?_⟩
                refine ae_iret dX7_count_107 rfl rfl ?_
                intro k v hR
                have hkv : k = 0 ∧ (k = 0 → v = (-1)) := by
                  rcases hR with ⟨q, rfl, rfl⟩ | ⟨q, rfl, rfl⟩ | ⟨q, rfl, rfl⟩ | ⟨q, rfl, rfl⟩ | ⟨q, rfl, rfl⟩ | ⟨q, rfl, rfl⟩ <;> first | exact ⟨rfl, fun _ => rfl⟩ | (exfalso; simp only [rg] at *; omega)
                exact ⟨⟨_, rfl, fun q => (hkv.2 q).symm⟩, by rw [hkv.1]; exact gi_set, rfl, rfl, rfl⟩
            · have m79 := nle_of (b := 99) (by decide) n79
              refine ae_aload_n (q := 83) dX7_count_82 rfl rfl rfl ?_
              refine ae_iconst (v := 1) (q := 84) dX7_count_83 (by decide) rfl ?_
              refine ae_iload_n (q := 85) dX7_count_84 rfl rfl rfl ?_
              refine ae_bipush (v := 100) (q := 87) dX7_count_85 (by decide) rfl ?_
              refine ae_isub (q := 88) dX7_count_87 rfl ?_
              refine ae_callV (ci := 7) (as := [.int 1, .int (x0 - 100)]) (b := 288) (st := []) (q := 91) dX7_count_88 (e_X7_queuedAt h.s (h.lt (by decide)) (gi_si (h.i 39) (by decide))) myX7_queuedAt lk_X7_225 im_X7_queuedAt se_X7_queuedAt rfl (by decide) h.s (h.lt (by decide)) rfl rfl (Nat.le_of_ble_eq_true rfl) rfl (fun o H1 h => ⟨_, h.1⟩) (fun v G hv => ?_)
              obtain ⟨hv1, hv2⟩ := hv
              subst hv2
              cases hv1
              refine ⟨Or.inl rfl, ?_⟩
              refine ae_iret dX7_count_91 rfl rfl ?_
              intro k v hR
              have hkv : k = 0 ∧ (k = 0 → v = (-1)) := by
                rcases hR with ⟨q, rfl, rfl⟩ | ⟨q, rfl, rfl⟩ | ⟨q, rfl, rfl⟩ | ⟨q, rfl, rfl⟩ | ⟨q, rfl, rfl⟩ | ⟨q, rfl, rfl⟩ <;> first | exact ⟨rfl, fun _ => rfl⟩ | (exfalso; simp only [rg] at *; omega)
              exact ⟨⟨_, rfl, fun q => (hkv.2 q).symm⟩, by rw [hkv.1]; exact gi_set, rfl, rfl, rfl⟩
          · have g55 := rg_not (a := 0) (b := 10) (by decide) (by decide) w55
            refine ae_if_ne (t := 71) (q := 61) dX7_count_58 (by decide) rfl (fun h => absurd h (by decide)) (fun _ => ?_)
            refine ae_iload_n (q := 62) dX7_count_61 rfl rfl rfl ?_
            refine ae_if_ne (t := 71) (q := 65) dX7_count_62 (by decide) rfl (fun _ => ?_) (fun h => absurd h (by decide))
            refine ae_aload_n (q := 72) dX7_count_71 rfl rfl rfl ?_
            refine ae_iconst (v := 0) (q := 73) dX7_count_72 (by decide) rfl ?_
            refine ae_putI (q := 76) dX7_count_73 fl_X7_101 rfl rfl rfl h.s (h.lt (by decide)) rfl ?_
            refine ae_iload_n (q := 77) dX7_count_76 rfl rfl rfl ?_
            refine ae_bipush (v := 99) (q := 79) dX7_count_77 (by decide) rfl ?_
            refine ae_icmp_le (t := 92) (q := 82) dX7_count_79 (by decide) rfl (fun n79 => ?_) (fun n79 => ?_)
            · have m79 := le_of (b := 99) (by decide) n79
              refine ae_iload_n (q := 93) dX7_count_92 rfl rfl rfl ?_
              refine ae_bipush (v := 39) (q := 95) dX7_count_93 (by decide) rfl ?_
              refine ae_icmp_le (t := 108) (q := 98) dX7_count_95 (by decide) rfl (fun n95 => ?_) (fun n95 => ?_)
              · have m95 := le_of (b := 39) (by decide) n95
                refine ae_iload_n (q := 109) dX7_count_108 rfl rfl rfl ?_
                refine ae_bipush (v := 29) (q := 111) dX7_count_109 (by decide) rfl ?_
                refine ae_icmp_le (t := 146) (q := 114) dX7_count_111 (by decide) rfl (fun n111 => ?_) (fun n111 => ?_)
                · have m111 := le_of (b := 29) (by decide) n111
                  refine ae_iload_n (q := 147) dX7_count_146 rfl rfl rfl ?_
                  refine ae_bipush (v := 19) (q := 149) dX7_count_147 (by decide) rfl ?_
                  refine ae_icmp_le (t := 184) (q := 152) dX7_count_149 (by decide) rfl (fun n149 => ?_) (fun n149 => ?_)
                  · have m149 := le_of (b := 19) (by decide) n149
                    refine ae_aload_n (q := 185) dX7_count_184 rfl rfl rfl ?_
                    refine ae_getI (q := 188) dX7_count_185 fl_X7_122 rfl h.s (h.lt (by decide)) rfl ?_
                    refine ae_if_ne (t := 193) (q := 191) dX7_count_188 (by decide) rfl (fun c22 => absurd (gi_si (h.i 39) (by decide)) c22) (fun c22 => ?_)
                    refine ae_iconst (v := 0) (q := 192) dX7_count_191 (by decide) rfl ?_
                    refine ae_iret dX7_count_192 rfl rfl ?_
                    intro k v hR
                    have hkv : k = 0 ∧ (k = 0 → v = 0) := by
                      rcases hR with ⟨q, rfl, rfl⟩ | ⟨q, rfl, rfl⟩ | ⟨q, rfl, rfl⟩ | ⟨q, rfl, rfl⟩ | ⟨q, rfl, rfl⟩ | ⟨q, rfl, rfl⟩ <;> first | exact ⟨rfl, fun _ => rfl⟩ | (exfalso; simp only [rg] at *; omega)
                    exact ⟨⟨_, rfl, fun q => (hkv.2 q).symm⟩, by rw [hkv.1]; exact gi_set, rfl, rfl, rfl⟩
                  · have m149 := nle_of (b := 19) (by decide) n149
                    refine ae_aload_n (q := 153) dX7_count_152 rfl rfl rfl ?_
                    refine ae_getI (q := 156) dX7_count_153 fl_X7_122 rfl h.s (h.lt (by decide)) rfl ?_
                    refine ae_if_eq (t := 182) (q := 159) dX7_count_156 (by decide) rfl (fun c23 => ?_) (fun c23 => absurd (gi_si (h.i 39) (by decide)) c23)
                    refine ae_iconst (v := (-1)) (q := 183) dX7_count_182 (by decide) rfl ?_
                    refine ae_iret dX7_count_183 rfl rfl ?_
                    intro k v hR
                    have hkv : k = 0 ∧ (k = 0 → v = (-1)) := by
                      rcases hR with ⟨q, rfl, rfl⟩ | ⟨q, rfl, rfl⟩ | ⟨q, rfl, rfl⟩ | ⟨q, rfl, rfl⟩ | ⟨q, rfl, rfl⟩ | ⟨q, rfl, rfl⟩ <;> first | exact ⟨rfl, fun _ => rfl⟩ | (exfalso; simp only [rg] at *; omega)
                    exact ⟨⟨_, rfl, fun q => (hkv.2 q).symm⟩, by rw [hkv.1]; exact gi_set, rfl, rfl, rfl⟩
                · have m111 := nle_of (b := 29) (by decide) n111
                  refine ae_aload_n (q := 115) dX7_count_114 rfl rfl rfl ?_
                  refine ae_getI (q := 118) dX7_count_115 fl_X7_122 rfl h.s (h.lt (by decide)) rfl ?_
                  refine ae_if_eq (t := 144) (q := 121) dX7_count_118 (by decide) rfl (fun c24 => ?_) (fun c24 => absurd (gi_si (h.i 39) (by decide)) c24)
                  refine ae_iconst (v := 0) (q := 145) dX7_count_144 (by decide) rfl ?_
                  refine ae_iret dX7_count_145 rfl rfl ?_
                  intro k v hR
                  have hkv : k = 0 ∧ (k = 0 → v = 0) := by
                    rcases hR with ⟨q, rfl, rfl⟩ | ⟨q, rfl, rfl⟩ | ⟨q, rfl, rfl⟩ | ⟨q, rfl, rfl⟩ | ⟨q, rfl, rfl⟩ | ⟨q, rfl, rfl⟩ <;> first | exact ⟨rfl, fun _ => rfl⟩ | (exfalso; simp only [rg] at *; omega)
                  exact ⟨⟨_, rfl, fun q => (hkv.2 q).symm⟩, by rw [hkv.1]; exact gi_set, rfl, rfl, rfl⟩
              · have m95 := nle_of (b := 39) (by decide) n95
                refine ae_aload_n (q := 99) dX7_count_98 rfl rfl rfl ?_
                refine ae_iconst (v := 0) (q := 100) dX7_count_99 (by decide) rfl ?_
                refine ae_iload_n (q := 101) dX7_count_100 rfl rfl rfl ?_
                refine ae_bipush (v := 40) (q := 103) dX7_count_101 (by decide) rfl ?_
                refine ae_isub (q := 104) dX7_count_103 rfl ?_
                refine ae_callV (ci := 7) (as := [.int 0, .int (x0 - 40)]) (b := 288) (st := []) (q := 107) dX7_count_104 (e_X7_queuedAt h.s (h.lt (by decide)) (gi_si (h.i 39) (by decide))) myX7_queuedAt lk_X7_225 im_X7_queuedAt se_X7_queuedAt rfl (by decide) h.s (h.lt (by decide)) rfl rfl (Nat.le_of_ble_eq_true rfl) rfl (fun o H1 h => ⟨_, h.1⟩) (fun v G hv => ?_)
                obtain ⟨hv1, hv2⟩ := hv
                subst hv2
                cases hv1
                refine ⟨Or.inl rfl, ?_⟩
                refine ae_iret dX7_count_107 rfl rfl ?_
                intro k v hR
                have hkv : k = 0 ∧ (k = 0 → v = (-1)) := by
                  rcases hR with ⟨q, rfl, rfl⟩ | ⟨q, rfl, rfl⟩ | ⟨q, rfl, rfl⟩ | ⟨q, rfl, rfl⟩ | ⟨q, rfl, rfl⟩ | ⟨q, rfl, rfl⟩ <;> first | exact ⟨rfl, fun _ => rfl⟩ | (exfalso; simp only [rg] at *; omega)
                exact ⟨⟨_, rfl, fun q => (hkv.2 q).symm⟩, by rw [hkv.1]; exact gi_set, rfl, rfl, rfl⟩
            · have m79 := nle_of (b := 99) (by decide) n79
              refine ae_aload_n (q := 83) dX7_count_82 rfl rfl rfl ?_
              refine ae_iconst (v := 1) (q := 84) dX7_count_83 (by decide) rfl ?_
              refine ae_iload_n (q := 85) dX7_count_84 rfl rfl rfl ?_
              refine ae_bipush (v := 100) (q := 87) dX7_count_85 (by decide) rfl ?_
              refine ae_isub (q := 88) dX7_count_87 rfl ?_
              refine ae_callV (ci := 7) (as := [.int 1, .int (x0 - 100)]) (b := 288) (st := []) (q := 91) dX7_count_88 (e_X7_queuedAt h.s (h.lt (by decide)) (gi_si (h.i 39) (by decide))) myX7_queuedAt lk_X7_225 im_X7_queuedAt se_X7_queuedAt rfl (by decide) h.s (h.lt (by decide)) rfl rfl (Nat.le_of_ble_eq_true rfl) rfl (fun o H1 h => ⟨_, h.1⟩) (fun v G hv => ?_)
              obtain ⟨hv1, hv2⟩ := hv
              subst hv2
              cases hv1
              refine ⟨Or.inl rfl, ?_⟩
              refine ae_iret dX7_count_91 rfl rfl ?_
              intro k v hR
              have hkv : k = 0 ∧ (k = 0 → v = (-1)) := by
                rcases hR with ⟨q, rfl, rfl⟩ | ⟨q, rfl, rfl⟩ | ⟨q, rfl, rfl⟩ | ⟨q, rfl, rfl⟩ | ⟨q, rfl, rfl⟩ | ⟨q, rfl, rfl⟩ <;> first | exact ⟨rfl, fun _ => rfl⟩ | (exfalso; simp only [rg] at *; omega)
              exact ⟨⟨_, rfl, fun q => (hkv.2 q).symm⟩, by rw [hkv.1]; exact gi_set, rfl, rfl, rfl⟩
        · have g39 := rg_not (a := 100) (b := 147) (by decide) (by decide) w39
          refine ae_if_eq (t := 49) (q := 45) dX7_count_42 (by decide) rfl (fun _ => ?_) (fun h => absurd h (by decide))
          refine ae_iconst (v := 0) (q := 50) dX7_count_49 (by decide) rfl ?_
          refine ae_istore_n (lv' := [(2, .int 0), (0, .ref 288), (1, .int x0)]) (q := 51) dX7_count_50 rfl (by decide) rfl rfl ?_
          refine ae_iload_n (q := 52) dX7_count_51 rfl rfl rfl ?_
          refine ae_iconst (v := 0) (q := 53) dX7_count_52 (by decide) rfl ?_
          refine ae_bipush (v := 10) (q := 55) dX7_count_53 (by decide) rfl ?_
          refine ae_wX7 (q := 58) dX7_count_55 lk_X7_105 (Nat.le_of_ble_eq_true rfl) rfl (fun w55 => ?_) (fun w55 => ?_)
          · have g55 := rg_of (a := 0) (b := 10) (by decide) (by decide) w55
            refine ae_if_ne (t := 71) (q := 61) dX7_count_58 (by decide) rfl (fun _ => ?_) (fun h => absurd h (by decide))
            refine ae_aload_n (q := 72) dX7_count_71 rfl rfl rfl ?_
            refine ae_iconst (v := 0) (q := 73) dX7_count_72 (by decide) rfl ?_
            refine ae_putI (q := 76) dX7_count_73 fl_X7_101 rfl rfl rfl h.s (h.lt (by decide)) rfl ?_
            refine ae_iload_n (q := 77) dX7_count_76 rfl rfl rfl ?_
            refine ae_bipush (v := 99) (q := 79) dX7_count_77 (by decide) rfl ?_
            refine ae_icmp_le (t := 92) (q := 82) dX7_count_79 (by decide) rfl (fun n79 => ?_) (fun n79 => ?_)
            · have m79 := le_of (b := 99) (by decide) n79
              refine ae_iload_n (q := 93) dX7_count_92 rfl rfl rfl ?_
              refine ae_bipush (v := 39) (q := 95) dX7_count_93 (by decide) rfl ?_
              refine ae_icmp_le (t := 108) (q := 98) dX7_count_95 (by decide) rfl (fun n95 => ?_) (fun n95 => ?_)
              · have m95 := le_of (b := 39) (by decide) n95
                refine ae_iload_n (q := 109) dX7_count_108 rfl rfl rfl ?_
                refine ae_bipush (v := 29) (q := 111) dX7_count_109 (by decide) rfl ?_
                refine ae_icmp_le (t := 146) (q := 114) dX7_count_111 (by decide) rfl (fun n111 => ?_) (fun n111 => ?_)
                · have m111 := le_of (b := 29) (by decide) n111
                  refine ae_iload_n (q := 147) dX7_count_146 rfl rfl rfl ?_
                  refine ae_bipush (v := 19) (q := 149) dX7_count_147 (by decide) rfl ?_
                  refine ae_icmp_le (t := 184) (q := 152) dX7_count_149 (by decide) rfl (fun n149 => ?_) (fun n149 => ?_)
                  · have m149 := le_of (b := 19) (by decide) n149
                    refine ae_aload_n (q := 185) dX7_count_184 rfl rfl rfl ?_
                    refine ae_getI (q := 188) dX7_count_185 fl_X7_122 rfl h.s (h.lt (by decide)) rfl ?_
                    refine ae_if_ne (t := 193) (q := 191) dX7_count_188 (by decide) rfl (fun c25 => absurd (gi_si (h.i 39) (by decide)) c25) (fun c25 => ?_)
                    refine ae_iconst (v := 0) (q := 192) dX7_count_191 (by decide) rfl ?_
                    refine ae_iret dX7_count_192 rfl rfl ?_
                    intro k v hR
                    have hkv : k = 0 ∧ (k = 0 → v = 0) := by
                      rcases hR with ⟨q, rfl, rfl⟩ | ⟨q, rfl, rfl⟩ | ⟨q, rfl, rfl⟩ | ⟨q, rfl, rfl⟩ | ⟨q, rfl, rfl⟩ | ⟨q, rfl, rfl⟩ <;> first | exact ⟨rfl, fun _ => rfl⟩ | (exfalso; simp only [rg] at *; omega)
                    exact ⟨⟨_, rfl, fun q => (hkv.2 q).symm⟩, by rw [hkv.1]; exact gi_set, rfl, rfl, rfl⟩
                  · have m149 := nle_of (b := 19) (by decide) n149
                    refine ae_aload_n (q := 153) dX7_count_152 rfl rfl rfl ?_
                    refine ae_getI (q := 156) dX7_count_153 fl_X7_122 rfl h.s (h.lt (by decide)) rfl ?_
                    refine ae_if_eq (t := 182) (q := 159) dX7_count_156 (by decide) rfl (fun c26 => ?_) (fun c26 => absurd (gi_si (h.i 39) (by decide)) c26)
                    refine ae_iconst (v := (-1)) (q := 183) dX7_count_182 (by decide) rfl ?_
                    refine ae_iret dX7_count_183 rfl rfl ?_
                    intro k v hR
                    have hkv : k = 0 ∧ (k = 0 → v = (-1)) := by
                      rcases hR with ⟨q, rfl, rfl⟩ | ⟨q, rfl, rfl⟩ | ⟨q, rfl, rfl⟩ | ⟨q, rfl, rfl⟩ | ⟨q, rfl, rfl⟩ | ⟨q, rfl, rfl⟩ <;> first | exact ⟨rfl, fun _ => rfl⟩ | (exfalso; simp only [rg] at *; omega)
                    exact ⟨⟨_, rfl, fun q => (hkv.2 q).symm⟩, by rw [hkv.1]; exact gi_set, rfl, rfl, rfl⟩
                · have m111 := nle_of (b := 29) (by decide) n111
                  refine ae_aload_n (q := 115) dX7_count_114 rfl rfl rfl ?_
                  refine ae_getI (q := 118) dX7_count_115 fl_X7_122 rfl h.s (h.lt (by decide)) rfl ?_
                  refine ae_if_eq (t := 144) (q := 121) dX7_count_118 (by decide) rfl (fun c27 => ?_) (fun c27 => absurd (gi_si (h.i 39) (by decide)) c27)
                  refine ae_iconst (v := 0) (q := 145) dX7_count_144 (by decide) rfl ?_
                  refine ae_iret dX7_count_145 rfl rfl ?_
                  intro k v hR
                  have hkv : k = 0 ∧ (k = 0 → v = 0) := by
                    rcases hR with ⟨q, rfl, rfl⟩ | ⟨q, rfl, rfl⟩ | ⟨q, rfl, rfl⟩ | ⟨q, rfl, rfl⟩ | ⟨q, rfl, rfl⟩ | ⟨q, rfl, rfl⟩ <;> first | exact ⟨rfl, fun _ => rfl⟩ | (exfalso; simp only [rg] at *; omega)
                  exact ⟨⟨_, rfl, fun q => (hkv.2 q).symm⟩, by rw [hkv.1]; exact gi_set, rfl, rfl, rfl⟩
              · have m95 := nle_of (b := 39) (by decide) n95
                refine ae_aload_n (q := 99) dX7_count_98 rfl rfl rfl ?_
                refine ae_iconst (v := 0) (q := 100) dX7_count_99 (by decide) rfl ?_
                refine ae_iload_n (q := 101) dX7_count_100 rfl rfl rfl ?_
                refine ae_bipush (v := 40) (q := 103) dX7_count_101 (by decide) rfl ?_
                refine ae_isub (q := 104) dX7_count_103 rfl ?_
                refine ae_callV (ci := 7) (as := [.int 0, .int (x0 - 40)]) (b := 288) (st := []) (q := 107) dX7_count_104 (e_X7_queuedAt h.s (h.lt (by decide)) (gi_si (h.i 39) (by decide))) myX7_queuedAt lk_X7_225 im_X7_queuedAt se_X7_queuedAt rfl (by decide) h.s (h.lt (by decide)) rfl rfl (Nat.le_of_ble_eq_true rfl) rfl (fun o H1 h => ⟨_, h.1⟩) (fun v G hv => ?_)
                obtain ⟨hv1, hv2⟩ := hv
                subst hv2
                cases hv1
                refine ⟨Or.inl rfl, ?_⟩
                refine ae_iret dX7_count_107 rfl rfl ?_
                intro k v hR
                have hkv : k = 0 ∧ (k = 0 → v = (-1)) := by
                  rcases hR with ⟨q, rfl, rfl⟩ | ⟨q, rfl, rfl⟩ | ⟨q, rfl, rfl⟩ | ⟨q, rfl, rfl⟩ | ⟨q, rfl, rfl⟩ | ⟨q, rfl, rfl⟩ <;> first | exact ⟨rfl, fun _ => rfl⟩ | (exfalso; simp only [rg] at *; omega)
                exact ⟨⟨_, rfl, fun q => (hkv.2 q).symm⟩, by rw [hkv.1]; exact gi_set, rfl, rfl, rfl⟩
            · have m79 := nle_of (b := 99) (by decide) n79
              refine ae_aload_n (q := 83) dX7_count_82 rfl rfl rfl ?_
              refine ae_iconst (v := 1) (q := 84) dX7_count_83 (by decide) rfl ?_
              refine ae_iload_n (q := 85) dX7_count_84 rfl rfl rfl ?_
              refine ae_bipush (v := 100) (q := 87) dX7_count_85 (by decide) rfl ?_
              refine ae_isub (q := 88) dX7_count_87 rfl ?_
              refine ae_callV (ci := 7) (as := [.int 1, .int (x0 - 100)]) (b := 288) (st := []) (q := 91) dX7_count_88 (e_X7_queuedAt h.s (h.lt (by decide)) (gi_si (h.i 39) (by decide))) myX7_queuedAt lk_X7_225 im_X7_queuedAt se_X7_queuedAt rfl (by decide) h.s (h.lt (by decide)) rfl rfl (Nat.le_of_ble_eq_true rfl) rfl (fun o H1 h => ⟨_, h.1⟩) (fun v G hv => ?_)
              obtain ⟨hv1, hv2⟩ := hv
              subst hv2
              cases hv1
              refine ⟨Or.inl rfl, ?_⟩
              refine ae_iret dX7_count_91 rfl rfl ?_
              intro k v hR
              have hkv : k = 0 ∧ (k = 0 → v = (-1)) := by
                rcases hR with ⟨q, rfl, rfl⟩ | ⟨q, rfl, rfl⟩ | ⟨q, rfl, rfl⟩ | ⟨q, rfl, rfl⟩ | ⟨q, rfl, rfl⟩ | ⟨q, rfl, rfl⟩ <;> first | exact ⟨rfl, fun _ => rfl⟩ | (exfalso; simp only [rg] at *; omega)
              exact ⟨⟨_, rfl, fun q => (hkv.2 q).symm⟩, by rw [hkv.1]; exact gi_set, rfl, rfl, rfl⟩
          · have g55 := rg_not (a := 0) (b := 10) (by decide) (by decide) w55
            refine ae_if_ne (t := 71) (q := 61) dX7_count_58 (by decide) rfl (fun h => absurd h (by decide)) (fun _ => ?_)
            refine ae_iload_n (q := 62) dX7_count_61 rfl rfl rfl ?_
            refine ae_if_ne (t := 71) (q := 65) dX7_count_62 (by decide) rfl (fun h => absurd h (by decide)) (fun _ => ?_)
            refine ae_aload_n (q := 66) dX7_count_65 rfl rfl rfl ?_
            refine ae_iconst (v := 1) (q := 67) dX7_count_66 (by decide) rfl ?_
            refine ae_callV (ci := 7) (as := [.int 1]) (b := 288) (st := []) (q := 70) dX7_count_67 (e_X7_fail h.s (h.lt (by decide))) myX7_fail lk_X7_109 im_X7_fail se_X7_fail rfl (by decide) h.s (h.lt (by decide)) rfl rfl (Nat.le_of_ble_eq_true rfl) rfl (fun o H1 h => ⟨_, h.1⟩) (fun v G hv => ?_)
            obtain ⟨hv1, hv2⟩ := hv
            subst hv2
            cases hv1
            refine ⟨Or.inl rfl, ?_⟩
            refine ae_iret dX7_count_70 rfl rfl ?_
            intro k v hR
            have hkv : k = 1 ∧ (k = 0 → v = 0) := by
              rcases hR with ⟨q, rfl, rfl⟩ | ⟨q, rfl, rfl⟩ | ⟨q, rfl, rfl⟩ | ⟨q, rfl, rfl⟩ | ⟨q, rfl, rfl⟩ | ⟨q, rfl, rfl⟩ <;> first | exact ⟨rfl, fun q => absurd q (by decide)⟩ | (exfalso; simp only [rg] at *; omega)
            exact ⟨⟨_, rfl, fun q => (hkv.2 q).symm⟩, by rw [hkv.1]; exact gi_set, rfl, rfl, rfl⟩
set_option maxRecDepth 100000 in
set_option maxHeartbeats 4000000 in
theorem hs_count {ox : List (Nat × (Nat → Int32))} {H : am_H} {x0 : Int32} (h : fz H) (hm : mz H) (hs : am_sh H 319 = (102, 1)) (hn : am_nx H = 320) : am_DW 1 ox 9 yL_count mL_count hL_count [.ref 0, .int x0, .ref 319] H (fun o H1 => ∃ k v, o = .inl (some (.int k)) ∧ hk H1 k v ∧ R_count x0 k v) := by
  refine (e_L_count (w := 319) (d := 8) (e_X6_count (d := 2) h) h.s0 (h.lt (by decide)) (by omega) (fun o G hp => ?_)).mono (hs_of hm hs hn (fun o G hp => hp.2) (fun v G hp => ?_) (fun E k G hk hp => ?_))
  · obtain ⟨⟨k, v, hR, h1⟩, h2⟩ := hp
    refine ⟨h2.1, (h2.2.1 319 (by omega) (by omega)).1.trans hs, ?_⟩
    rcases h1 with ⟨-, rfl⟩ | ⟨-, -, rfl⟩
    · exact Or.inl ⟨v, rfl⟩
    · exact Or.inr ⟨_, 1, by decide, rfl⟩
  · obtain ⟨⟨k, v', hR, h1⟩, -⟩ := hp
    rcases h1 with ⟨rfl, he⟩ | ⟨-, -, he⟩
    · cases he; exact hR
    · cases he
  · obtain ⟨⟨k', v', hR, h1⟩, -⟩ := hp
    rcases h1 with ⟨-, he⟩ | ⟨rfl, rfl, he⟩
    · cases he
    · cases he
      simp [cs_count] at hk
      subst hk
      exact ⟨by decide, hR⟩
theorem hm_count {ox : List (Nat × (Nat → Int32))} {x0 : Int32} : ∀ k v H1, R_count x0 k v → mz H1 → am_D ox 9 yX7_count mX7_count [.ref 288, .int x0] H1 (mr k v H1) := by
  intro k v H1 hR h
  exact (e_X7_count (d := 8) h).mono (fun o G hp => hp k v hR)
def R_add (x0 x1 x2 k v : Int32) : Prop := ((0 ≤ x0 ∧ x0 ≤ 7) ∧ ins x1 x2) ∧ k = 0 ∧ v = 1 ∨ ¬ ((0 ≤ x0 ∧ x0 ≤ 7) ∧ ins x1 x2) ∧ k = 1 ∧ v = 0
theorem hs_add {ox : List (Nat × (Nat → Int32))} {H : am_H} {x0 x1 x2 : Int32} (ho : oxt ox) (h : fz H) (hm : mz H) (hs : am_sh H 319 = (102, 1)) (hn : am_nx H = 320) : am_DW 1 ox 9 yL_add mL_add hL_add [.ref 0, .int x0, .int x1, .int x2, .ref 319] H (fun o H1 => ∃ k v, o = .inl (some (.int k)) ∧ hk H1 k v ∧ R_add x0 x1 x2 k v) := by
  refine (e_L_add (w := 319) (d := 8) (e_X6_add (d := 2) ho h) h.s0 (h.lt (by decide)) (by omega) (fun o G hp => ?_)).mono (hs_of hm hs hn (fun o G hp => hp.2) (fun v G hp => ?_) (fun E k G hk hp => ?_))
  · obtain ⟨h1, h2⟩ := hp
    refine ⟨h2.1, (h2.2.1 319 (by omega) (by omega)).1.trans hs, ?_⟩
    rcases h1 with ⟨hc, rfl⟩ | ⟨hc, rfl⟩
    · exact Or.inl ⟨1, rfl⟩
    · exact Or.inr ⟨_, 1, by decide, rfl⟩
  · obtain ⟨⟨hc, he⟩ | ⟨hc, he⟩, -⟩ := hp
    · cases he; exact Or.inl ⟨hc, rfl, rfl⟩
    · cases he
  · obtain ⟨⟨hc, he⟩ | ⟨hc, he⟩, -⟩ := hp
    · cases he
    · cases he
      simp [cs_add] at hk
      subst hk
      exact ⟨by decide, Or.inr ⟨hc, rfl, rfl⟩⟩
theorem hm_add {ox : List (Nat × (Nat → Int32))} {x0 x1 x2 : Int32} : ∀ k v H1, R_add x0 x1 x2 k v → mz H1 → am_D ox 9 yX7_add mX7_add [.ref 288, .int x0, .int x1, .int x2] H1 (mr k v H1) := by
  intro k v H1 hR h
  refine (e_X7_add (d := 7) h).mono (fun o G hp => ?_)
  rcases hR with ⟨hc, rfl, rfl⟩ | ⟨hc, rfl, rfl⟩
  · rcases hp with ⟨-, hp⟩ | ⟨hc', -⟩
    · exact hp
    · exact absurd hc hc'
  · rcases hp with ⟨hc', -⟩ | ⟨-, hp⟩
    · exact absurd hc' hc
    · exact hp
