/-! THE ABSTRACT MACHINE, part 8: the judgement am_E: from this frame the method comes to an end with P. -/
def am_Ac (c : Nat) (H H' : am_H) : Prop := am_nx H ≤ am_nx H' ∧ am_nc H' + am_nx H ≤ am_nc H + am_nx H' + c ∧ am_nz H' + 512 * am_nc H ≤ am_nz H + 512 * am_nc H'
theorem am_Ac.rf {c : Nat} {H : am_H} : am_Ac c H H := ⟨Nat.le_refl _, by omega, Nat.le_refl _⟩
theorem am_Ac.trans {c c1 c2 : Nat} {H H1 H2 : am_H} (h : am_Ac c1 H H1) (h2 : am_Ac c2 H1 H2) (hc : c1 + c2 ≤ c) : am_Ac c H H2 := by
  obtain ⟨a1, a2, a3⟩ := h
  obtain ⟨b1, b2, b3⟩ := h2
  exact ⟨by omega, by omega, by omega⟩
theorem am_Ac.tr0 {c : Nat} {H H1 H2 : am_H} (h : am_Ac 0 H H1) (h2 : am_Ac c H1 H2) : am_Ac c H H2 := h.trans h2 (by omega)
theorem am_Ac.le {c c1 : Nat} {H H1 : am_H} (h : am_Ac c1 H H1) (hc : c1 ≤ c) : am_Ac c H H1 := by
  obtain ⟨a1, a2, a3⟩ := h
  exact ⟨a1, by omega, a3⟩
theorem am_Ac.nw {c k n : Nat} {H H' : am_H} (h : am_Ac c (am_nw H k n) H') (hn : n ≤ 512) : am_Ac c H H' := by
  obtain ⟨a1, a2, a3⟩ := h
  have e1 : am_nx (am_nw H k n) = am_nx H + 1 := rfl
  have e2 : am_nc (am_nw H k n) = am_nc H + 1 := rfl
  have e3 : am_nz (am_nw H k n) = am_nz H + n := rfl
  rw [e1] at a1 a2
  rw [e2] at a2 a3
  rw [e3] at a3
  exact ⟨by omega, by omega, by omega⟩
theorem am_Nf_le (ci : Nat) : am_Nf ci ≤ 512 := by
  unfold am_Nf
  rw [List.getD_eq_getElem?_getD]
  by_cases h : ci < 8
  · have : ∀ i : Fin 8, ([3, 4, 15, 6, 10, 3, 2, 40] : List Nat)[i.1]?.getD 0 ≤ 512 := by decide
    exact this ⟨ci, h⟩
  · rw [List.getElem?_eq_none (by simp; omega)]; exact Nat.zero_le _
/-- the method comes to an end with P, and makes at most c cells that it forgets, none of them longer than 512 -/
def am_EB (c : Nat) (ox : List (Nat × (Nat → Int32))) (d : Nat) (M : am_M) (pc : Nat) (lv : List (Nat × Value)) (st : List Value) (H : am_H) (P : Option Value ⊕ String → am_H → Prop) : Prop :=
  ∃ (o : Option Value ⊕ String) (H' : am_H), am_V ox d M pc lv st H o H' ∧ am_nc H ≤ am_nc H' ∧ am_nz H ≤ am_nz H' ∧ am_Ac c H H' ∧ P o H'
def am_DB (c : Nat) (ox : List (Nat × (Nat → Int32))) (d : Nat) (y : MethodName) (M : am_M) (as : List Value) (H : am_H) (P : Option Value ⊕ String → am_H → Prop) : Prop :=
  ∃ (o : Option Value ⊕ String) (H' : am_H), am_C ox d y M as H o H' ∧ am_nc H ≤ am_nc H' ∧ am_nz H ≤ am_nz H' ∧ am_Ac c H H' ∧ P o H'
abbrev am_E := am_EB 0
abbrev am_D := am_DB 0
section AME
variable {c : Nat} {ox : List (Nat × (Nat → Int32))} {d : Nat} {M : am_M} {pc q : Nat} {lv : List (Nat × Value)} {st stk : List Value} {H : am_H} {P P1 : Option Value ⊕ String → am_H → Prop}
theorem am_EB.mono (h : am_EB c ox d M pc lv st H P1) (hP : ∀ o H', P1 o H' → P o H') : am_EB c ox d M pc lv st H P := by
  obtain ⟨o, H', hV, hm1, hm2, hm3⟩ := h
  exact ⟨o, H', hV, hm1, hm2, hm3.1, hP o H' hm3.2⟩
theorem am_DB.mono {y : MethodName} {as : List Value} (h : am_DB c ox d y M as H P1) (hP : ∀ o H', P1 o H' → P o H') : am_DB c ox d y M as H P := by
  obtain ⟨o, H', hV, hm1, hm2, hm3⟩ := h
  exact ⟨o, H', hV, hm1, hm2, hm3.1, hP o H' hm3.2⟩
theorem ae_enter {y : MethodName} {as : List Value} (hy : plainName y.cls = true) (hc : M.1 = y.cls) (hnm : M.2.2.2.2.1 = y.name) (htb : M.2.2.2.2.2 = []) (hls : (lg_sl as).length ≤ M.2.2.1) (h : am_EB c ox d M 0 (lv_args 0 as) [] H P) : am_DB c ox d y M as H P := by
  obtain ⟨o, H', hV, hm1, hm2, hm3⟩ := h
  exact ⟨o, H', am_enter hy hc hnm htb hls hm1 hm2 hV, hm1, hm2, hm3⟩
theorem ae_callS {y : MethodName} {Mc : am_M} {as : List Value} {idx n : Nat} (hd : decode M.2.1 pc = .ok (.invokestatic idx, 3)) (hC : am_DB 0 ox d y Mc as H P1) (hy : am_My y Mc n) (hlk : Cond.methodLink M.1 idx y ∈ am_words) (hs : Cond.static y ∈ am_words) (hn : as.length = n) (hst : stk = as.reverse ++ st) (hc8 : (st.map fun v => v.category).sum ≤ 8) (hq : pc + 3 = q) (hx : ∀ o H1, P1 o H1 → ∃ v, o = .inl v) (kk : ∀ v H1, P1 (.inl v) H1 → am_fine H H1 lv st ∧ am_EB c ox (d + 1) M q lv (v.toList ++ st) H1 P) : am_EB c ox (d + 1) M pc lv stk H P := by
  obtain ⟨o1, H1, hc, c1, c2, hb0, hp⟩ := hC
  obtain ⟨v, rfl⟩ := hx o1 H1 hp
  obtain ⟨hf, o, H', hV, hm1, hm2, hm3⟩ := kk v H1 hp
  exact ⟨o, H', am_callS hd hc hy hlk hs hn hst hc8 hf c1 c2 hm1 hm2 hq hV, Nat.le_trans c1 hm1, Nat.le_trans c2 hm2, hb0.tr0 hm3.1, hm3.2⟩
theorem ae_callV {y : MethodName} {Mc : am_M} {as : List Value} {idx n b ci N : Nat} {r : vw_C} (hd : decode M.2.1 pc = .ok (.invokevirtual idx, 3)) (hC : am_DB 0 ox d y Mc (.ref b :: as) H P1) (hy : am_My y Mc n) (hlk : Cond.methodLink M.1 idx y ∈ am_words) (hi : Cond.instanceMethod y ∈ am_words) (hse : Cond.selects r.1 y y ∈ am_words) (hr : vwCl[ci]? = some r) (h100 : ci < 100) (hs : am_sh H b = (ci, N)) (hb : b < am_nx H) (hn : as.length = n) (hst : stk = as.reverse ++ .ref b :: st) (hc8 : (st.map fun v => v.category).sum ≤ 8) (hq : pc + 3 = q) (hx : ∀ o H1, P1 o H1 → ∃ v, o = .inl v) (kk : ∀ v H1, P1 (.inl v) H1 → am_fine H H1 lv st ∧ am_EB c ox (d + 1) M q lv (v.toList ++ st) H1 P) : am_EB c ox (d + 1) M pc lv stk H P := by
  obtain ⟨o1, H1, hc, c1, c2, hb0, hp⟩ := hC
  obtain ⟨v, rfl⟩ := hx o1 H1 hp
  obtain ⟨hf, o, H', hV, hm1, hm2, hm3⟩ := kk v H1 hp
  exact ⟨o, H', am_callV hd hc hy hlk hi hse hr h100 hs hb hn hst hc8 hf c1 c2 hm1 hm2 hq hV, Nat.le_trans c1 hm1, Nat.le_trans c2 hm2, hb0.tr0 hm3.1, hm3.2⟩
theorem ae_callI {y : MethodName} {Mc : am_M} {as : List Value} {idx n b : Nat} (hd : decode M.2.1 pc = .ok (.invokespecial idx, 3)) (hC : am_DB 0 ox d y Mc (.ref b :: as) H P1) (hy : am_My y Mc n) (hret : Mc.2.2.2.1 = none) (hy1 : y.name = "<init>") (hlk : Cond.methodLink M.1 idx y ∈ am_words) (hi : Cond.instanceMethod y ∈ am_words) (hn : as.length = n) (hst : stk = as.reverse ++ .ref b :: st) (hc8 : (st.map fun v => v.category).sum ≤ 8) (hq : pc + 3 = q) (hx : ∀ o H1, P1 o H1 → o = .inl none) (kk : ∀ H1, P1 (.inl none) H1 → am_fine H H1 lv st ∧ am_EB c ox (d + 1) M q lv st H1 P) : am_EB c ox (d + 1) M pc lv stk H P := by
  obtain ⟨o1, H1, hc, c1, c2, hb0, hp⟩ := hC
  obtain rfl := hx o1 H1 hp
  obtain ⟨hf, o, H', hV, hm1, hm2, hm3⟩ := kk H1 hp
  exact ⟨o, H', am_callI hd hc hy hret hy1 hlk hi hn hst hc8 hf c1 c2 hm1 hm2 hq hV, Nat.le_trans c1 hm1, Nat.le_trans c2 hm2, hb0.tr0 hm3.1, hm3.2⟩
theorem ae_iconst {n : Int} {v : Int32} (hd : decode M.2.1 pc = .ok (.iconst n, 1)) (hv : Int32.ofInt n = v) (hq : pc + 1 = q) (k : am_EB c ox d M q lv (.int v :: st) H P) : am_EB c ox d M pc lv st H P := by
  obtain ⟨o, H', hV, hm1, hm2, hm3⟩ := k
  exact ⟨o, H', am_iconst hd hv hq hV, hm1, hm2, hm3⟩
theorem ae_bipush {n : Int} {v : Int32} (hd : decode M.2.1 pc = .ok (.bipush n, 2)) (hv : (Int8.ofInt n).toInt32 = v) (hq : pc + 2 = q) (k : am_EB c ox d M q lv (.int v :: st) H P) : am_EB c ox d M pc lv st H P := by
  obtain ⟨o, H', hV, hm1, hm2, hm3⟩ := k
  exact ⟨o, H', am_bipush hd hv hq hV, hm1, hm2, hm3⟩
theorem ae_sipush {n : Int} {v : Int32} (hd : decode M.2.1 pc = .ok (.sipush n, 3)) (hv : (Int16.ofInt n).toInt32 = v) (hq : pc + 3 = q) (k : am_EB c ox d M q lv (.int v :: st) H P) : am_EB c ox d M pc lv st H P := by
  obtain ⟨o, H', hV, hm1, hm2, hm3⟩ := k
  exact ⟨o, H', am_sipush hd hv hq hV, hm1, hm2, hm3⟩
theorem ae_ldc {n : Nat} {v : Int32} (hd : decode M.2.1 pc = .ok (.ldc n, 2)) (hv : Cond.constant M.1 n v ∈ am_words) (hq : pc + 2 = q) (k : am_EB c ox d M q lv (.int v :: st) H P) : am_EB c ox d M pc lv st H P := by
  obtain ⟨o, H', hV, hm1, hm2, hm3⟩ := k
  exact ⟨o, H', am_ldc hd hv hq hV, hm1, hm2, hm3⟩
theorem ae_iload_n {i : Nat} {x : Int32} {w : Fin 4} (hd : decode M.2.1 pc = .ok (.iload_n w, 1)) (hi : (w : Nat) = i) (hl : am_lk i lv = some (.int x)) (hq : pc + 1 = q) (k : am_EB c ox d M q lv (.int x :: st) H P) : am_EB c ox d M pc lv st H P := by
  obtain ⟨o, H', hV, hm1, hm2, hm3⟩ := k
  exact ⟨o, H', am_iload_n hd hi hl hq hV, hm1, hm2, hm3⟩
theorem ae_iload {i : Nat} {x : Int32} (hd : decode M.2.1 pc = .ok (.iload i, 2)) (hl : am_lk i lv = some (.int x)) (hq : pc + 2 = q) (k : am_EB c ox d M q lv (.int x :: st) H P) : am_EB c ox d M pc lv st H P := by
  obtain ⟨o, H', hV, hm1, hm2, hm3⟩ := k
  exact ⟨o, H', am_iload hd hl hq hV, hm1, hm2, hm3⟩
theorem ae_aload_n {i : Nat} {x : Nat} {w : Fin 4} (hd : decode M.2.1 pc = .ok (.aload_n w, 1)) (hi : (w : Nat) = i) (hl : am_lk i lv = some (.ref x)) (hq : pc + 1 = q) (k : am_EB c ox d M q lv (.ref x :: st) H P) : am_EB c ox d M pc lv st H P := by
  obtain ⟨o, H', hV, hm1, hm2, hm3⟩ := k
  exact ⟨o, H', am_aload_n hd hi hl hq hV, hm1, hm2, hm3⟩
theorem ae_aload {i : Nat} {x : Nat} (hd : decode M.2.1 pc = .ok (.aload i, 2)) (hl : am_lk i lv = some (.ref x)) (hq : pc + 2 = q) (k : am_EB c ox d M q lv (.ref x :: st) H P) : am_EB c ox d M pc lv st H P := by
  obtain ⟨o, H', hV, hm1, hm2, hm3⟩ := k
  exact ⟨o, H', am_aload hd hl hq hV, hm1, hm2, hm3⟩
theorem ae_iadd {x y : Int32} (hd : decode M.2.1 pc = .ok (.iadd, 1)) (hq : pc + 1 = q) (k : am_EB c ox d M q lv (.int (x + y) :: st) H P) : am_EB c ox d M pc lv (.int y :: .int x :: st) H P := by
  obtain ⟨o, H', hV, hm1, hm2, hm3⟩ := k
  exact ⟨o, H', am_iadd hd hq hV, hm1, hm2, hm3⟩
theorem ae_isub {x y : Int32} (hd : decode M.2.1 pc = .ok (.isub, 1)) (hq : pc + 1 = q) (k : am_EB c ox d M q lv (.int (x - y) :: st) H P) : am_EB c ox d M pc lv (.int y :: .int x :: st) H P := by
  obtain ⟨o, H', hV, hm1, hm2, hm3⟩ := k
  exact ⟨o, H', am_isub hd hq hV, hm1, hm2, hm3⟩
theorem ae_imul {x y : Int32} (hd : decode M.2.1 pc = .ok (.imul, 1)) (hq : pc + 1 = q) (k : am_EB c ox d M q lv (.int (x * y) :: st) H P) : am_EB c ox d M pc lv (.int y :: .int x :: st) H P := by
  obtain ⟨o, H', hV, hm1, hm2, hm3⟩ := k
  exact ⟨o, H', am_imul hd hq hV, hm1, hm2, hm3⟩
theorem ae_iand {x y : Int32} (hd : decode M.2.1 pc = .ok (.iand, 1)) (hq : pc + 1 = q) (k : am_EB c ox d M q lv (.int (x &&& y) :: st) H P) : am_EB c ox d M pc lv (.int y :: .int x :: st) H P := by
  obtain ⟨o, H', hV, hm1, hm2, hm3⟩ := k
  exact ⟨o, H', am_iand hd hq hV, hm1, hm2, hm3⟩
theorem ae_ior {x y : Int32} (hd : decode M.2.1 pc = .ok (.ior, 1)) (hq : pc + 1 = q) (k : am_EB c ox d M q lv (.int (x ||| y) :: st) H P) : am_EB c ox d M pc lv (.int y :: .int x :: st) H P := by
  obtain ⟨o, H', hV, hm1, hm2, hm3⟩ := k
  exact ⟨o, H', am_ior hd hq hV, hm1, hm2, hm3⟩
theorem ae_ixor {x y : Int32} (hd : decode M.2.1 pc = .ok (.ixor, 1)) (hq : pc + 1 = q) (k : am_EB c ox d M q lv (.int (x ^^^ y) :: st) H P) : am_EB c ox d M pc lv (.int y :: .int x :: st) H P := by
  obtain ⟨o, H', hV, hm1, hm2, hm3⟩ := k
  exact ⟨o, H', am_ixor hd hq hV, hm1, hm2, hm3⟩
theorem ae_idiv {x y : Int32} (hd : decode M.2.1 pc = .ok (.idiv, 1)) (hne : ¬ y = 0) (hq : pc + 1 = q) (k : am_EB c ox d M q lv (.int (x / y) :: st) H P) : am_EB c ox d M pc lv (.int y :: .int x :: st) H P := by
  obtain ⟨o, H', hV, hm1, hm2, hm3⟩ := k
  exact ⟨o, H', am_idiv hd hne hq hV, hm1, hm2, hm3⟩
theorem ae_irem {x y : Int32} (hd : decode M.2.1 pc = .ok (.irem, 1)) (hne : ¬ y = 0) (hq : pc + 1 = q) (k : am_EB c ox d M q lv (.int (x - x / y * y) :: st) H P) : am_EB c ox d M pc lv (.int y :: .int x :: st) H P := by
  obtain ⟨o, H', hV, hm1, hm2, hm3⟩ := k
  exact ⟨o, H', am_irem hd hne hq hV, hm1, hm2, hm3⟩
theorem ae_ineg {x : Int32} (hd : decode M.2.1 pc = .ok (.ineg, 1)) (hq : pc + 1 = q) (k : am_EB c ox d M q lv (.int (-x) :: st) H P) : am_EB c ox d M pc lv (.int x :: st) H P := by
  obtain ⟨o, H', hV, hm1, hm2, hm3⟩ := k
  exact ⟨o, H', am_ineg hd hq hV, hm1, hm2, hm3⟩
theorem ae_ishl {x y : Int32} (hd : decode M.2.1 pc = .ok (.ishl, 1)) (hq : pc + 1 = q) (k : am_EB c ox d M q lv (.int (x <<< (y &&& 31)) :: st) H P) : am_EB c ox d M pc lv (.int y :: .int x :: st) H P := by
  obtain ⟨o, H', hV, hm1, hm2, hm3⟩ := k
  exact ⟨o, H', am_ishl hd hq hV, hm1, hm2, hm3⟩
theorem ae_ishr {x y : Int32} (hd : decode M.2.1 pc = .ok (.ishr, 1)) (hq : pc + 1 = q) (k : am_EB c ox d M q lv (.int (x >>> (y &&& 31)) :: st) H P) : am_EB c ox d M pc lv (.int y :: .int x :: st) H P := by
  obtain ⟨o, H', hV, hm1, hm2, hm3⟩ := k
  exact ⟨o, H', am_ishr hd hq hV, hm1, hm2, hm3⟩
theorem ae_i2l {x : Int32} (hd : decode M.2.1 pc = .ok (.i2l, 1)) (hq : pc + 1 = q) (k : am_EB c ox d M q lv (.long x.toInt64 :: st) H P) : am_EB c ox d M pc lv (.int x :: st) H P := by
  obtain ⟨o, H', hV, hm1, hm2, hm3⟩ := k
  exact ⟨o, H', am_i2l hd hq hV, hm1, hm2, hm3⟩
theorem ae_lcmp {x y : Int64} (hd : decode M.2.1 pc = .ok (.lcmp, 1)) (hq : pc + 1 = q) (k : am_EB c ox d M q lv (.int (lg_cmp x y) :: st) H P) : am_EB c ox d M pc lv (.long y :: .long x :: st) H P := by
  obtain ⟨o, H', hV, hm1, hm2, hm3⟩ := k
  exact ⟨o, H', am_lcmp hd hq hV, hm1, hm2, hm3⟩
theorem ae_dup {a : Value} (hd : decode M.2.1 pc = .ok (.dup, 1)) (ha : a.category = 1) (hq : pc + 1 = q) (k : am_EB c ox d M q lv (a :: a :: st) H P) : am_EB c ox d M pc lv (a :: st) H P := by
  obtain ⟨o, H', hV, hm1, hm2, hm3⟩ := k
  exact ⟨o, H', am_dup hd ha hq hV, hm1, hm2, hm3⟩
theorem ae_pop {a : Value} (hd : decode M.2.1 pc = .ok (.pop, 1)) (ha : a.category = 1) (hq : pc + 1 = q) (k : am_EB c ox d M q lv st H P) : am_EB c ox d M pc lv (a :: st) H P := by
  obtain ⟨o, H', hV, hm1, hm2, hm3⟩ := k
  exact ⟨o, H', am_pop hd ha hq hV, hm1, hm2, hm3⟩
theorem ae_dup_x1 {a b : Value} (hd : decode M.2.1 pc = .ok (.dup_x1, 1)) (ha : a.category = 1) (hb : b.category = 1) (hq : pc + 1 = q) (k : am_EB c ox d M q lv (a :: b :: a :: st) H P) : am_EB c ox d M pc lv (a :: b :: st) H P := by
  obtain ⟨o, H', hV, hm1, hm2, hm3⟩ := k
  exact ⟨o, H', am_dup_x1 hd ha hb hq hV, hm1, hm2, hm3⟩
theorem ae_dup2 {a b : Value} (hd : decode M.2.1 pc = .ok (.dup2, 1)) (ha : a.category = 1) (hb : b.category = 1) (hq : pc + 1 = q) (k : am_EB c ox d M q lv (a :: b :: a :: b :: st) H P) : am_EB c ox d M pc lv (a :: b :: st) H P := by
  obtain ⟨o, H', hV, hm1, hm2, hm3⟩ := k
  exact ⟨o, H', am_dup2 hd ha hb hq hV, hm1, hm2, hm3⟩
theorem ae_goto {off : Int} (hd : decode M.2.1 pc = .ok (.goto off, 3)) (ht : (pc : Int) + off = (q : Int)) (k : am_EB c ox d M q lv st H P) : am_EB c ox d M pc lv st H P := by
  obtain ⟨o, H', hV, hm1, hm2, hm3⟩ := k
  exact ⟨o, H', am_goto hd ht hV, hm1, hm2, hm3⟩
theorem ae_if_eq {x : Int32} {off : Int} {t : Nat} (hd : decode M.2.1 pc = .ok (.ifCond .eq off, 3)) (ht : (pc : Int) + off = (t : Int)) (hq : pc + 3 = q) (kt : x = 0 → am_EB c ox d M t lv st H P) (kf : ¬ x = 0 → am_EB c ox d M q lv st H P) : am_EB c ox d M pc lv (.int x :: st) H P := by
  by_cases hc : x = 0
  · obtain ⟨o, H', hV, hm1, hm2, hm3⟩ := kt hc
    exact ⟨o, H', am_if_eq hd ht hq (fun _ => hV) (fun hn => absurd hc hn), hm1, hm2, hm3⟩
  · obtain ⟨o, H', hV, hm1, hm2, hm3⟩ := kf hc
    exact ⟨o, H', am_if_eq hd ht hq (fun hn => absurd hn hc) (fun _ => hV), hm1, hm2, hm3⟩
theorem ae_icmp_eq {x y : Int32} {off : Int} {t : Nat} (hd : decode M.2.1 pc = .ok (.if_icmp .eq off, 3)) (ht : (pc : Int) + off = (t : Int)) (hq : pc + 3 = q) (kt : x = y → am_EB c ox d M t lv st H P) (kf : ¬ x = y → am_EB c ox d M q lv st H P) : am_EB c ox d M pc lv (.int y :: .int x :: st) H P := by
  by_cases hc : x = y
  · obtain ⟨o, H', hV, hm1, hm2, hm3⟩ := kt hc
    exact ⟨o, H', am_icmp_eq hd ht hq (fun _ => hV) (fun hn => absurd hc hn), hm1, hm2, hm3⟩
  · obtain ⟨o, H', hV, hm1, hm2, hm3⟩ := kf hc
    exact ⟨o, H', am_icmp_eq hd ht hq (fun hn => absurd hn hc) (fun _ => hV), hm1, hm2, hm3⟩
theorem ae_if_ne {x : Int32} {off : Int} {t : Nat} (hd : decode M.2.1 pc = .ok (.ifCond .ne off, 3)) (ht : (pc : Int) + off = (t : Int)) (hq : pc + 3 = q) (kt : ¬ x = 0 → am_EB c ox d M t lv st H P) (kf : x = 0 → am_EB c ox d M q lv st H P) : am_EB c ox d M pc lv (.int x :: st) H P := by
  by_cases hc : ¬ x = 0
  · obtain ⟨o, H', hV, hm1, hm2, hm3⟩ := kt hc
    exact ⟨o, H', am_if_ne hd ht hq (fun _ => hV) (fun hn => absurd hn hc), hm1, hm2, hm3⟩
  · obtain ⟨o, H', hV, hm1, hm2, hm3⟩ := kf (Classical.not_not.mp hc)
    exact ⟨o, H', am_if_ne hd ht hq (fun hn => absurd hn hc) (fun _ => hV), hm1, hm2, hm3⟩
theorem ae_icmp_ne {x y : Int32} {off : Int} {t : Nat} (hd : decode M.2.1 pc = .ok (.if_icmp .ne off, 3)) (ht : (pc : Int) + off = (t : Int)) (hq : pc + 3 = q) (kt : ¬ x = y → am_EB c ox d M t lv st H P) (kf : x = y → am_EB c ox d M q lv st H P) : am_EB c ox d M pc lv (.int y :: .int x :: st) H P := by
  by_cases hc : ¬ x = y
  · obtain ⟨o, H', hV, hm1, hm2, hm3⟩ := kt hc
    exact ⟨o, H', am_icmp_ne hd ht hq (fun _ => hV) (fun hn => absurd hn hc), hm1, hm2, hm3⟩
  · obtain ⟨o, H', hV, hm1, hm2, hm3⟩ := kf (Classical.not_not.mp hc)
    exact ⟨o, H', am_icmp_ne hd ht hq (fun hn => absurd hn hc) (fun _ => hV), hm1, hm2, hm3⟩
theorem ae_if_lt {x : Int32} {off : Int} {t : Nat} (hd : decode M.2.1 pc = .ok (.ifCond .lt off, 3)) (ht : (pc : Int) + off = (t : Int)) (hq : pc + 3 = q) (kt : x < 0 → am_EB c ox d M t lv st H P) (kf : ¬ x < 0 → am_EB c ox d M q lv st H P) : am_EB c ox d M pc lv (.int x :: st) H P := by
  by_cases hc : x < 0
  · obtain ⟨o, H', hV, hm1, hm2, hm3⟩ := kt hc
    exact ⟨o, H', am_if_lt hd ht hq (fun _ => hV) (fun hn => absurd hc hn), hm1, hm2, hm3⟩
  · obtain ⟨o, H', hV, hm1, hm2, hm3⟩ := kf hc
    exact ⟨o, H', am_if_lt hd ht hq (fun hn => absurd hn hc) (fun _ => hV), hm1, hm2, hm3⟩
theorem ae_icmp_lt {x y : Int32} {off : Int} {t : Nat} (hd : decode M.2.1 pc = .ok (.if_icmp .lt off, 3)) (ht : (pc : Int) + off = (t : Int)) (hq : pc + 3 = q) (kt : x < y → am_EB c ox d M t lv st H P) (kf : ¬ x < y → am_EB c ox d M q lv st H P) : am_EB c ox d M pc lv (.int y :: .int x :: st) H P := by
  by_cases hc : x < y
  · obtain ⟨o, H', hV, hm1, hm2, hm3⟩ := kt hc
    exact ⟨o, H', am_icmp_lt hd ht hq (fun _ => hV) (fun hn => absurd hc hn), hm1, hm2, hm3⟩
  · obtain ⟨o, H', hV, hm1, hm2, hm3⟩ := kf hc
    exact ⟨o, H', am_icmp_lt hd ht hq (fun hn => absurd hn hc) (fun _ => hV), hm1, hm2, hm3⟩
theorem ae_if_ge {x : Int32} {off : Int} {t : Nat} (hd : decode M.2.1 pc = .ok (.ifCond .ge off, 3)) (ht : (pc : Int) + off = (t : Int)) (hq : pc + 3 = q) (kt : 0 ≤ x → am_EB c ox d M t lv st H P) (kf : ¬ 0 ≤ x → am_EB c ox d M q lv st H P) : am_EB c ox d M pc lv (.int x :: st) H P := by
  by_cases hc : 0 ≤ x
  · obtain ⟨o, H', hV, hm1, hm2, hm3⟩ := kt hc
    exact ⟨o, H', am_if_ge hd ht hq (fun _ => hV) (fun hn => absurd hc hn), hm1, hm2, hm3⟩
  · obtain ⟨o, H', hV, hm1, hm2, hm3⟩ := kf hc
    exact ⟨o, H', am_if_ge hd ht hq (fun hn => absurd hn hc) (fun _ => hV), hm1, hm2, hm3⟩
theorem ae_icmp_ge {x y : Int32} {off : Int} {t : Nat} (hd : decode M.2.1 pc = .ok (.if_icmp .ge off, 3)) (ht : (pc : Int) + off = (t : Int)) (hq : pc + 3 = q) (kt : y ≤ x → am_EB c ox d M t lv st H P) (kf : ¬ y ≤ x → am_EB c ox d M q lv st H P) : am_EB c ox d M pc lv (.int y :: .int x :: st) H P := by
  by_cases hc : y ≤ x
  · obtain ⟨o, H', hV, hm1, hm2, hm3⟩ := kt hc
    exact ⟨o, H', am_icmp_ge hd ht hq (fun _ => hV) (fun hn => absurd hc hn), hm1, hm2, hm3⟩
  · obtain ⟨o, H', hV, hm1, hm2, hm3⟩ := kf hc
    exact ⟨o, H', am_icmp_ge hd ht hq (fun hn => absurd hn hc) (fun _ => hV), hm1, hm2, hm3⟩
theorem ae_if_gt {x : Int32} {off : Int} {t : Nat} (hd : decode M.2.1 pc = .ok (.ifCond .gt off, 3)) (ht : (pc : Int) + off = (t : Int)) (hq : pc + 3 = q) (kt : 0 < x → am_EB c ox d M t lv st H P) (kf : ¬ 0 < x → am_EB c ox d M q lv st H P) : am_EB c ox d M pc lv (.int x :: st) H P := by
  by_cases hc : 0 < x
  · obtain ⟨o, H', hV, hm1, hm2, hm3⟩ := kt hc
    exact ⟨o, H', am_if_gt hd ht hq (fun _ => hV) (fun hn => absurd hc hn), hm1, hm2, hm3⟩
  · obtain ⟨o, H', hV, hm1, hm2, hm3⟩ := kf hc
    exact ⟨o, H', am_if_gt hd ht hq (fun hn => absurd hn hc) (fun _ => hV), hm1, hm2, hm3⟩
theorem ae_icmp_gt {x y : Int32} {off : Int} {t : Nat} (hd : decode M.2.1 pc = .ok (.if_icmp .gt off, 3)) (ht : (pc : Int) + off = (t : Int)) (hq : pc + 3 = q) (kt : y < x → am_EB c ox d M t lv st H P) (kf : ¬ y < x → am_EB c ox d M q lv st H P) : am_EB c ox d M pc lv (.int y :: .int x :: st) H P := by
  by_cases hc : y < x
  · obtain ⟨o, H', hV, hm1, hm2, hm3⟩ := kt hc
    exact ⟨o, H', am_icmp_gt hd ht hq (fun _ => hV) (fun hn => absurd hc hn), hm1, hm2, hm3⟩
  · obtain ⟨o, H', hV, hm1, hm2, hm3⟩ := kf hc
    exact ⟨o, H', am_icmp_gt hd ht hq (fun hn => absurd hn hc) (fun _ => hV), hm1, hm2, hm3⟩
theorem ae_if_le {x : Int32} {off : Int} {t : Nat} (hd : decode M.2.1 pc = .ok (.ifCond .le off, 3)) (ht : (pc : Int) + off = (t : Int)) (hq : pc + 3 = q) (kt : x ≤ 0 → am_EB c ox d M t lv st H P) (kf : ¬ x ≤ 0 → am_EB c ox d M q lv st H P) : am_EB c ox d M pc lv (.int x :: st) H P := by
  by_cases hc : x ≤ 0
  · obtain ⟨o, H', hV, hm1, hm2, hm3⟩ := kt hc
    exact ⟨o, H', am_if_le hd ht hq (fun _ => hV) (fun hn => absurd hc hn), hm1, hm2, hm3⟩
  · obtain ⟨o, H', hV, hm1, hm2, hm3⟩ := kf hc
    exact ⟨o, H', am_if_le hd ht hq (fun hn => absurd hn hc) (fun _ => hV), hm1, hm2, hm3⟩
theorem ae_icmp_le {x y : Int32} {off : Int} {t : Nat} (hd : decode M.2.1 pc = .ok (.if_icmp .le off, 3)) (ht : (pc : Int) + off = (t : Int)) (hq : pc + 3 = q) (kt : x ≤ y → am_EB c ox d M t lv st H P) (kf : ¬ x ≤ y → am_EB c ox d M q lv st H P) : am_EB c ox d M pc lv (.int y :: .int x :: st) H P := by
  by_cases hc : x ≤ y
  · obtain ⟨o, H', hV, hm1, hm2, hm3⟩ := kt hc
    exact ⟨o, H', am_icmp_le hd ht hq (fun _ => hV) (fun hn => absurd hc hn), hm1, hm2, hm3⟩
  · obtain ⟨o, H', hV, hm1, hm2, hm3⟩ := kf hc
    exact ⟨o, H', am_icmp_le hd ht hq (fun hn => absurd hn hc) (fun _ => hV), hm1, hm2, hm3⟩
theorem ae_istore_n {i : Nat} {x : Int32} {w : Fin 4} {lv' : List (Nat × Value)} (hd : decode M.2.1 pc = .ok (.istore_n w, 1)) (hi : (w : Nat) = i) (hn : i < M.2.2.1) (hl : am_sv i (.int x) lv = lv') (hq : pc + 1 = q) (k : am_EB c ox d M q lv' st H P) : am_EB c ox d M pc lv (.int x :: st) H P := by
  obtain ⟨o, H', hV, hm1, hm2, hm3⟩ := k
  exact ⟨o, H', am_istore_n hd hi hn hl hq hV, hm1, hm2, hm3⟩
theorem ae_istore {i : Nat} {x : Int32} {lv' : List (Nat × Value)} (hd : decode M.2.1 pc = .ok (.istore i, 2)) (hn : i < M.2.2.1) (hl : am_sv i (.int x) lv = lv') (hq : pc + 2 = q) (k : am_EB c ox d M q lv' st H P) : am_EB c ox d M pc lv (.int x :: st) H P := by
  obtain ⟨o, H', hV, hm1, hm2, hm3⟩ := k
  exact ⟨o, H', am_istore hd hn hl hq hV, hm1, hm2, hm3⟩
theorem ae_astore_n {i : Nat} {x : Nat} {w : Fin 4} {lv' : List (Nat × Value)} (hd : decode M.2.1 pc = .ok (.astore_n w, 1)) (hi : (w : Nat) = i) (hn : i < M.2.2.1) (hl : am_sv i (.ref x) lv = lv') (hq : pc + 1 = q) (k : am_EB c ox d M q lv' st H P) : am_EB c ox d M pc lv (.ref x :: st) H P := by
  obtain ⟨o, H', hV, hm1, hm2, hm3⟩ := k
  exact ⟨o, H', am_astore_n hd hi hn hl hq hV, hm1, hm2, hm3⟩
theorem ae_astore {i : Nat} {x : Nat} {lv' : List (Nat × Value)} (hd : decode M.2.1 pc = .ok (.astore i, 2)) (hn : i < M.2.2.1) (hl : am_sv i (.ref x) lv = lv') (hq : pc + 2 = q) (k : am_EB c ox d M q lv' st H P) : am_EB c ox d M pc lv (.ref x :: st) H P := by
  obtain ⟨o, H', hV, hm1, hm2, hm3⟩ := k
  exact ⟨o, H', am_astore hd hn hl hq hV, hm1, hm2, hm3⟩
theorem ae_iinc {i : Nat} {n : Int} {x v : Int32} {lv' : List (Nat × Value)} (hd : decode M.2.1 pc = .ok (.iinc i n, 3)) (hx : am_lk i lv = some (.int x)) (hv : x + Int32.ofInt n = v) (hn : i < M.2.2.1) (hl : am_sv i (.int v) lv = lv') (hq : pc + 3 = q) (k : am_EB c ox d M q lv' st H P) : am_EB c ox d M pc lv st H P := by
  obtain ⟨o, H', hV, hm1, hm2, hm3⟩ := k
  exact ⟨o, H', am_iinc hd hx hv hn hl hq hV, hm1, hm2, hm3⟩
theorem ae_tableIn {dflt lo hi : Int} {offs : Array Int} {len : Nat} {x : Int32} {off : Int} (hd : decode M.2.1 pc = .ok (.tableswitch dflt lo hi offs, len)) (h1 : ¬ x.toInt < lo) (h2 : ¬ hi < x.toInt) (ho : offs[(x.toInt - lo).toNat]? = some off) (ht : (pc : Int) + off = (q : Int)) (k : am_EB c ox d M q lv st H P) : am_EB c ox d M pc lv (.int x :: st) H P := by
  obtain ⟨o, H', hV, hm1, hm2, hm3⟩ := k
  exact ⟨o, H', am_tableIn hd h1 h2 ho ht hV, hm1, hm2, hm3⟩
theorem ae_tableOut {dflt lo hi : Int} {offs : Array Int} {len : Nat} {x : Int32} (hd : decode M.2.1 pc = .ok (.tableswitch dflt lo hi offs, len)) (h : x.toInt < lo ∨ hi < x.toInt) (ht : (pc : Int) + dflt = (q : Int)) (k : am_EB c ox d M q lv st H P) : am_EB c ox d M pc lv (.int x :: st) H P := by
  obtain ⟨o, H', hV, hm1, hm2, hm3⟩ := k
  exact ⟨o, H', am_tableOut hd h ht hV, hm1, hm2, hm3⟩
theorem ae_lookup {dflt : Int} {ps : Array (Int × Int)} {len : Nat} {x : Int32} {off : Int} (hd : decode M.2.1 pc = .ok (.lookupswitch dflt ps, len)) (hsr : (ps.toList.zip (ps.toList.drop 1)).all (fun (a, next) => a.1 < next.1) = true) (ho : Op.lookupswitch.offset ps.toList dflt x.toInt = off) (ht : (pc : Int) + off = (q : Int)) (k : am_EB c ox d M q lv st H P) : am_EB c ox d M pc lv (.int x :: st) H P := by
  obtain ⟨o, H', hV, hm1, hm2, hm3⟩ := k
  exact ⟨o, H', am_lookup hd hsr ho ht hV, hm1, hm2, hm3⟩
theorem ae_getI {idx a ci k : Nat} {ty : FieldType} {fin : Bool} (hd : decode M.2.1 pc = .ok (.getfield idx, 3)) (hf : am_Fl M.1 idx ci k ty fin) (hr : am_isr ci k = false) (hs : am_sh H a = (ci, am_Nf ci)) (ha : a < am_nx H) (hq : pc + 3 = q) (kk : am_EB c ox d M q lv (.int (am_gi H a k) :: st) H P) : am_EB c ox d M pc lv (.ref a :: st) H P := by
  obtain ⟨o, H', hV, hm1, hm2, hm3⟩ := kk
  exact ⟨o, H', am_getI hd hf hr hs ha hq hV, hm1, hm2, hm3⟩
theorem ae_getR {idx a ci k b : Nat} {ty : FieldType} {fin : Bool} (hd : decode M.2.1 pc = .ok (.getfield idx, 3)) (hf : am_Fl M.1 idx ci k ty fin) (hr : am_isr ci k = true) (hs : am_sh H a = (ci, am_Nf ci)) (ha : a < am_nx H) (hb : am_gr H a k = some b) (hq : pc + 3 = q) (kk : am_EB c ox d M q lv (.ref b :: st) H P) : am_EB c ox d M pc lv (.ref a :: st) H P := by
  obtain ⟨o, H', hV, hm1, hm2, hm3⟩ := kk
  exact ⟨o, H', am_getR hd hf hr hs ha hb hq hV, hm1, hm2, hm3⟩
theorem ae_putI {idx a ci k : Nat} {ty : FieldType} {v : Int32} (hd : decode M.2.1 pc = .ok (.putfield idx, 3)) (hf : am_Fl M.1 idx ci k ty false) (hr : am_isr ci k = false) (hn : narrow ty (.int v) = .int v) (hfit : fits ty (.int v) = true) (hs : am_sh H a = (ci, am_Nf ci)) (ha : a < am_nx H) (hq : pc + 3 = q) (kk : am_EB c ox d M q lv st (am_si H a k v) P) : am_EB c ox d M pc lv (.int v :: .ref a :: st) H P := by
  obtain ⟨o, H', hV, hm1, hm2, hm3⟩ := kk
  exact ⟨o, H', am_putI hd hf hr hn hfit hs ha hq hV, hm1, hm2, hm3⟩
theorem ae_putR {idx a ci k b : Nat} {ty : FieldType} (hd : decode M.2.1 pc = .ok (.putfield idx, 3)) (hf : am_Fl M.1 idx ci k ty false) (hr : am_isr ci k = true) (hn : ∀ x, narrow ty (.ref x) = .ref x) (hfit : ∀ x, fits ty (.ref x) = true) (hs : am_sh H a = (ci, am_Nf ci)) (ha : a < am_nx H) (hb : b < am_nx H) (hq : pc + 3 = q) (kk : am_EB c ox d M q lv st (am_sr H a k (some b)) P) : am_EB c ox d M pc lv (.ref b :: .ref a :: st) H P := by
  obtain ⟨o, H', hV, hm1, hm2, hm3⟩ := kk
  exact ⟨o, H', am_putR hd hf hr hn hfit hs ha hb hq hV, hm1, hm2, hm3⟩
theorem ae_putF {idx a ci k b : Nat} {ty : FieldType} (hd : decode M.2.1 pc = .ok (.putfield idx, 3)) (hf : am_Fl M.1 idx ci k ty true) (hr : am_isr ci k = true) (hi : M.2.2.2.2.1 = "<init>") (ho : ∀ r : vw_C, vwCl[ci]? = some r → (r.2.1 k).1 = M.1) (hn : ∀ x, narrow ty (.ref x) = .ref x) (hfit : ∀ x, fits ty (.ref x) = true) (hs : am_sh H a = (ci, am_Nf ci)) (ha : a < am_nx H) (hb : b < am_nx H) (hq : pc + 3 = q) (kk : am_EB c ox d M q lv st (am_sr H a k (some b)) P) : am_EB c ox d M pc lv (.ref b :: .ref a :: st) H P := by
  obtain ⟨o, H', hV, hm1, hm2, hm3⟩ := kk
  exact ⟨o, H', am_putF hd hf hr hi ho hn hfit hs ha hb hq hV, hm1, hm2, hm3⟩
theorem ae_putFI {idx a ci k : Nat} {ty : FieldType} {v : Int32} (hd : decode M.2.1 pc = .ok (.putfield idx, 3)) (hf : am_Fl M.1 idx ci k ty true) (hr : am_isr ci k = false) (hi : M.2.2.2.2.1 = "<init>") (ho : ∀ r : vw_C, vwCl[ci]? = some r → (r.2.1 k).1 = M.1) (hn : narrow ty (.int v) = .int v) (hfit : fits ty (.int v) = true) (hs : am_sh H a = (ci, am_Nf ci)) (ha : a < am_nx H) (hq : pc + 3 = q) (kk : am_EB c ox d M q lv st (am_si H a k v) P) : am_EB c ox d M pc lv (.int v :: .ref a :: st) H P := by
  obtain ⟨o, H', hV, hm1, hm2, hm3⟩ := kk
  exact ⟨o, H', am_putFI hd hf hr hi ho hn hfit hs ha hq hV, hm1, hm2, hm3⟩
theorem ae_iald {a n : Nat} {i : Int32} (hd : decode M.2.1 pc = .ok (.iaload, 1)) (hs : am_sh H a = (100, n)) (ha : a < am_nx H) (hin : vp_in i n) (hq : pc + 1 = q) (kk : am_EB c ox d M q lv (.int (am_gi H a i.toNatClampNeg) :: st) H P) : am_EB c ox d M pc lv (.int i :: .ref a :: st) H P := by
  obtain ⟨o, H', hV, hm1, hm2, hm3⟩ := kk
  exact ⟨o, H', am_iald hd hs ha hin hq hV, hm1, hm2, hm3⟩
theorem ae_zald {a n : Nat} {i : Int32} (hd : decode M.2.1 pc = .ok (.baload, 1)) (hs : am_sh H a = (101, n)) (ha : a < am_nx H) (hin : vp_in i n) (hq : pc + 1 = q) (kk : am_EB c ox d M q lv (.int (am_gi H a i.toNatClampNeg) :: st) H P) : am_EB c ox d M pc lv (.int i :: .ref a :: st) H P := by
  obtain ⟨o, H', hV, hm1, hm2, hm3⟩ := kk
  exact ⟨o, H', am_zald hd hs ha hin hq hV, hm1, hm2, hm3⟩
theorem ae_lald {a n : Nat} {i : Int32} (hd : decode M.2.1 pc = .ok (.laload, 1)) (hs : am_sh H a = (102, n)) (ha : a < am_nx H) (hin : vp_in i n) (hq : pc + 1 = q) (kk : am_EB c ox d M q lv (.long (am_gl H a i.toNatClampNeg) :: st) H P) : am_EB c ox d M pc lv (.int i :: .ref a :: st) H P := by
  obtain ⟨o, H', hV, hm1, hm2, hm3⟩ := kk
  exact ⟨o, H', am_lald hd hs ha hin hq hV, hm1, hm2, hm3⟩
theorem ae_aald {a n k t b : Nat} {Cn : String} {i : Int32} (hd : decode M.2.1 pc = .ok (.aaload, 1)) (hs : am_sh H a = (103 + k, n)) (ht : am_kinds[t]? = some (103 + k, .object Cn)) (ha : a < am_nx H) (hin : vp_in i n) (hb : am_gr H a i.toNatClampNeg = some b) (hq : pc + 1 = q) (kk : am_EB c ox d M q lv (.ref b :: st) H P) : am_EB c ox d M pc lv (.int i :: .ref a :: st) H P := by
  obtain ⟨o, H', hV, hm1, hm2, hm3⟩ := kk
  exact ⟨o, H', am_aald hd hs ht ha hin hb hq hV, hm1, hm2, hm3⟩
theorem ae_iast {a n : Nat} {i x : Int32} (hd : decode M.2.1 pc = .ok (.iastore, 1)) (hs : am_sh H a = (100, n)) (ha : a < am_nx H) (hin : vp_in i n) (hq : pc + 1 = q) (kk : am_EB c ox d M q lv st (am_si H a i.toNatClampNeg x) P) : am_EB c ox d M pc lv (.int x :: .int i :: .ref a :: st) H P := by
  obtain ⟨o, H', hV, hm1, hm2, hm3⟩ := kk
  exact ⟨o, H', am_iast hd hs ha hin hq hV, hm1, hm2, hm3⟩
theorem ae_zast {a n : Nat} {i x : Int32} (hd : decode M.2.1 pc = .ok (.bastore, 1)) (hs : am_sh H a = (101, n)) (ha : a < am_nx H) (hin : vp_in i n) (hx : vp_nar .boolean x = x) (hq : pc + 1 = q) (kk : am_EB c ox d M q lv st (am_si H a i.toNatClampNeg x) P) : am_EB c ox d M pc lv (.int x :: .int i :: .ref a :: st) H P := by
  obtain ⟨o, H', hV, hm1, hm2, hm3⟩ := kk
  exact ⟨o, H', am_zast hd hs ha hin hx hq hV, hm1, hm2, hm3⟩
theorem ae_last {a n : Nat} {i : Int32} {x : Int64} (hd : decode M.2.1 pc = .ok (.lastore, 1)) (hs : am_sh H a = (102, n)) (ha : a < am_nx H) (hin : vp_in i n) (hq : pc + 1 = q) (kk : am_EB c ox d M q lv st (am_sl H a i.toNatClampNeg x) P) : am_EB c ox d M pc lv (.long x :: .int i :: .ref a :: st) H P := by
  obtain ⟨o, H', hV, hm1, hm2, hm3⟩ := kk
  exact ⟨o, H', am_last hd hs ha hin hq hV, hm1, hm2, hm3⟩
theorem ae_aast {a n k t b N : Nat} {r : vw_C} {i : Int32} (hd : decode M.2.1 pc = .ok (.aastore, 1)) (hs : am_sh H a = (103 + k, n)) (hr : vwCl[k]? = some r) (h100 : k < 100) (ht : am_kinds[t]? = some (103 + k, .object r.1)) (ha : a < am_nx H) (hsb : am_sh H b = (k, N)) (hb : b < am_nx H) (hin : vp_in i n) (hq : pc + 1 = q) (kk : am_EB c ox d M q lv st (am_sr H a i.toNatClampNeg (some b)) P) : am_EB c ox d M pc lv (.ref b :: .int i :: .ref a :: st) H P := by
  obtain ⟨o, H', hV, hm1, hm2, hm3⟩ := kk
  exact ⟨o, H', am_aast hd hs hr h100 ht ha hsb hb hin hq hV, hm1, hm2, hm3⟩
theorem ae_alen {a k n t : Nat} {ty : FieldType} {v : Int32} (hd : decode M.2.1 pc = .ok (.arraylength, 1)) (hs : am_sh H a = (k, n)) (hk : 100 ≤ k) (ht : am_kinds[t]? = some (k, ty)) (ha : a < am_nx H) (hv : Int32.ofNat n = v) (hq : pc + 1 = q) (kk : am_EB c ox d M q lv (.int v :: st) H P) : am_EB c ox d M pc lv (.ref a :: st) H P := by
  obtain ⟨o, H', hV, hm1, hm2, hm3⟩ := kk
  exact ⟨o, H', am_alen hd hs hk ht ha hv hq hV, hm1, hm2, hm3⟩
theorem ae_new {idx ci : Nat} (hd : decode M.2.1 pc = .ok (.new idx, 3)) (hc : am_Cn M.1 idx ci) (hst : ∀ v ∈ st, am_ok (am_nx H) v) (hlv : ∀ x ∈ lv, am_ok (am_nx H) x.2) (h6 : am_nx H + 1 ≤ 1000000) (hq : pc + 3 = q) (kk : am_EB c ox d M q lv (.ref (am_nx H) :: st) (am_nw H ci (am_Nf ci)) P) : am_EB c ox d M pc lv st H P := by
  obtain ⟨o, H', hV, hm1, hm2, hm3⟩ := kk
  exact ⟨o, H', am_new hd hc hst hlv h6 hm1 hm2 hq hV, Nat.le_trans (Nat.le_succ _) hm1, Nat.le_trans (Nat.le_add_right _ _) hm2, ⟨hm3.1.nw (am_Nf_le _), hm3.2⟩⟩
theorem ae_newI {n : Int32} {N : Nat} (hd : decode M.2.1 pc = .ok (.newarray .int, 2)) (hw : Cond.arrayClass .int ∈ am_words) (hn : ¬ n < 0) (hN : n.toNatClampNeg = N) (hby : N ≤ 512) (hst : ∀ v ∈ st, am_ok (am_nx H) v) (hlv : ∀ x ∈ lv, am_ok (am_nx H) x.2) (h6 : am_nx H + 1 ≤ 1000000) (hq : pc + 2 = q) (kk : am_EB c ox d M q lv (.ref (am_nx H) :: st) (am_nw H 100 N) P) : am_EB c ox d M pc lv (.int n :: st) H P := by
  obtain ⟨o, H', hV, hm1, hm2, hm3⟩ := kk
  exact ⟨o, H', am_newI hd hw hn hN (Nat.le_trans hby (by decide)) hst hlv h6 hm1 hm2 hq hV, Nat.le_trans (Nat.le_succ _) hm1, Nat.le_trans (Nat.le_add_right _ _) hm2, ⟨hm3.1.nw hby, hm3.2⟩⟩
theorem ae_newZ {n : Int32} {N : Nat} (hd : decode M.2.1 pc = .ok (.newarray .boolean, 2)) (hw : Cond.arrayClass .boolean ∈ am_words) (hn : ¬ n < 0) (hN : n.toNatClampNeg = N) (hby : N ≤ 512) (hst : ∀ v ∈ st, am_ok (am_nx H) v) (hlv : ∀ x ∈ lv, am_ok (am_nx H) x.2) (h6 : am_nx H + 1 ≤ 1000000) (hq : pc + 2 = q) (kk : am_EB c ox d M q lv (.ref (am_nx H) :: st) (am_nw H 101 N) P) : am_EB c ox d M pc lv (.int n :: st) H P := by
  obtain ⟨o, H', hV, hm1, hm2, hm3⟩ := kk
  exact ⟨o, H', am_newZ hd hw hn hN (Nat.le_trans hby (by decide)) hst hlv h6 hm1 hm2 hq hV, Nat.le_trans (Nat.le_succ _) hm1, Nat.le_trans (Nat.le_add_right _ _) hm2, ⟨hm3.1.nw hby, hm3.2⟩⟩
theorem ae_newL {n : Int32} {N : Nat} (hd : decode M.2.1 pc = .ok (.newarray .long, 2)) (hw : Cond.arrayClass .long ∈ am_words) (hn : ¬ n < 0) (hN : n.toNatClampNeg = N) (hby : N ≤ 512) (hst : ∀ v ∈ st, am_ok (am_nx H) v) (hlv : ∀ x ∈ lv, am_ok (am_nx H) x.2) (h6 : am_nx H + 1 ≤ 1000000) (hq : pc + 2 = q) (kk : am_EB c ox d M q lv (.ref (am_nx H) :: st) (am_nw H 102 N) P) : am_EB c ox d M pc lv (.int n :: st) H P := by
  obtain ⟨o, H', hV, hm1, hm2, hm3⟩ := kk
  exact ⟨o, H', am_newL hd hw hn hN (Nat.le_trans hby (by decide)) hst hlv h6 hm1 hm2 hq hV, Nat.le_trans (Nat.le_succ _) hm1, Nat.le_trans (Nat.le_add_right _ _) hm2, ⟨hm3.1.nw hby, hm3.2⟩⟩
theorem ae_newQ {idx k t : Nat} {Cn : String} {n : Int32} {N : Nat} (hd : decode M.2.1 pc = .ok (.anewarray idx, 3)) (hlk : Cond.classLink M.1 idx Cn ∈ am_words) (hov : ∀ (B0 : Nat) (ρ : Nat → Nat) (s : State), am_O ox B0 ρ s → va_AO Cn s) (ht : am_kinds[t]? = some (103 + k, .object Cn)) (hn : ¬ n < 0) (hN : n.toNatClampNeg = N) (hby : N ≤ 512) (hst : ∀ v ∈ st, am_ok (am_nx H) v) (hlv : ∀ x ∈ lv, am_ok (am_nx H) x.2) (h6 : am_nx H + 1 ≤ 1000000) (hq : pc + 3 = q) (kk : am_EB c ox d M q lv (.ref (am_nx H) :: st) (am_nw H (103 + k) N) P) : am_EB c ox d M pc lv (.int n :: st) H P := by
  obtain ⟨o, H', hV, hm1, hm2, hm3⟩ := kk
  exact ⟨o, H', am_newQ hd hlk hov ht hn hN (Nat.le_trans hby (by decide)) hst hlv h6 hm1 hm2 hq hV, Nat.le_trans (Nat.le_succ _) hm1, Nat.le_trans (Nat.le_add_right _ _) hm2, ⟨hm3.1.nw hby, hm3.2⟩⟩
theorem ae_objInit {idx a : Nat} (hd : decode M.2.1 pc = .ok (.invokespecial idx, 3)) (hd1 : 1 ≤ d) (h1 : Cond.methodLink M.1 idx Lib.objectInit ∈ am_words) (h2 : Cond.instanceMethod Lib.objectInit ∈ am_words) (h3 : Cond.code Lib.objectInit ⟨#[0xb1]⟩ 1 none ∈ am_words) (hc8 : (st.map fun v => v.category).sum ≤ 8) (hq : pc + 3 = q) (kk : am_EB c ox d M q lv st H P) : am_EB c ox d M pc lv (.ref a :: st) H P := by
  obtain ⟨o, H', hV, hm1, hm2, hm3⟩ := kk
  exact ⟨o, H', am_objInit hd hd1 h1 h2 h3 hc8 hq hV, hm1, hm2, hm3⟩
theorem ae_iret {v : Int32} {ty : FieldType} (hd : decode M.2.1 pc = .ok (.ireturn, 1)) (ht : M.2.2.2.1 = some ty) (hn : narrow ty (.int v) = .int v) (hP : P (.inl (some (.int v))) H) : am_EB c ox d M pc lv [.int v] H P := ⟨_, _, am_iret hd ht hn, Nat.le_refl _, Nat.le_refl _, am_Ac.rf, hP⟩
theorem ae_aret {b : Nat} {ty : FieldType} (hd : decode M.2.1 pc = .ok (.areturn, 1)) (ht : M.2.2.2.1 = some ty) (hr : (∃ n, ty = .object n) ∨ ∃ t, ty = .array t) (hP : P (.inl (some (.ref b))) H) : am_EB c ox d M pc lv [.ref b] H P := ⟨_, _, am_aret hd ht hr, Nat.le_refl _, Nat.le_refl _, am_Ac.rf, hP⟩
theorem ae_vret (hd : decode M.2.1 pc = .ok (.return_, 1)) (ht : M.2.2.2.1 = none) (hP : P (.inl none) H) : am_EB c ox d M pc lv [] H P := ⟨_, _, am_vret hd ht, Nat.le_refl _, Nat.le_refl _, am_Ac.rf, hP⟩
theorem ae_sld {i : Nat} {r : Nat × (Nat → Int32)} {x : Int32} (hd : decode M.2.1 pc = .ok (.iaload, 1)) (ho : ox[i]? = some r) (hin : vp_in x r.1) (hq : pc + 1 = q) (kk : am_EB c ox d M q lv (.int (r.2 x.toNatClampNeg) :: st) H P) : am_EB c ox d M pc lv (.int x :: .ref (1000000 + i) :: st) H P := by
  obtain ⟨o, H', hV, hm1, hm2, hm3⟩ := kk
  exact ⟨o, H', am_sld hd ho hin hq hV, hm1, hm2, hm3⟩
theorem ae_slen {i : Nat} {r : Nat × (Nat → Int32)} (hd : decode M.2.1 pc = .ok (.arraylength, 1)) (ho : ox[i]? = some r) (hq : pc + 1 = q) (kk : am_EB c ox d M q lv (.int (nI r.1) :: st) H P) : am_EB c ox d M pc lv (.ref (1000000 + i) :: st) H P := by
  obtain ⟨o, H', hV, hm1, hm2, hm3⟩ := kk
  exact ⟨o, H', am_slen hd ho hq hV, hm1, hm2, hm3⟩
theorem ae_gets {Cn n ds : String} {i idx : Nat} (hd : decode M.2.1 pc = .ok (.getstatic idx, 3)) (hz : (Cn, n, ds, i) ∈ am_sts) (hlk : Cond.fieldLink M.1 idx Cn n ds ∈ am_words) (hq : pc + 3 = q) (kk : am_EB c ox d M q lv (.ref (1000000 + i) :: st) H P) : am_EB c ox d M pc lv st H P := by
  obtain ⟨o, H', hV, hm1, hm2, hm3⟩ := kk
  exact ⟨o, H', am_gets hd hz hlk hq hV, hm1, hm2, hm3⟩
theorem ae_mmax {idx : Nat} {x y : Int32} (hd : decode M.2.1 pc = .ok (.invokestatic idx, 3)) (hd1 : 1 ≤ d) (hlk : Cond.methodLink M.1 idx Lib.Math.max.name ∈ am_words) (hst : Cond.static Lib.Math.max.name ∈ am_words) (hini : Cond.initialized "java/lang/Math" ∈ am_words) (hcd : Cond.code Lib.Math.max.name Lib.Math.max.code 2 (some .int) ∈ am_words) (hc8 : (st.map fun v => v.category).sum ≤ 8) (hq : pc + 3 = q) (kk : am_EB c ox d M q lv (.int (if x < y then y else x) :: st) H P) : am_EB c ox d M pc lv (.int y :: .int x :: st) H P := by
  obtain ⟨o, H', hV, hm1, hm2, hm3⟩ := kk
  exact ⟨o, H', am_mmax hd hd1 hlk hst hini hcd hc8 hm1 hm2 hq hV, hm1, hm2, hm3⟩
theorem ae_mmin {idx : Nat} {x y : Int32} (hd : decode M.2.1 pc = .ok (.invokestatic idx, 3)) (hd1 : 1 ≤ d) (hlk : Cond.methodLink M.1 idx Lib.Math.min.name ∈ am_words) (hst : Cond.static Lib.Math.min.name ∈ am_words) (hini : Cond.initialized "java/lang/Math" ∈ am_words) (hcd : Cond.code Lib.Math.min.name Lib.Math.min.code 2 (some .int) ∈ am_words) (hc8 : (st.map fun v => v.category).sum ≤ 8) (hq : pc + 3 = q) (kk : am_EB c ox d M q lv (.int (if y < x then y else x) :: st) H P) : am_EB c ox d M pc lv (.int y :: .int x :: st) H P := by
  obtain ⟨o, H', hV, hm1, hm2, hm3⟩ := kk
  exact ⟨o, H', am_mmin hd hd1 hlk hst hini hcd hc8 hm1 hm2 hq hV, hm1, hm2, hm3⟩
theorem ae_copyi {idx a a0 n n0' : Nat} {sp dp cn : Int32} (hd : decode M.2.1 pc = .ok (.invokestatic idx, 3)) (hd1 : 1 ≤ d) (hlk : Cond.methodLink M.1 idx arraycopyName ∈ am_words) (hnat : Cond.native arraycopyName ∈ am_words) (hst : Cond.static arraycopyName ∈ am_words) (hini : Cond.initialized "java/lang/System" ∈ am_words) (hs0 : am_sh H a0 = (100, n0')) (hs : am_sh H a = (100, n)) (ha0 : a0 < am_nx H) (ha : a < am_nx H) (h1 : ¬ sp < 0) (h2 : ¬ dp < 0) (h3 : ¬ cn < 0) (h4 : sp.toNatClampNeg + cn.toNatClampNeg ≤ n0') (h5 : dp.toNatClampNeg + cn.toNatClampNeg ≤ n) (hc8 : (st.map fun v => v.category).sum ≤ 8) (hq : pc + 3 = q) (kk : am_EB c ox d M q lv st (am_sf H a (va_cpy (am_gi H a0) (am_gi H a) sp.toNatClampNeg dp.toNatClampNeg cn.toNatClampNeg)) P) : am_EB c ox d M pc lv (.int cn :: .int dp :: .ref a :: .int sp :: .ref a0 :: st) H P := by
  obtain ⟨o, H', hV, hm1, hm2, hm3⟩ := kk
  exact ⟨o, H', am_copyi hd hd1 hlk hnat hst hini hs0 hs ha0 ha h1 h2 h3 h4 h5 hc8 hq hV, hm1, hm2, hm3⟩
end AME
