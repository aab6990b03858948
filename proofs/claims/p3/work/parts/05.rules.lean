section AMR
variable {ox : List (Nat × (Nat → Int32))} {d : Nat} {M : am_M} {pc q : Nat} {lv : List (Nat × Value)} {st : List Value} {H H' : am_H} {o : Option Value ⊕ String}
theorem am_iconst {n : Int} {v : Int32} (hd : decode M.2.1 pc = .ok (.iconst n, 1)) (hv : Int32.ofInt n = v) (hq : pc + 1 = q) (k : am_V ox d M q lv (.int v :: st) H o H') : am_V ox d M pc lv st H o H' := by
  subst hq
  intro l p e R s m args below meth c dC dI τ B0 ρ0 nx0 n0 z0 C ρ hp locs cells slots ls S
  exact lv_iconst C.1 C.2.1 hd hv (k l p e R s m args below meth c dC dI τ B0 ρ0 nx0 n0 z0 C ρ hp locs cells slots ls S)
theorem am_bipush {n : Int} {v : Int32} (hd : decode M.2.1 pc = .ok (.bipush n, 2)) (hv : (Int8.ofInt n).toInt32 = v) (hq : pc + 2 = q) (k : am_V ox d M q lv (.int v :: st) H o H') : am_V ox d M pc lv st H o H' := by
  subst hq
  intro l p e R s m args below meth c dC dI τ B0 ρ0 nx0 n0 z0 C ρ hp locs cells slots ls S
  exact lv_bipush C.1 C.2.1 hd hv (k l p e R s m args below meth c dC dI τ B0 ρ0 nx0 n0 z0 C ρ hp locs cells slots ls S)
theorem am_sipush {n : Int} {v : Int32} (hd : decode M.2.1 pc = .ok (.sipush n, 3)) (hv : (Int16.ofInt n).toInt32 = v) (hq : pc + 3 = q) (k : am_V ox d M q lv (.int v :: st) H o H') : am_V ox d M pc lv st H o H' := by
  subst hq
  intro l p e R s m args below meth c dC dI τ B0 ρ0 nx0 n0 z0 C ρ hp locs cells slots ls S
  exact lv_sipush C.1 C.2.1 hd hv (k l p e R s m args below meth c dC dI τ B0 ρ0 nx0 n0 z0 C ρ hp locs cells slots ls S)
theorem am_ldc {n : Nat} {v : Int32} (hd : decode M.2.1 pc = .ok (.ldc n, 2)) (hv : Cond.constant M.1 n v ∈ am_words) (hq : pc + 2 = q) (k : am_V ox d M q lv (.int v :: st) H o H') : am_V ox d M pc lv st H o H' := by
  subst hq
  intro l p e R s m args below meth c dC dI τ B0 ρ0 nx0 n0 z0 C ρ hp locs cells slots ls S
  exact lv_ldc C.1 C.2.1 C.2.2.2.2.1 (C.2.2.2.2.2.1 _ hv) hd (k l p e R s m args below meth c dC dI τ B0 ρ0 nx0 n0 z0 C ρ hp locs cells slots ls S)
theorem am_iload_n {i : Nat} {x : Int32} {w : Fin 4} (hd : decode M.2.1 pc = .ok (.iload_n w, 1)) (hi : (w : Nat) = i) (hl : am_lk i lv = some (.int x)) (hq : pc + 1 = q) (k : am_V ox d M q lv (.int x :: st) H o H') : am_V ox d M pc lv st H o H' := by
  subst hq
  intro l p e R s m args below meth c dC dI τ B0 ρ0 nx0 n0 z0 C ρ hp locs cells slots ls S
  exact lv_iload_n C.1 C.2.1 hd hi (am_lk_at S.2.2.2.2.2 hl) (k l p e R s m args below meth c dC dI τ B0 ρ0 nx0 n0 z0 C ρ hp locs cells slots ls S)
theorem am_iload {i : Nat} {x : Int32} (hd : decode M.2.1 pc = .ok (.iload i, 2)) (hl : am_lk i lv = some (.int x)) (hq : pc + 2 = q) (k : am_V ox d M q lv (.int x :: st) H o H') : am_V ox d M pc lv st H o H' := by
  subst hq
  intro l p e R s m args below meth c dC dI τ B0 ρ0 nx0 n0 z0 C ρ hp locs cells slots ls S
  exact lv_iload C.1 C.2.1 hd (am_lk_at S.2.2.2.2.2 hl) (k l p e R s m args below meth c dC dI τ B0 ρ0 nx0 n0 z0 C ρ hp locs cells slots ls S)
theorem am_aload_n {i : Nat} {x : Nat} {w : Fin 4} (hd : decode M.2.1 pc = .ok (.aload_n w, 1)) (hi : (w : Nat) = i) (hl : am_lk i lv = some (.ref x)) (hq : pc + 1 = q) (k : am_V ox d M q lv (.ref x :: st) H o H') : am_V ox d M pc lv st H o H' := by
  subst hq
  intro l p e R s m args below meth c dC dI τ B0 ρ0 nx0 n0 z0 C ρ hp locs cells slots ls S
  exact lv_aload_n C.1 C.2.1 hd hi (am_lk_at S.2.2.2.2.2 hl) (k l p e R s m args below meth c dC dI τ B0 ρ0 nx0 n0 z0 C ρ hp locs cells slots ls S)
theorem am_aload {i : Nat} {x : Nat} (hd : decode M.2.1 pc = .ok (.aload i, 2)) (hl : am_lk i lv = some (.ref x)) (hq : pc + 2 = q) (k : am_V ox d M q lv (.ref x :: st) H o H') : am_V ox d M pc lv st H o H' := by
  subst hq
  intro l p e R s m args below meth c dC dI τ B0 ρ0 nx0 n0 z0 C ρ hp locs cells slots ls S
  exact lv_aload C.1 C.2.1 hd (am_lk_at S.2.2.2.2.2 hl) (k l p e R s m args below meth c dC dI τ B0 ρ0 nx0 n0 z0 C ρ hp locs cells slots ls S)
theorem am_iadd {x y : Int32} (hd : decode M.2.1 pc = .ok (.iadd, 1))  (hq : pc + 1 = q) (k : am_V ox d M q lv (.int (x + y) :: st) H o H') : am_V ox d M pc lv (.int y :: .int x :: st) H o H' := by
  subst hq
  intro l p e R s m args below meth c dC dI τ B0 ρ0 nx0 n0 z0 C ρ hp locs cells slots ls S
  exact lv_iadd C.1 C.2.1 hd (k l p e R s m args below meth c dC dI τ B0 ρ0 nx0 n0 z0 C ρ hp locs cells slots ls S)
theorem am_isub {x y : Int32} (hd : decode M.2.1 pc = .ok (.isub, 1))  (hq : pc + 1 = q) (k : am_V ox d M q lv (.int (x - y) :: st) H o H') : am_V ox d M pc lv (.int y :: .int x :: st) H o H' := by
  subst hq
  intro l p e R s m args below meth c dC dI τ B0 ρ0 nx0 n0 z0 C ρ hp locs cells slots ls S
  exact lv_isub C.1 C.2.1 hd (k l p e R s m args below meth c dC dI τ B0 ρ0 nx0 n0 z0 C ρ hp locs cells slots ls S)
theorem am_imul {x y : Int32} (hd : decode M.2.1 pc = .ok (.imul, 1))  (hq : pc + 1 = q) (k : am_V ox d M q lv (.int (x * y) :: st) H o H') : am_V ox d M pc lv (.int y :: .int x :: st) H o H' := by
  subst hq
  intro l p e R s m args below meth c dC dI τ B0 ρ0 nx0 n0 z0 C ρ hp locs cells slots ls S
  exact lv_imul C.1 C.2.1 hd (k l p e R s m args below meth c dC dI τ B0 ρ0 nx0 n0 z0 C ρ hp locs cells slots ls S)
theorem am_iand {x y : Int32} (hd : decode M.2.1 pc = .ok (.iand, 1))  (hq : pc + 1 = q) (k : am_V ox d M q lv (.int (x &&& y) :: st) H o H') : am_V ox d M pc lv (.int y :: .int x :: st) H o H' := by
  subst hq
  intro l p e R s m args below meth c dC dI τ B0 ρ0 nx0 n0 z0 C ρ hp locs cells slots ls S
  exact lv_iand C.1 C.2.1 hd (k l p e R s m args below meth c dC dI τ B0 ρ0 nx0 n0 z0 C ρ hp locs cells slots ls S)
theorem am_ior {x y : Int32} (hd : decode M.2.1 pc = .ok (.ior, 1))  (hq : pc + 1 = q) (k : am_V ox d M q lv (.int (x ||| y) :: st) H o H') : am_V ox d M pc lv (.int y :: .int x :: st) H o H' := by
  subst hq
  intro l p e R s m args below meth c dC dI τ B0 ρ0 nx0 n0 z0 C ρ hp locs cells slots ls S
  exact lv_ior C.1 C.2.1 hd (k l p e R s m args below meth c dC dI τ B0 ρ0 nx0 n0 z0 C ρ hp locs cells slots ls S)
theorem am_ixor {x y : Int32} (hd : decode M.2.1 pc = .ok (.ixor, 1))  (hq : pc + 1 = q) (k : am_V ox d M q lv (.int (x ^^^ y) :: st) H o H') : am_V ox d M pc lv (.int y :: .int x :: st) H o H' := by
  subst hq
  intro l p e R s m args below meth c dC dI τ B0 ρ0 nx0 n0 z0 C ρ hp locs cells slots ls S
  exact lv_ixor C.1 C.2.1 hd (k l p e R s m args below meth c dC dI τ B0 ρ0 nx0 n0 z0 C ρ hp locs cells slots ls S)
theorem am_idiv {x y : Int32} (hd : decode M.2.1 pc = .ok (.idiv, 1)) (hne : ¬ y = 0) (hq : pc + 1 = q) (k : am_V ox d M q lv (.int (x / y) :: st) H o H') : am_V ox d M pc lv (.int y :: .int x :: st) H o H' := by
  subst hq
  intro l p e R s m args below meth c dC dI τ B0 ρ0 nx0 n0 z0 C ρ hp locs cells slots ls S
  exact lv_idiv C.1 C.2.1 hd hne (k l p e R s m args below meth c dC dI τ B0 ρ0 nx0 n0 z0 C ρ hp locs cells slots ls S)
theorem am_irem {x y : Int32} (hd : decode M.2.1 pc = .ok (.irem, 1)) (hne : ¬ y = 0) (hq : pc + 1 = q) (k : am_V ox d M q lv (.int (x - x / y * y) :: st) H o H') : am_V ox d M pc lv (.int y :: .int x :: st) H o H' := by
  subst hq
  intro l p e R s m args below meth c dC dI τ B0 ρ0 nx0 n0 z0 C ρ hp locs cells slots ls S
  exact lv_irem C.1 C.2.1 hd hne (k l p e R s m args below meth c dC dI τ B0 ρ0 nx0 n0 z0 C ρ hp locs cells slots ls S)
theorem am_ineg {x : Int32} (hd : decode M.2.1 pc = .ok (.ineg, 1))  (hq : pc + 1 = q) (k : am_V ox d M q lv (.int (-x) :: st) H o H') : am_V ox d M pc lv (.int x :: st) H o H' := by
  subst hq
  intro l p e R s m args below meth c dC dI τ B0 ρ0 nx0 n0 z0 C ρ hp locs cells slots ls S
  exact lv_ineg C.1 C.2.1 hd (k l p e R s m args below meth c dC dI τ B0 ρ0 nx0 n0 z0 C ρ hp locs cells slots ls S)
theorem am_ishl {x y : Int32} (hd : decode M.2.1 pc = .ok (.ishl, 1))  (hq : pc + 1 = q) (k : am_V ox d M q lv (.int (x <<< (y &&& 31)) :: st) H o H') : am_V ox d M pc lv (.int y :: .int x :: st) H o H' := by
  subst hq
  intro l p e R s m args below meth c dC dI τ B0 ρ0 nx0 n0 z0 C ρ hp locs cells slots ls S
  exact lv_ishl C.1 C.2.1 hd (k l p e R s m args below meth c dC dI τ B0 ρ0 nx0 n0 z0 C ρ hp locs cells slots ls S)
theorem am_ishr {x y : Int32} (hd : decode M.2.1 pc = .ok (.ishr, 1))  (hq : pc + 1 = q) (k : am_V ox d M q lv (.int (x >>> (y &&& 31)) :: st) H o H') : am_V ox d M pc lv (.int y :: .int x :: st) H o H' := by
  subst hq
  intro l p e R s m args below meth c dC dI τ B0 ρ0 nx0 n0 z0 C ρ hp locs cells slots ls S
  exact lv_ishr C.1 C.2.1 hd (k l p e R s m args below meth c dC dI τ B0 ρ0 nx0 n0 z0 C ρ hp locs cells slots ls S)
theorem am_i2l {x : Int32} (hd : decode M.2.1 pc = .ok (.i2l, 1))  (hq : pc + 1 = q) (k : am_V ox d M q lv (.long x.toInt64 :: st) H o H') : am_V ox d M pc lv (.int x :: st) H o H' := by
  subst hq
  intro l p e R s m args below meth c dC dI τ B0 ρ0 nx0 n0 z0 C ρ hp locs cells slots ls S
  exact lv_i2l C.1 C.2.1 hd rfl (k l p e R s m args below meth c dC dI τ B0 ρ0 nx0 n0 z0 C ρ hp locs cells slots ls S)
theorem am_lcmp {x y : Int64} (hd : decode M.2.1 pc = .ok (.lcmp, 1))  (hq : pc + 1 = q) (k : am_V ox d M q lv (.int (lg_cmp x y) :: st) H o H') : am_V ox d M pc lv (.long y :: .long x :: st) H o H' := by
  subst hq
  intro l p e R s m args below meth c dC dI τ B0 ρ0 nx0 n0 z0 C ρ hp locs cells slots ls S
  exact W.lcmp C.1 C.2.1 hd (k l p e R s m args below meth c dC dI τ B0 ρ0 nx0 n0 z0 C ρ hp locs cells slots ls S)
theorem am_dup {a : Value} (hd : decode M.2.1 pc = .ok (.dup, 1)) (ha : a.category = 1) (hq : pc + 1 = q) (k : am_V ox d M q lv (a :: a :: st) H o H') : am_V ox d M pc lv (a :: st) H o H' := by
  subst hq
  intro l p e R s m args below meth c dC dI τ B0 ρ0 nx0 n0 z0 C ρ hp locs cells slots ls S
  exact lv_dup C.1 C.2.1 hd (by rw [am_cv_cat]; exact ha) (k l p e R s m args below meth c dC dI τ B0 ρ0 nx0 n0 z0 C ρ hp locs cells slots ls S)
theorem am_pop {a : Value} (hd : decode M.2.1 pc = .ok (.pop, 1)) (ha : a.category = 1) (hq : pc + 1 = q) (k : am_V ox d M q lv st H o H') : am_V ox d M pc lv (a :: st) H o H' := by
  subst hq
  intro l p e R s m args below meth c dC dI τ B0 ρ0 nx0 n0 z0 C ρ hp locs cells slots ls S
  exact lv_pop C.1 C.2.1 hd (by rw [am_cv_cat]; exact ha) (k l p e R s m args below meth c dC dI τ B0 ρ0 nx0 n0 z0 C ρ hp locs cells slots ls S)
theorem am_dup_x1 {a b : Value} (hd : decode M.2.1 pc = .ok (.dup_x1, 1)) (ha : a.category = 1) (hb : b.category = 1) (hq : pc + 1 = q) (k : am_V ox d M q lv (a :: b :: a :: st) H o H') : am_V ox d M pc lv (a :: b :: st) H o H' := by
  subst hq
  intro l p e R s m args below meth c dC dI τ B0 ρ0 nx0 n0 z0 C ρ hp locs cells slots ls S
  exact lv_dup_x1 C.1 C.2.1 hd (by rw [am_cv_cat]; exact ha) (by rw [am_cv_cat]; exact hb) (k l p e R s m args below meth c dC dI τ B0 ρ0 nx0 n0 z0 C ρ hp locs cells slots ls S)
theorem am_dup2 {a b : Value} (hd : decode M.2.1 pc = .ok (.dup2, 1)) (ha : a.category = 1) (hb : b.category = 1) (hq : pc + 1 = q) (k : am_V ox d M q lv (a :: b :: a :: b :: st) H o H') : am_V ox d M pc lv (a :: b :: st) H o H' := by
  subst hq
  intro l p e R s m args below meth c dC dI τ B0 ρ0 nx0 n0 z0 C ρ hp locs cells slots ls S
  exact lv_dup2_11 C.1 C.2.1 hd (by rw [am_cv_cat]; exact ha) (by rw [am_cv_cat]; exact hb) (k l p e R s m args below meth c dC dI τ B0 ρ0 nx0 n0 z0 C ρ hp locs cells slots ls S)
theorem am_goto {off : Int} (hd : decode M.2.1 pc = .ok (.goto off, 3)) (ht : (pc : Int) + off = (q : Int)) (k : am_V ox d M q lv st H o H') : am_V ox d M pc lv st H o H' := by
  intro l p e R s m args below meth c dC dI τ B0 ρ0 nx0 n0 z0 C ρ hp locs cells slots ls S
  exact lv_goto C.1 C.2.1 hd ht (k l p e R s m args below meth c dC dI τ B0 ρ0 nx0 n0 z0 C ρ hp locs cells slots ls S)
theorem am_if_eq {x : Int32} {off : Int} {t : Nat} (hd : decode M.2.1 pc = .ok (.ifCond .eq off, 3)) (ht : (pc : Int) + off = (t : Int)) (hq : pc + 3 = q) (kt : x = 0 → am_V ox d M t lv st H o H') (kf : ¬ x = 0 → am_V ox d M q lv st H o H') : am_V ox d M pc lv (.int x :: st) H o H' := by
  subst hq
  intro l p e R s m args below meth c dC dI τ B0 ρ0 nx0 n0 z0 C ρ hp locs cells slots ls S
  exact lv_if_eq C.1 C.2.1 hd ht (fun h => kt h l p e R s m args below meth c dC dI τ B0 ρ0 nx0 n0 z0 C ρ hp locs cells slots ls S) (fun h => kf h l p e R s m args below meth c dC dI τ B0 ρ0 nx0 n0 z0 C ρ hp locs cells slots ls S)
theorem am_icmp_eq {x y : Int32} {off : Int} {t : Nat} (hd : decode M.2.1 pc = .ok (.if_icmp .eq off, 3)) (ht : (pc : Int) + off = (t : Int)) (hq : pc + 3 = q) (kt : x = y → am_V ox d M t lv st H o H') (kf : ¬ x = y → am_V ox d M q lv st H o H') : am_V ox d M pc lv (.int y :: .int x :: st) H o H' := by
  subst hq
  intro l p e R s m args below meth c dC dI τ B0 ρ0 nx0 n0 z0 C ρ hp locs cells slots ls S
  exact lv_icmp_eq C.1 C.2.1 hd ht (fun h => kt h l p e R s m args below meth c dC dI τ B0 ρ0 nx0 n0 z0 C ρ hp locs cells slots ls S) (fun h => kf h l p e R s m args below meth c dC dI τ B0 ρ0 nx0 n0 z0 C ρ hp locs cells slots ls S)
theorem am_if_ne {x : Int32} {off : Int} {t : Nat} (hd : decode M.2.1 pc = .ok (.ifCond .ne off, 3)) (ht : (pc : Int) + off = (t : Int)) (hq : pc + 3 = q) (kt : ¬ x = 0 → am_V ox d M t lv st H o H') (kf : x = 0 → am_V ox d M q lv st H o H') : am_V ox d M pc lv (.int x :: st) H o H' := by
  subst hq
  intro l p e R s m args below meth c dC dI τ B0 ρ0 nx0 n0 z0 C ρ hp locs cells slots ls S
  exact lv_if_ne C.1 C.2.1 hd ht (fun h => kt h l p e R s m args below meth c dC dI τ B0 ρ0 nx0 n0 z0 C ρ hp locs cells slots ls S) (fun h => kf h l p e R s m args below meth c dC dI τ B0 ρ0 nx0 n0 z0 C ρ hp locs cells slots ls S)
theorem am_icmp_ne {x y : Int32} {off : Int} {t : Nat} (hd : decode M.2.1 pc = .ok (.if_icmp .ne off, 3)) (ht : (pc : Int) + off = (t : Int)) (hq : pc + 3 = q) (kt : ¬ x = y → am_V ox d M t lv st H o H') (kf : x = y → am_V ox d M q lv st H o H') : am_V ox d M pc lv (.int y :: .int x :: st) H o H' := by
  subst hq
  intro l p e R s m args below meth c dC dI τ B0 ρ0 nx0 n0 z0 C ρ hp locs cells slots ls S
  exact lv_icmp_ne C.1 C.2.1 hd ht (fun h => kt h l p e R s m args below meth c dC dI τ B0 ρ0 nx0 n0 z0 C ρ hp locs cells slots ls S) (fun h => kf h l p e R s m args below meth c dC dI τ B0 ρ0 nx0 n0 z0 C ρ hp locs cells slots ls S)
theorem am_if_lt {x : Int32} {off : Int} {t : Nat} (hd : decode M.2.1 pc = .ok (.ifCond .lt off, 3)) (ht : (pc : Int) + off = (t : Int)) (hq : pc + 3 = q) (kt : x < 0 → am_V ox d M t lv st H o H') (kf : ¬ x < 0 → am_V ox d M q lv st H o H') : am_V ox d M pc lv (.int x :: st) H o H' := by
  subst hq
  intro l p e R s m args below meth c dC dI τ B0 ρ0 nx0 n0 z0 C ρ hp locs cells slots ls S
  exact lv_if_lt C.1 C.2.1 hd ht (fun h => kt h l p e R s m args below meth c dC dI τ B0 ρ0 nx0 n0 z0 C ρ hp locs cells slots ls S) (fun h => kf h l p e R s m args below meth c dC dI τ B0 ρ0 nx0 n0 z0 C ρ hp locs cells slots ls S)
theorem am_icmp_lt {x y : Int32} {off : Int} {t : Nat} (hd : decode M.2.1 pc = .ok (.if_icmp .lt off, 3)) (ht : (pc : Int) + off = (t : Int)) (hq : pc + 3 = q) (kt : x < y → am_V ox d M t lv st H o H') (kf : ¬ x < y → am_V ox d M q lv st H o H') : am_V ox d M pc lv (.int y :: .int x :: st) H o H' := by
  subst hq
  intro l p e R s m args below meth c dC dI τ B0 ρ0 nx0 n0 z0 C ρ hp locs cells slots ls S
  exact lv_icmp_lt C.1 C.2.1 hd ht (fun h => kt h l p e R s m args below meth c dC dI τ B0 ρ0 nx0 n0 z0 C ρ hp locs cells slots ls S) (fun h => kf h l p e R s m args below meth c dC dI τ B0 ρ0 nx0 n0 z0 C ρ hp locs cells slots ls S)
theorem am_if_ge {x : Int32} {off : Int} {t : Nat} (hd : decode M.2.1 pc = .ok (.ifCond .ge off, 3)) (ht : (pc : Int) + off = (t : Int)) (hq : pc + 3 = q) (kt : 0 ≤ x → am_V ox d M t lv st H o H') (kf : ¬ 0 ≤ x → am_V ox d M q lv st H o H') : am_V ox d M pc lv (.int x :: st) H o H' := by
  subst hq
  intro l p e R s m args below meth c dC dI τ B0 ρ0 nx0 n0 z0 C ρ hp locs cells slots ls S
  exact lv_if_ge C.1 C.2.1 hd ht (fun h => kt h l p e R s m args below meth c dC dI τ B0 ρ0 nx0 n0 z0 C ρ hp locs cells slots ls S) (fun h => kf h l p e R s m args below meth c dC dI τ B0 ρ0 nx0 n0 z0 C ρ hp locs cells slots ls S)
theorem am_icmp_ge {x y : Int32} {off : Int} {t : Nat} (hd : decode M.2.1 pc = .ok (.if_icmp .ge off, 3)) (ht : (pc : Int) + off = (t : Int)) (hq : pc + 3 = q) (kt : y ≤ x → am_V ox d M t lv st H o H') (kf : ¬ y ≤ x → am_V ox d M q lv st H o H') : am_V ox d M pc lv (.int y :: .int x :: st) H o H' := by
  subst hq
  intro l p e R s m args below meth c dC dI τ B0 ρ0 nx0 n0 z0 C ρ hp locs cells slots ls S
  exact lv_icmp_ge C.1 C.2.1 hd ht (fun h => kt h l p e R s m args below meth c dC dI τ B0 ρ0 nx0 n0 z0 C ρ hp locs cells slots ls S) (fun h => kf h l p e R s m args below meth c dC dI τ B0 ρ0 nx0 n0 z0 C ρ hp locs cells slots ls S)
theorem am_if_gt {x : Int32} {off : Int} {t : Nat} (hd : decode M.2.1 pc = .ok (.ifCond .gt off, 3)) (ht : (pc : Int) + off = (t : Int)) (hq : pc + 3 = q) (kt : 0 < x → am_V ox d M t lv st H o H') (kf : ¬ 0 < x → am_V ox d M q lv st H o H') : am_V ox d M pc lv (.int x :: st) H o H' := by
  subst hq
  intro l p e R s m args below meth c dC dI τ B0 ρ0 nx0 n0 z0 C ρ hp locs cells slots ls S
  exact lv_if_gt C.1 C.2.1 hd ht (fun h => kt h l p e R s m args below meth c dC dI τ B0 ρ0 nx0 n0 z0 C ρ hp locs cells slots ls S) (fun h => kf h l p e R s m args below meth c dC dI τ B0 ρ0 nx0 n0 z0 C ρ hp locs cells slots ls S)
theorem am_icmp_gt {x y : Int32} {off : Int} {t : Nat} (hd : decode M.2.1 pc = .ok (.if_icmp .gt off, 3)) (ht : (pc : Int) + off = (t : Int)) (hq : pc + 3 = q) (kt : y < x → am_V ox d M t lv st H o H') (kf : ¬ y < x → am_V ox d M q lv st H o H') : am_V ox d M pc lv (.int y :: .int x :: st) H o H' := by
  subst hq
  intro l p e R s m args below meth c dC dI τ B0 ρ0 nx0 n0 z0 C ρ hp locs cells slots ls S
  exact lv_icmp_gt C.1 C.2.1 hd ht (fun h => kt h l p e R s m args below meth c dC dI τ B0 ρ0 nx0 n0 z0 C ρ hp locs cells slots ls S) (fun h => kf h l p e R s m args below meth c dC dI τ B0 ρ0 nx0 n0 z0 C ρ hp locs cells slots ls S)
theorem am_if_le {x : Int32} {off : Int} {t : Nat} (hd : decode M.2.1 pc = .ok (.ifCond .le off, 3)) (ht : (pc : Int) + off = (t : Int)) (hq : pc + 3 = q) (kt : x ≤ 0 → am_V ox d M t lv st H o H') (kf : ¬ x ≤ 0 → am_V ox d M q lv st H o H') : am_V ox d M pc lv (.int x :: st) H o H' := by
  subst hq
  intro l p e R s m args below meth c dC dI τ B0 ρ0 nx0 n0 z0 C ρ hp locs cells slots ls S
  exact lv_if_le C.1 C.2.1 hd ht (fun h => kt h l p e R s m args below meth c dC dI τ B0 ρ0 nx0 n0 z0 C ρ hp locs cells slots ls S) (fun h => kf h l p e R s m args below meth c dC dI τ B0 ρ0 nx0 n0 z0 C ρ hp locs cells slots ls S)
theorem am_icmp_le {x y : Int32} {off : Int} {t : Nat} (hd : decode M.2.1 pc = .ok (.if_icmp .le off, 3)) (ht : (pc : Int) + off = (t : Int)) (hq : pc + 3 = q) (kt : x ≤ y → am_V ox d M t lv st H o H') (kf : ¬ x ≤ y → am_V ox d M q lv st H o H') : am_V ox d M pc lv (.int y :: .int x :: st) H o H' := by
  subst hq
  intro l p e R s m args below meth c dC dI τ B0 ρ0 nx0 n0 z0 C ρ hp locs cells slots ls S
  exact lv_icmp_le C.1 C.2.1 hd ht (fun h => kt h l p e R s m args below meth c dC dI τ B0 ρ0 nx0 n0 z0 C ρ hp locs cells slots ls S) (fun h => kf h l p e R s m args below meth c dC dI τ B0 ρ0 nx0 n0 z0 C ρ hp locs cells slots ls S)
theorem am_istore_n {i : Nat} {x : Int32} {w : Fin 4} {lv' : List (Nat × Value)} (hd : decode M.2.1 pc = .ok (.istore_n w, 1)) (hi : (w : Nat) = i) (hn : i < M.2.2.1) (hl : am_sv i (.int x) lv = lv') (hq : pc + 1 = q) (k : am_V ox d M q lv' st H o H') : am_V ox d M pc lv (.int x :: st) H o H' := by
  subst hq
  subst hl
  intro l p e R s m args below meth c dC dI τ B0 ρ0 nx0 n0 z0 C ρ hp locs cells slots ls S
  exact lv_istore_n C.1 C.2.1 hd hi S.2.2.2.2.2 hn (am_sv_cl (v := .int x)) (fun ls' hl' => k l p e R s m args below meth c dC dI τ B0 ρ0 nx0 n0 z0 C ρ hp locs cells slots ls' ⟨S.1, S.2.1, S.2.2.1, S.2.2.2.1, S.2.2.2.2.1, hl'⟩)
theorem am_istore {i : Nat} {x : Int32} {lv' : List (Nat × Value)} (hd : decode M.2.1 pc = .ok (.istore i, 2)) (hn : i < M.2.2.1) (hl : am_sv i (.int x) lv = lv') (hq : pc + 2 = q) (k : am_V ox d M q lv' st H o H') : am_V ox d M pc lv (.int x :: st) H o H' := by
  subst hq
  subst hl
  intro l p e R s m args below meth c dC dI τ B0 ρ0 nx0 n0 z0 C ρ hp locs cells slots ls S
  exact lv_istore C.1 C.2.1 hd S.2.2.2.2.2 hn (am_sv_cl (v := .int x)) (fun ls' hl' => k l p e R s m args below meth c dC dI τ B0 ρ0 nx0 n0 z0 C ρ hp locs cells slots ls' ⟨S.1, S.2.1, S.2.2.1, S.2.2.2.1, S.2.2.2.2.1, hl'⟩)
theorem am_astore_n {i : Nat} {x : Nat} {w : Fin 4} {lv' : List (Nat × Value)} (hd : decode M.2.1 pc = .ok (.astore_n w, 1)) (hi : (w : Nat) = i) (hn : i < M.2.2.1) (hl : am_sv i (.ref x) lv = lv') (hq : pc + 1 = q) (k : am_V ox d M q lv' st H o H') : am_V ox d M pc lv (.ref x :: st) H o H' := by
  subst hq
  subst hl
  intro l p e R s m args below meth c dC dI τ B0 ρ0 nx0 n0 z0 C ρ hp locs cells slots ls S
  exact lv_astore_n C.1 C.2.1 hd hi S.2.2.2.2.2 hn (am_sv_cl (v := .ref x)) (fun ls' hl' => k l p e R s m args below meth c dC dI τ B0 ρ0 nx0 n0 z0 C ρ hp locs cells slots ls' ⟨S.1, S.2.1, S.2.2.1, S.2.2.2.1, S.2.2.2.2.1, hl'⟩)
theorem am_astore {i : Nat} {x : Nat} {lv' : List (Nat × Value)} (hd : decode M.2.1 pc = .ok (.astore i, 2)) (hn : i < M.2.2.1) (hl : am_sv i (.ref x) lv = lv') (hq : pc + 2 = q) (k : am_V ox d M q lv' st H o H') : am_V ox d M pc lv (.ref x :: st) H o H' := by
  subst hq
  subst hl
  intro l p e R s m args below meth c dC dI τ B0 ρ0 nx0 n0 z0 C ρ hp locs cells slots ls S
  exact lv_astore C.1 C.2.1 hd S.2.2.2.2.2 hn (am_sv_cl (v := .ref x)) (fun ls' hl' => k l p e R s m args below meth c dC dI τ B0 ρ0 nx0 n0 z0 C ρ hp locs cells slots ls' ⟨S.1, S.2.1, S.2.2.1, S.2.2.2.1, S.2.2.2.2.1, hl'⟩)
theorem am_iinc {i : Nat} {n : Int} {x v : Int32} {lv' : List (Nat × Value)} (hd : decode M.2.1 pc = .ok (.iinc i n, 3)) (hx : am_lk i lv = some (.int x)) (hv : x + Int32.ofInt n = v) (hn : i < M.2.2.1) (hl : am_sv i (.int v) lv = lv') (hq : pc + 3 = q) (k : am_V ox d M q lv' st H o H') : am_V ox d M pc lv st H o H' := by
  subst hq
  subst hl
  intro l p e R s m args below meth c dC dI τ B0 ρ0 nx0 n0 z0 C ρ hp locs cells slots ls S
  obtain ⟨w, hw⟩ := List.getElem?_of_mem (List.mem_map.mpr ⟨(i, Value.int x), am_lk_mem hx, rfl⟩ : (i, am_cv ρ (.int x)) ∈ am_cl ρ lv)
  exact lv_iinc C.1 C.2.1 hd S.2.2.2.2.2 hw hv hn (am_sv_cl (v := .int v)) (fun ls' hl' => k l p e R s m args below meth c dC dI τ B0 ρ0 nx0 n0 z0 C ρ hp locs cells slots ls' ⟨S.1, S.2.1, S.2.2.1, S.2.2.2.1, S.2.2.2.2.1, hl'⟩)
theorem am_tableIn {dflt lo hi : Int} {offs : Array Int} {len : Nat} {x : Int32} {off : Int} (hd : decode M.2.1 pc = .ok (.tableswitch dflt lo hi offs, len)) (h1 : ¬ x.toInt < lo) (h2 : ¬ hi < x.toInt) (ho : offs[(x.toInt - lo).toNat]? = some off) (ht : (pc : Int) + off = (q : Int)) (k : am_V ox d M q lv st H o H') : am_V ox d M pc lv (.int x :: st) H o H' := by
  intro l p e R s m args below meth c dC dI τ B0 ρ0 nx0 n0 z0 C ρ hp locs cells slots ls S
  exact lv_tableIn C.1 C.2.1 hd h1 h2 ho ht (k l p e R s m args below meth c dC dI τ B0 ρ0 nx0 n0 z0 C ρ hp locs cells slots ls S)
theorem am_tableOut {dflt lo hi : Int} {offs : Array Int} {len : Nat} {x : Int32} (hd : decode M.2.1 pc = .ok (.tableswitch dflt lo hi offs, len)) (h : x.toInt < lo ∨ hi < x.toInt) (ht : (pc : Int) + dflt = (q : Int)) (k : am_V ox d M q lv st H o H') : am_V ox d M pc lv (.int x :: st) H o H' := by
  intro l p e R s m args below meth c dC dI τ B0 ρ0 nx0 n0 z0 C ρ hp locs cells slots ls S
  exact lv_tableOut C.1 C.2.1 hd h ht (k l p e R s m args below meth c dC dI τ B0 ρ0 nx0 n0 z0 C ρ hp locs cells slots ls S)
theorem am_lookup {dflt : Int} {ps : Array (Int × Int)} {len : Nat} {x : Int32} {off : Int} (hd : decode M.2.1 pc = .ok (.lookupswitch dflt ps, len)) (hsr : (ps.toList.zip (ps.toList.drop 1)).all (fun (a, next) => a.1 < next.1) = true) (ho : Op.lookupswitch.offset ps.toList dflt x.toInt = off) (ht : (pc : Int) + off = (q : Int)) (k : am_V ox d M q lv st H o H') : am_V ox d M pc lv (.int x :: st) H o H' := by
  intro l p e R s m args below meth c dC dI τ B0 ρ0 nx0 n0 z0 C ρ hp locs cells slots ls S
  exact lv_lookup C.1 C.2.1 hd hsr ho ht (k l p e R s m args below meth c dC dI τ B0 ρ0 nx0 n0 z0 C ρ hp locs cells slots ls S)
end AMR
