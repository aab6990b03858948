/-! Arrays.fill, the greater of two numbers, another list of locals. -/
def yFill : MethodName := ⟨"java/util/Arrays", "fill", "([II)V"⟩
abbrev mFill : am_M := ("java/util/Arrays", prog_21_method_103_code, 4, (Option.none : Option Jvm.ClassFile.FieldType), "fill", [])
theorem myFill : am_My yFill mFill 2 := ⟨aw_385, aw_14, by decide +kernel, by decide⟩
theorem dFill_0 : decode prog_21_method_103_code 0 = .ok (.iconst 0, 1) := by decide +kernel
theorem dFill_1 : decode prog_21_method_103_code 1 = .ok (.istore_n 2, 1) := by decide +kernel
theorem dFill_2 : decode prog_21_method_103_code 2 = .ok (.aload_n 0, 1) := by decide +kernel
theorem dFill_3 : decode prog_21_method_103_code 3 = .ok (.arraylength, 1) := by decide +kernel
theorem dFill_4 : decode prog_21_method_103_code 4 = .ok (.istore_n 3, 1) := by decide +kernel
theorem dFill_5 : decode prog_21_method_103_code 5 = .ok (.iload_n 2, 1) := by decide +kernel
theorem dFill_6 : decode prog_21_method_103_code 6 = .ok (.iload_n 3, 1) := by decide +kernel
theorem dFill_7 : decode prog_21_method_103_code 7 = .ok (.if_icmp .ge 13, 3) := by decide +kernel
theorem dFill_10 : decode prog_21_method_103_code 10 = .ok (.aload_n 0, 1) := by decide +kernel
theorem dFill_11 : decode prog_21_method_103_code 11 = .ok (.iload_n 2, 1) := by decide +kernel
theorem dFill_12 : decode prog_21_method_103_code 12 = .ok (.iload_n 1, 1) := by decide +kernel
theorem dFill_13 : decode prog_21_method_103_code 13 = .ok (.iastore, 1) := by decide +kernel
theorem dFill_14 : decode prog_21_method_103_code 14 = .ok (.iinc 2 1, 3) := by decide +kernel
theorem dFill_17 : decode prog_21_method_103_code 17 = .ok (.goto (-12), 3) := by decide +kernel
theorem dFill_20 : decode prog_21_method_103_code 20 = .ok (.return_, 1) := by decide +kernel
theorem cd_mmax : Cond.code Lib.Math.max.name Lib.Math.max.code 2 (some .int) ∈ am_words := aw_526
def am_al (lv : List (Nat × Value)) : List (Nat × Value) → Prop
  | [] => True
  | q :: r => am_lk q.1 lv = some q.2 ∧ am_al lv r
theorem am_al_mem {lv : List (Nat × Value)} : ∀ {lv' : List (Nat × Value)}, am_al lv lv' → ∀ q ∈ lv', q ∈ lv
  | [], _, q, hq => by cases hq
  | z :: r, h, q, hq => by
    rcases List.mem_cons.mp hq with rfl | hq
    · exact am_lk_mem h.1
    · exact am_al_mem h.2 q hq
theorem ae_lv {c : Nat} {ox : List (Nat × (Nat → Int32))} {d : Nat} {M : am_M} {pc : Nat} {lv lv' : List (Nat × Value)} {st : List Value} {H : am_H} {P : Option Value ⊕ String → am_H → Prop} (h : am_al lv lv') (k : am_EB c ox d M pc lv' st H P) : am_EB c ox d M pc lv st H P := by
  obtain ⟨o, H', hV, hm⟩ := k
  refine ⟨o, H', ?_, hm⟩
  intro l p e R s m args below meth c dC dI τ B0 ρ0 nx0 n0 z0 C ρ hp locs cells slots ls S
  refine hV l p e R s m args below meth c dC dI τ B0 ρ0 nx0 n0 z0 C ρ hp locs cells slots ls ⟨S.1, S.2.1, S.2.2.1, S.2.2.2.1, S.2.2.2.2.1, S.2.2.2.2.2.1, S.2.2.2.2.2.2.1, fun q hq => S.2.2.2.2.2.2.2 q ?_⟩
  obtain ⟨z, hz, rfl⟩ := List.mem_map.mp hq
  exact List.mem_map.mpr ⟨z, am_al_mem h z hz, rfl⟩
