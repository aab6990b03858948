/-! THE CLASS'S METHODS that the law's helpers call. -/
section AMW
variable {c : Nat} {ox : List (Nat × (Nat → Int32))} {d : Nat} {M : am_M} {pc q : Nat} {lv : List (Nat × Value)} {st : List Value} {H : am_H} {P : Option Value ⊕ String → am_H → Prop}
theorem ae_wX6 {idx : Nat} {x l g : Int32} (hd : decode M.2.1 pc = .ok (.invokestatic idx, 3)) (hlk : Cond.methodLink M.1 idx yX6_isWithin ∈ am_words) (hc8 : (st.map fun v => v.category).sum ≤ 8) (hq : pc + 3 = q) (kt : l ≤ x ∧ x ≤ g → am_EB c ox (d + 1) M q lv (.int 1 :: st) H P) (kf : ¬ (l ≤ x ∧ x ≤ g) → am_EB c ox (d + 1) M q lv (.int 0 :: st) H P) : am_EB c ox (d + 1) M pc lv (.int g :: .int l :: .int x :: st) H P := by
  refine ae_callS (as := [.int x, .int l, .int g]) hd e_X6_isWithin myX6_isWithin hlk sm_X6_isWithin rfl rfl hc8 hq (fun o H1 h => ⟨_, h.1⟩) (fun v G h => ?_)
  obtain ⟨h1, rfl⟩ := h
  cases h1
  refine ⟨Or.inl rfl, ?_⟩
  by_cases hc : l ≤ x ∧ x ≤ g
  · rw [if_pos hc]; exact kt hc
  · rw [if_neg hc]; exact kf hc
theorem ae_wX7 {idx : Nat} {x l g : Int32} (hd : decode M.2.1 pc = .ok (.invokestatic idx, 3)) (hlk : Cond.methodLink M.1 idx yX7_in ∈ am_words) (hc8 : (st.map fun v => v.category).sum ≤ 8) (hq : pc + 3 = q) (kt : l ≤ x ∧ x ≤ g → am_EB c ox (d + 1) M q lv (.int 1 :: st) H P) (kf : ¬ (l ≤ x ∧ x ≤ g) → am_EB c ox (d + 1) M q lv (.int 0 :: st) H P) : am_EB c ox (d + 1) M pc lv (.int g :: .int l :: .int x :: st) H P := by
  refine ae_callS (as := [.int x, .int l, .int g]) hd e_X7_in myX7_in hlk sm_X7_in rfl rfl hc8 hq (fun o H1 h => ⟨_, h.1⟩) (fun v G h => ?_)
  obtain ⟨h1, rfl⟩ := h
  cases h1
  refine ⟨Or.inl rfl, ?_⟩
  by_cases hc : l ≤ x ∧ x ≤ g
  · rw [if_pos hc]; exact kt hc
  · rw [if_neg hc]; exact kf hc
end AMW
abbrev am_exn : List String := ["java/lang/RuntimeException", "java/lang/Exception"]
theorem am_exf : ∀ n ∈ am_exn, Bundle.fit n = true := by decide +kernel
theorem tw_IAE : (Bundle.ownAtoms RX6 33 "java/lang/IllegalArgumentException" am_exn).all am_tw = true := by decide +kernel
theorem tw_ISE : (Bundle.ownAtoms RX6 50 "java/lang/IllegalStateException" am_exn).all am_tw = true := by decide +kernel
theorem tw_UOE : (Bundle.ownAtoms RX6 85 "java/lang/UnsupportedOperationException" am_exn).all am_tw = true := by decide +kernel
theorem tw_ARE : (Bundle.ownAtoms RX6 101 "java/lang/ArithmeticException" am_exn).all am_tw = true := by decide +kernel
theorem tw_IOE : (Bundle.ownAtoms RX6 127 "java/lang/IndexOutOfBoundsException" am_exn).all am_tw = true := by decide +kernel
