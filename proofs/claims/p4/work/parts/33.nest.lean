/-! NEST MATES: a constructor of a nest mate, a static table of the nest's host. -/
section AMNE
variable {ox : List (Nat × (Nat → Int32))} {d : Nat} {M : am_M} {pc q : Nat} {lv : List (Nat × Value)} {st stk : List Value} {H H1 H' : am_H} {o : Option Value ⊕ String} {P P1 : Option Value ⊕ String → am_H → Prop} {cb : Nat}
theorem am_callIN {y : MethodName} {Mc : am_M} {as : List Value} {host : String} {idx n b : Nat} (hd : decode M.2.1 pc = .ok (.invokespecial idx, 3)) (hC : am_C ox d y Mc (.ref b :: as) H (.inl none) H1) (hy : am_My y Mc n) (hret : Mc.2.2.2.1 = none) (hy1 : y.name = "<init>") (hlk : Cond.methodLinkNest M.1 idx y host ∈ am_nst) (hi : Cond.instanceMethod y ∈ am_words) (hn : as.length = n) (hst : stk = as.reverse ++ .ref b :: st) (hc8 : (st.map fun v => v.category).sum ≤ 8) (hf : am_fine H H1 lv st) (hc : am_nc H ≤ am_nc H1) (hz : am_nz H ≤ am_nz H1) (hc2 : am_nc H1 ≤ am_nc H') (hz2 : am_nz H1 ≤ am_nz H') (hq : pc + 3 = q) (kk : am_V ox (d + 1) M q lv st H1 o H') : am_V ox (d + 1) M pc lv stk H o H' := by
  subst hq
  subst hst
  intro l p e R s m args below meth c dC dI τ B0 ρ0 nx0 n0 z0 C ρ hp locs cells slots ls S
  have hRf := C.2.2.2.2.2.2.2.2.2.2.1
  have hRl := C.2.2.2.2.2.2.2.2.2.2.2.1
  obtain ⟨hcd, hini, hyd, h7⟩ := hy
  have hp9 := am_pre (y := y) (Mc := Mc) (as := .ref b :: as) C S
  have hM := hC.met l C.2.2.2.2.2.2.2.2.1 dC dI τ B0 ρ
  have hcb : va_CN R s args M.1 idx y host Mc.2.1 Mc.2.2.1 Mc.2.2.2.1 (Cond.code y Mc.2.1 Mc.2.2.1 Mc.2.2.2.1 :: am_words) (am_rm d (am_nc H1 - am_nc H) (am_nz H1 - am_nz H)) (am_nc H1 - am_nc H) (am_nz H1 - am_nz H) n :=
    va_cnB (Ts := am_words) n C.2.2.2.2.2.1 (fun w hw => by
      have hw' : w ∈ am_words := (List.mem_cons.mp hw).elim (fun h => by rw [h]; exact hcd) id
      exact ⟨hw', am_good w hw'⟩) rfl rfl rfl (C.2.2.2.2.2.2.2.2.2.2.2.2.2.2.2.2.2.2.2.2.1 _ hlk) (C.2.2.2.2.2.1 _ hini) hyd ⟨show d + 1 ≤ R.frames by omega, show 8 + (Mc.2.2.1 + 11) + (116 + 26 * d) ≤ R.locals by omega⟩
  rw [hret] at hcb hM
  refine am_cont (v := none) C S hf hc hz (va_runIN (b := ρ b) (As := as.map (am_cv ρ)) (rest := st.map (am_cv ρ)) ⟨C.1, C.2.1, C.2.2.1, C.2.2.2.2.1, C.2.2.2.2.2.1⟩ hM ⟨hcb, hy1, C.2.2.2.2.2.1 _ hi⟩ hp9 rfl (by rw [List.length_map]; exact hn) S.2.2.2.2.2.1 (by simp [am_cv]) ?_ hd (am_room (y := y) C S hc hz hc2 hz2)) kk
  rw [am_cat]
  show 2 * 0 + _ ≤ 8
  omega
theorem ae_callIN {y : MethodName} {Mc : am_M} {as : List Value} {host : String} {idx n b : Nat} (hd : decode M.2.1 pc = .ok (.invokespecial idx, 3)) (hC : am_DB 0 ox d y Mc (.ref b :: as) H P1) (hy : am_My y Mc n) (hret : Mc.2.2.2.1 = none) (hy1 : y.name = "<init>") (hlk : Cond.methodLinkNest M.1 idx y host ∈ am_nst) (hi : Cond.instanceMethod y ∈ am_words) (hn : as.length = n) (hst : stk = as.reverse ++ .ref b :: st) (hc8 : (st.map fun v => v.category).sum ≤ 8) (hq : pc + 3 = q) (hx : ∀ o H1, P1 o H1 → o = .inl none) (kk : ∀ H1, P1 (.inl none) H1 → am_fine H H1 lv st ∧ am_EB cb ox (d + 1) M q lv st H1 P) : am_EB cb ox (d + 1) M pc lv stk H P := by
  obtain ⟨o1, H1, hc, c1, c2, hb0, hp⟩ := hC
  obtain rfl := hx o1 H1 hp
  obtain ⟨hf, o, H', hV, hm1, hm2, hm3⟩ := kk H1 hp
  exact ⟨o, H', am_callIN hd hc hy hret hy1 hlk hi hn hst hc8 hf c1 c2 hm1 hm2 hq hV, Nat.le_trans c1 hm1, Nat.le_trans c2 hm2, hb0.tr0 hm3.1, hm3.2⟩
theorem am_getsN {Cn n ds host : String} {i idx : Nat} (hd : decode M.2.1 pc = .ok (.getstatic idx, 3)) (hz : (Cn, n, ds, i) ∈ am_sts) (hlk : Cond.fieldLinkNest M.1 idx Cn n ds host ∈ am_nst) (hq : pc + 3 = q) (kk : am_V ox d M q lv (.ref (1000000 + i) :: st) H o H') : am_V ox d M pc lv st H o H' := by
  subst hq
  intro l p e R s m args below meth c dC dI τ B0 ρ0 nx0 n0 z0 C ρ hp locs cells slots ls S
  have hO9 := C.2.2.2.2.2.2.2.2.2.2.2.2.2.2.2.2
  have hO := (am_O.ext hO9 S.1.2.2).2.1 _ hz
  exact va_getsN C.1 C.2.1 hO S.2.2.1 C.2.2.2.2.1 (va_Nw.use (am_nst_tab _ hlk) (hO9.2.2.2.2.1 _ hlk)) (fun _ h => h) hd (kk l p e R s m args below meth c dC dI τ B0 ρ0 nx0 n0 z0 C ρ hp locs cells slots ls S)
theorem ae_getsN {Cn n ds host : String} {i idx : Nat} (hd : decode M.2.1 pc = .ok (.getstatic idx, 3)) (hz : (Cn, n, ds, i) ∈ am_sts) (hlk : Cond.fieldLinkNest M.1 idx Cn n ds host ∈ am_nst) (hq : pc + 3 = q) (kk : am_EB cb ox d M q lv (.ref (1000000 + i) :: st) H P) : am_EB cb ox d M pc lv st H P := by
  obtain ⟨o, H', hV, h1, h2, h3⟩ := kk
  exact ⟨o, H', am_getsN hd hz hlk hq hV, h1, h2, h3⟩
end AMNE
