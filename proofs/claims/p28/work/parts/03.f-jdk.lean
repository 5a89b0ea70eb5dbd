/-! CONTRACTS OF THE JDK's OWN METHODS: as jMet_of, but by the natives' table -/
theorem jMet_ofF {l : Launch} (hst : l.stackTraces = false) {y : MethodName} {cc : ByteArray} {nL : Nat} {rt : Option FieldType} {fr lo mc ms : Nat} {pre : List jV → jM → Prop} {ret : List jV → jM → Option jV → jM → Prop} {thr : List jV → jM → String → jM → Prop} (hy : plainFor y = true)
    (body : ∀ (avs : List jV) (μ : jM) (J : Nat → List (Option jV) → List jV → jM → Nat → Nat → Prop), jCtx l J cc nL y.cls { frames := fr, cells := mc, slots := ms, locals := lo } rt 0 [] (ret avs μ) (thr avs μ) mc ms → (∀ v ∈ avs, jL μ v) → pre avs μ → (jAr avs).length ≤ nL ∧ J 0 (jAr avs ++ List.replicate (nL - (jAr avs).length) none) [] μ 0 0) : jMet l y cc nL rt fr lo mc ms pre ret thr := by
  intro D cm ad μ avs sz hav hpre
  refine MetFree.of_bodySF (code := cc) (maxLocals := nL) (ret := rt) hy ?_ ?_
  · intro args s m h hn
    obtain ⟨meth, c, h1, h2, h3, h4, h5, h6, -, -⟩ := Cond.code_spec hn (atoms_spec (ws := [Cond.code y cc nL rt]) h _ List.mem_cons_self)
    exact ⟨meth, c, h1, h2, h3, h4, h5, h6⟩
  · intro p e s m args below meth c s₁ B hml hP _
    have hsz : s.heap.size = sz := hP.2.1
    subst hsz
    have hh0 : s₁.heap = s.heap := by rw [B.state]; rfl
    have ht : ∀ x ∈ c.exceptionTable.toList, False := by
      obtain ⟨meth9, c9, h1, h2, -, -, -, -, h7, -⟩ := Cond.code_spec B.named (atoms_spec (ws := [Cond.code y cc nL rt]) B.pre _ List.mem_cons_self)
      cases Option.some.inj (h1.symm.trans B.method)
      cases Option.some.inj (h2.symm.trans (Stand.of_body B).code)
      intro x hx
      rw [Array.isEmpty_iff.mp h7] at hx
      cases hx
    obtain ⟨h1, h2⟩ := body avs μ _ ⟨p, e, s, m, args, below, meth, c, D, cm, ad, μ, _, rfl, B.exec, B.bytes, hml, B.returns, findClass_of_methodNamed B.named, B.notSynchronized, hP.2.2.2, hst, ht, rfl⟩ hav hpre
    obtain ⟨t, a1, o, b1, b2, b3⟩ := jent hP hav h1 h2 s₁ hh0 (Stand.of_body B)
    exact ⟨t, o, a1, b1, b2, b3⟩
theorem pf_max : plainFor yJ9_max_7cf53 = true := by decide +kernel
theorem pf_bc : plainFor yJ13_bitCount_95d88 = true := by decide +kernel
