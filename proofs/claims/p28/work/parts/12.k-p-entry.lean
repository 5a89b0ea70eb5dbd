/-! THE LAW'S ENTRY: what is known there -/
theorem jx_in (ci : Nat) (h : ci < 6) : (∀ w ∈ u_ws (jNm ci) (jTx ci) (jNf ci), w ∈ lw_tbl) ∧ Cond.instantiable (jNm ci) (jNf ci) ∈ lw_tbl := by
  rcases (show ci = 0 ∨ ci = 1 ∨ ci = 2 ∨ ci = 3 ∨ ci = 4 ∨ ci = 5 by omega) with rfl | rfl | rfl | rfl | rfl | rfl
  · exact ⟨by decide +kernel, by decide +kernel⟩
  · exact ⟨by decide +kernel, by decide +kernel⟩
  · exact ⟨by decide +kernel, by decide +kernel⟩
  · exact ⟨by decide +kernel, by decide +kernel⟩
  · exact ⟨by decide +kernel, by decide +kernel⟩
  · exact ⟨by decide +kernel, by decide +kernel⟩
theorem jx_prim {s : State} {ty : FieldType} {args : Array Value} (h : (Cond.arrayClass ty).before args s = true) (ho : ∀ C, ty ≠ .object C) : ∃ c, ArrOfT s c ty ∧ va_RA s c ty := by
  obtain ⟨c, k, comp, h1, h2, h3⟩ := Cond.arrayClass_spec h
  refine ⟨c, fun n z => ⟨(fun k h => by cases h), k, h2, comp, h3⟩, ?_⟩
  unfold va_RA
  split
  · rename_i C
    exact absurd rfl (ho C)
  · exact h1
theorem jx_obj {s : State} {C : String} {args : Array Value} (h : (Cond.arrayOver (.object C)).before args s = true) : ∃ c, ArrOfT s c (.object C) ∧ va_RA s c (.object C) := by
  obtain ⟨comp, c, k, h1, h2, h3, h4, h5⟩ := Cond.arrayOver_spec h
  exact ⟨c, fun n z => ⟨(fun k h => by cases h), k, h3, comp, h4⟩, k, comp, h3, h4, h1, h5⟩
theorem jx_arr {s : State} {ty : FieldType} {args : Array Value} (h : (Cond.arrayOver (.array ty)).before args s = true) : ∃ c, ArrOfT s c (.array ty) ∧ va_RA s c (.array ty) := by
  obtain ⟨comp, c, k, h1, h2, h3, h4, h5⟩ := arrayOverA_spec h
  exact ⟨c, fun n z => ⟨(fun k h => by cases h), k, h3, comp, h4⟩, h5⟩
theorem jx_strs : ∀ q ∈ jStrs, q.1 = "FormatVault" ∧ Cond.stringRef q.1 q.2.1 q.2.2 ∈ lw_tbl := by decide +kernel
theorem jU_0 {s : State} {b : Nat} {A : Nat → Prop} (hts : ∀ w ∈ lw_tbl, w.before #[Value.ref b] s = true) (hg : (Jvm.Cond.and given_1 narrow_1).before #[Value.ref b] s = true) (hA : ∀ a : Nat, a < s.heap.size → ¬ A a) : ∃ (D : va_G) (cm : FieldType → ClassId), jU D cm A s := by
  have hs := flat_of_before _ hg
  have kn : ∀ k : Nat, ∃ q : ClassId × (Nat → Nat), ∀ r : vw_C, vwCl[k]? = some r → u_Kn s r.1 r.2.1 r.2.2 q.1 q.2 := by
    intro k
    by_cases hk : k < 6
    · obtain ⟨h1, h2⟩ := jx_in k hk
      obtain ⟨cC, iS, h⟩ := u_known hts h1 (hts _ h2)
      refine ⟨(cC, iS), fun r hr => ?_⟩
      rw [jCl_at hk] at hr
      cases hr
      exact h
    · refine ⟨(0, fun _ => 0), fun r hr => ?_⟩
      have := (List.getElem?_eq_some_iff.mp hr).1
      exact absurd this hk
  obtain ⟨g, hg9⟩ := Classical.axiomOfChoice kn
  have ar : ∀ ty : FieldType, ∃ c : ClassId, ty ∈ jTys → ArrOfT s c ty ∧ va_RA s c ty := by
    intro ty
    by_cases h : ty ∈ jTys
    · have h0 : ∃ c, ArrOfT s c ty ∧ va_RA s c ty := by
        unfold jTys at h
        simp only [List.mem_cons, List.not_mem_nil, or_false] at h
        rcases h with rfl | rfl | rfl | rfl | rfl | rfl
        · exact jx_prim (hts (.arrayClass .int) (by decide +kernel)) (fun C h => by cases h)
        · exact jx_obj (hts (.arrayOver (.object "FormatVault$Law")) (by decide +kernel))
        · exact jx_obj (hts (.arrayOver (.object "FormatVault$StoredFile")) (by decide +kernel))
        · exact jx_obj (hts (.arrayOver (.object "FormatVault$Converter")) (by decide +kernel))
        · exact jx_obj (hts (.arrayOver (.object "FormatVault$BestWays")) (by decide +kernel))
        · exact jx_arr (hts (.arrayOver (.array .int)) (by decide +kernel))
      exact ⟨h0.choose, fun _ => h0.choose_spec⟩
    · exact ⟨0, fun q => absurd q h⟩
  obtain ⟨cm, hcm⟩ := Classical.axiomOfChoice ar
  have hcur : ∃ cur, s.vm.findClass "FormatVault" = some cur := ⟨_, (hg9 5 _ (jCl_at (by decide))).2.1⟩
  obtain ⟨cur, hcur⟩ := hcur
  refine ⟨(fun k => (g k).1, fun k => (g k).2), cm, ⟨fun k q hq => hg9 k q hq, fun ty ht => hcm ty ht⟩, fun w hw => jGd_move (State.WarmedH.refl s) (jWL_good hw) (hts w (jWL_tbl hw)), ⟨va_AO.of (hts (.arrayOver (.object "FormatVault$Law")) (by decide +kernel)), va_AO.of (hts (.arrayOver (.object "FormatVault$StoredFile")) (by decide +kernel)), va_AO.of (hts (.arrayOver (.object "FormatVault$Converter")) (by decide +kernel)), va_AO.of (hts (.arrayOver (.object "FormatVault$BestWays")) (by decide +kernel)), hts (.arrayOver (.array .int)) (by decide +kernel)⟩, trivial, fun q hq => ?_, ?_, ?_⟩
  · obtain ⟨e1, e2⟩ := jx_strs q hq
    have h1 : (Cond.stringRef q.1 q.2.1 q.2.2).before #[Value.ref b] s = true := hts _ e2
    obtain ⟨k, cf, i, a, -, -, -, -, -, h2⟩ := Cond.stringRef_spec (cur := cur) (by rw [e1]; exact hcur) h1
    exact ⟨a, vk_R.of h1 h2⟩
  · exact vx_Zqof (hts (.laysStatic Bundle.tN "UNASSIGNED_STACK" Bundle.steD) (by decide +kernel)) (hts (.initialized Bundle.tN) (by decide +kernel)) (hs (.isRef (.static Bundle.tN "UNASSIGNED_STACK" Bundle.steD)) (by decide +kernel)) hA
  · exact vx_Zqof (hts (.laysStatic Bundle.tN "SUPPRESSED_SENTINEL" Bundle.listD) (by decide +kernel)) (hts (.initialized Bundle.tN) (by decide +kernel)) (hs (.isRef (.static Bundle.tN "SUPPRESSED_SENTINEL" Bundle.listD)) (by decide +kernel)) hA
