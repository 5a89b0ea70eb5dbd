/-! THE REFERENCE: METHODS OF THE FACE THAT SEARCH NOTHING -/
theorem nin {v a b : Int32} (h : ¬ (a ≤ v ∧ v ≤ b)) : v < a ∨ b < v := by
  by_cases q : a ≤ v
  · exact Or.inr (Int32.not_le.mp (fun q2 => h ⟨q, q2⟩))
  · exact Or.inl (Int32.not_le.mp q)
theorem inn {v a b : Int32} (h : a ≤ v ∧ v ≤ b) : ¬ (v < a ∨ b < v) := fun q => q.elim (fun q => absurd q (Int32.not_lt.mpr h.1)) (fun q => absurd q (Int32.not_lt.mpr h.2))
theorem z35n {μ : jM} {kd i z : Nat} {v : Int32} (h : mI μ 20 0 35 = nI 0) (hk : ¬ (20 = kd ∧ 35 = z)) : mI (sI μ kd i z v) 20 0 35 = nI 0 := by rw [mI_sI_n μ _ _ _ v (fun q => hk ⟨q.1, q.2.2⟩)]; exact h

set_option maxRecDepth 20000 in
theorem c_X6_setLast {l : Launch} (hst : l.stackTraces = false) (S : jS) (f u : Int32) : jMet l yX6_setLast cX6_setLast 4 (some FieldType.int) 8 180 0 0 (fun avs μ => avs = [aR 20 0, aI f, aI u] ∧ mR S μ ∧ sW S) (fun avs μ r μ' => mret (o_setLast S f u) kA r μ μ') (fun avs μ E μ' => False) := by
  refine jMet_of hst (by decide) ?_
  intro avs μ J C hav hpre
  obtain ⟨rfl, hR, hW⟩ := hpre
  refine ⟨Nat.le_of_ble_eq_true rfl, ?_⟩
  show J 0 [some (aR 20 0), some (aI f), some (aI u), none] [] μ 0 0
  have hW0 := hW.1.1
  have hW1 := hW.1.2
  refine mj_iload_n (pc' := 1) C dX6_setLast_0 rfl rfl ?_
  refine mj_callSN_1 (pc' := 4) C (c_X6_isNoFormat hst f) dX6_setLast_1 rfl km_X6_146 ks_yX6_isNoFormat kn_X6 kc_yX6_isNoFormat ⟨by decide, by decide, by decide +kernel⟩ ⟨by decide, by decide⟩ (by decide) ⟨by decide, by decide⟩ rfl (fun r1 μ1 hq1 hm1 => ?_) (fun _ _ h9 => h9)
  obtain ⟨rfl, rfl⟩ := hq1
  dsimp only [Option.toList, List.nil_append, List.cons_append]
  refine mj_if_eq (tgt := 13) (pc' := 7) C dX6_setLast_4 (by decide) rfl (fun h4 => ?_) (fun h4 => ?_)
  · have hb := b1_0.mp h4
    obtain ⟨j, hj, rfl, ej⟩ := bad_of hb (by decide)
    refine mj_iload_n (pc' := 14) C dX6_setLast_13 rfl rfl ?_
    refine mj_iconst (pc' := 15) (v := (-1)) C dX6_setLast_14 rfl rfl ?_
    refine mj_icmp_eq (tgt := 38) (pc' := 18) C dX6_setLast_15 (by decide) rfl (fun h15 => ?_) (fun h15 => ?_)
    · have hnr : ¬ (u ≠ -1 ∧ (u < sf S 17 2 ∨ 1000 < u)) := fun h => h.1 h15
      refine mj_aload_n (pc' := 39) C dX6_setLast_38 rfl rfl ?_
      refine mj_iload_n (pc' := 40) C dX6_setLast_39 rfl rfl ?_
      refine mj_callVN_1 (ci := 6) (pc' := 43) C (c_X6_canBeRead hst S j) dX6_setLast_40 rfl km_X6_154 ki_yX6_canBeRead kz_yX6_canBeRead kn_X6 kc_yX6_canBeRead rfl (by decide) (by decide) ⟨rfl, by decide, by decide, by decide +kernel⟩ ⟨by decide, by decide⟩ (by decide) ⟨by decide, by decide⟩ ⟨rfl, hR, hj⟩ (fun r40 μ40 hq40 hm40 => ?_) (fun _ _ h9 => h9)
      obtain ⟨rfl, rfl⟩ := hq40
      dsimp only [Option.toList, List.nil_append, List.cons_append]
      refine mj_if_ne (tgt := 52) (pc' := 46) C dX6_setLast_43 (by decide) rfl (fun h43 => ?_) (fun h43 => ?_)
      · refine mj_aload_n (pc' := 53) C dX6_setLast_52 rfl rfl ?_
        refine mj_iconst (pc' := 54) (v := 0) C dX6_setLast_53 rfl rfl ?_
        refine mj_putI (pc' := 57) C dX6_setLast_54 rfl (ci := 6) (f := 35) rfl (by decide) (by decide) rfl (fun _ _ => rfl) (by decide) kf_X6_105 rfl rfl hR.B.l0 ?_
        have hR := mR_x (kd := 20) (i := 0) (z := 35) (v := 0) hR (Or.inl ⟨rfl, rfl⟩)
        refine mj_aload_n (pc' := 58) C dX6_setLast_57 rfl rfl ?_
        refine mj_getR (pc' := 61) C dX6_setLast_58 rfl (ci := 6) (f := 0) rfl (by decide) (by decide) (fun _ => rfl) (by decide) kf_X6_7 hR.B.l0 (hR.B.p 0 (by decide) rfl) ?_
        refine mj_iload_n (pc' := 62) C dX6_setLast_61 rfl rfl ?_
        refine mj_ialdV (pc' := 63) C dX6_setLast_62 rfl rfl (by decide) (by decide) (hR.B.l 0 (by decide) rfl) rfl (by first | assumption | omega) (hR.v 0 (by decide) rfl (by unfold sl; simp <;> first | assumption | omega)) ?_
        refine mj_istore_n_3 (pc' := 64) C dX6_setLast_63 rfl (by decide) rfl ?_
        refine mj_aload_n (pc' := 65) C dX6_setLast_64 rfl rfl ?_
        refine mj_getR (pc' := 68) C dX6_setLast_65 rfl (ci := 6) (f := 0) rfl (by decide) (by decide) (fun _ => rfl) (by decide) kf_X6_7 hR.B.l0 (hR.B.p 0 (by decide) rfl) ?_
        refine mj_iload_n (pc' := 69) C dX6_setLast_68 rfl rfl ?_
        refine mj_iload_n (pc' := 70) C dX6_setLast_69 rfl rfl ?_
        refine mj_iast (pc' := 71) C dX6_setLast_70 rfl rfl (by decide) (by decide) (hR.B.l 0 (by decide) rfl) rfl (by first | assumption | omega) ?_
        refine mj_iload_n (pc' := 72) C dX6_setLast_71 rfl rfl ?_
        refine mj_iret C dX6_setLast_72 (by decide) (by decide) (by decide) ?_
        exact mret_of (o := o_setLast S (nI j) u) (by unfold o_setLast; rw [if_neg hb, if_neg hnr, ej, if_neg (fun h => h (b1_n h43))]) (z35n z35 (by omega)) (mR_v hR 21 rfl (Or.inl rfl)) (mF_sI (by decide) (mF_sI (by decide) mF.rf))
      · refine mj_aload_n (pc' := 47) C dX6_setLast_46 rfl rfl ?_
        refine mj_iconst (pc' := 48) (v := 3) C dX6_setLast_47 rfl rfl ?_
        refine mj_callVN_1 (ci := 6) (pc' := 51) C (c_X6_fails hst S 3) dX6_setLast_48 rfl km_X6_150 ki_yX6_fails kz_yX6_fails kn_X6 kc_yX6_fails rfl (by decide) (by decide) ⟨rfl, by decide, by decide, by decide +kernel⟩ ⟨by decide, by decide⟩ (by decide) ⟨by decide, by decide⟩ ⟨rfl, hR⟩ (fun r48 μ48 hq48 hm48 => ?_) (fun _ _ h9 => h9)
        obtain ⟨rfl, rfl⟩ := hq48
        dsimp only [Option.toList, List.nil_append, List.cons_append]
        refine mj_iret C dX6_setLast_51 (by decide) (by decide) (by decide) ?_
        exact mfail (o := o_setLast S (nI j) u) (c := 3) (w := 3) (by unfold o_setLast; rw [if_neg hb, if_neg hnr, ej, if_pos (b1_0.mp h43)]) rfl (by decide) rfl rfl (mR_x hR (Or.inl ⟨rfl, rfl⟩)) mF.rf
    · refine mj_iload_n (pc' := 19) C dX6_setLast_18 rfl rfl ?_
      refine mj_aload_n (pc' := 20) C dX6_setLast_19 rfl rfl ?_
      refine mj_getV (pc' := 23) C dX6_setLast_20 rfl (ci := 6) (f := 33) rfl (by decide) (by decide) (fun _ => rfl) (by decide) kf_X6_115 hR.B.l0 hR.now ?_
      refine mj_sipush (pc' := 26) (v := 1000) C dX6_setLast_23 rfl rfl ?_
      refine mj_callSN_3 (pc' := 29) C (c_X6_in hst u (sf S 17 2) 1000) dX6_setLast_26 rfl km_X6_108 ks_yX6_in kn_X6 kc_yX6_in ⟨by decide, by decide, by decide +kernel⟩ ⟨by decide, by decide⟩ (by decide) ⟨by decide, by decide⟩ rfl (fun r26 μ26 hq26 hm26 => ?_) (fun _ _ h9 => h9)
      obtain ⟨rfl, rfl⟩ := hq26
      dsimp only [Option.toList, List.nil_append, List.cons_append]
      refine mj_if_ne (tgt := 38) (pc' := 32) C dX6_setLast_29 (by decide) rfl (fun h29 => ?_) (fun h29 => ?_)
      · have hnr : ¬ (u ≠ -1 ∧ (u < sf S 17 2 ∨ 1000 < u)) := fun h => inn (b1_n h29) h.2
        refine mj_aload_n (pc' := 39) C dX6_setLast_38 rfl rfl ?_
        refine mj_iload_n (pc' := 40) C dX6_setLast_39 rfl rfl ?_
        refine mj_callVN_1 (ci := 6) (pc' := 43) C (c_X6_canBeRead hst S j) dX6_setLast_40 rfl km_X6_154 ki_yX6_canBeRead kz_yX6_canBeRead kn_X6 kc_yX6_canBeRead rfl (by decide) (by decide) ⟨rfl, by decide, by decide, by decide +kernel⟩ ⟨by decide, by decide⟩ (by decide) ⟨by decide, by decide⟩ ⟨rfl, hR, hj⟩ (fun r40 μ40 hq40 hm40 => ?_) (fun _ _ h9 => h9)
        obtain ⟨rfl, rfl⟩ := hq40
        dsimp only [Option.toList, List.nil_append, List.cons_append]
        refine mj_if_ne (tgt := 52) (pc' := 46) C dX6_setLast_43 (by decide) rfl (fun h43 => ?_) (fun h43 => ?_)
        · refine mj_aload_n (pc' := 53) C dX6_setLast_52 rfl rfl ?_
          refine mj_iconst (pc' := 54) (v := 0) C dX6_setLast_53 rfl rfl ?_
          refine mj_putI (pc' := 57) C dX6_setLast_54 rfl (ci := 6) (f := 35) rfl (by decide) (by decide) rfl (fun _ _ => rfl) (by decide) kf_X6_105 rfl rfl hR.B.l0 ?_
          have hR := mR_x (kd := 20) (i := 0) (z := 35) (v := 0) hR (Or.inl ⟨rfl, rfl⟩)
          refine mj_aload_n (pc' := 58) C dX6_setLast_57 rfl rfl ?_
          refine mj_getR (pc' := 61) C dX6_setLast_58 rfl (ci := 6) (f := 0) rfl (by decide) (by decide) (fun _ => rfl) (by decide) kf_X6_7 hR.B.l0 (hR.B.p 0 (by decide) rfl) ?_
          refine mj_iload_n (pc' := 62) C dX6_setLast_61 rfl rfl ?_
          refine mj_ialdV (pc' := 63) C dX6_setLast_62 rfl rfl (by decide) (by decide) (hR.B.l 0 (by decide) rfl) rfl (by first | assumption | omega) (hR.v 0 (by decide) rfl (by unfold sl; simp <;> first | assumption | omega)) ?_
          refine mj_istore_n_3 (pc' := 64) C dX6_setLast_63 rfl (by decide) rfl ?_
          refine mj_aload_n (pc' := 65) C dX6_setLast_64 rfl rfl ?_
          refine mj_getR (pc' := 68) C dX6_setLast_65 rfl (ci := 6) (f := 0) rfl (by decide) (by decide) (fun _ => rfl) (by decide) kf_X6_7 hR.B.l0 (hR.B.p 0 (by decide) rfl) ?_
          refine mj_iload_n (pc' := 69) C dX6_setLast_68 rfl rfl ?_
          refine mj_iload_n (pc' := 70) C dX6_setLast_69 rfl rfl ?_
          refine mj_iast (pc' := 71) C dX6_setLast_70 rfl rfl (by decide) (by decide) (hR.B.l 0 (by decide) rfl) rfl (by first | assumption | omega) ?_
          refine mj_iload_n (pc' := 72) C dX6_setLast_71 rfl rfl ?_
          refine mj_iret C dX6_setLast_72 (by decide) (by decide) (by decide) ?_
          exact mret_of (o := o_setLast S (nI j) u) (by unfold o_setLast; rw [if_neg hb, if_neg hnr, ej, if_neg (fun h => h (b1_n h43))]) (z35n z35 (by omega)) (mR_v hR 21 rfl (Or.inl rfl)) (mF_sI (by decide) (mF_sI (by decide) mF.rf))
        · refine mj_aload_n (pc' := 47) C dX6_setLast_46 rfl rfl ?_
          refine mj_iconst (pc' := 48) (v := 3) C dX6_setLast_47 rfl rfl ?_
          refine mj_callVN_1 (ci := 6) (pc' := 51) C (c_X6_fails hst S 3) dX6_setLast_48 rfl km_X6_150 ki_yX6_fails kz_yX6_fails kn_X6 kc_yX6_fails rfl (by decide) (by decide) ⟨rfl, by decide, by decide, by decide +kernel⟩ ⟨by decide, by decide⟩ (by decide) ⟨by decide, by decide⟩ ⟨rfl, hR⟩ (fun r48 μ48 hq48 hm48 => ?_) (fun _ _ h9 => h9)
          obtain ⟨rfl, rfl⟩ := hq48
          dsimp only [Option.toList, List.nil_append, List.cons_append]
          refine mj_iret C dX6_setLast_51 (by decide) (by decide) (by decide) ?_
          exact mfail (o := o_setLast S (nI j) u) (c := 3) (w := 3) (by unfold o_setLast; rw [if_neg hb, if_neg hnr, ej, if_pos (b1_0.mp h43)]) rfl (by decide) rfl rfl (mR_x hR (Or.inl ⟨rfl, rfl⟩)) mF.rf
      · refine mj_aload_n (pc' := 33) C dX6_setLast_32 rfl rfl ?_
        refine mj_iconst (pc' := 34) (v := 2) C dX6_setLast_33 rfl rfl ?_
        refine mj_callVN_1 (ci := 6) (pc' := 37) C (c_X6_fails hst S 2) dX6_setLast_34 rfl km_X6_150 ki_yX6_fails kz_yX6_fails kn_X6 kc_yX6_fails rfl (by decide) (by decide) ⟨rfl, by decide, by decide, by decide +kernel⟩ ⟨by decide, by decide⟩ (by decide) ⟨by decide, by decide⟩ ⟨rfl, hR⟩ (fun r34 μ34 hq34 hm34 => ?_) (fun _ _ h9 => h9)
        obtain ⟨rfl, rfl⟩ := hq34
        dsimp only [Option.toList, List.nil_append, List.cons_append]
        refine mj_iret C dX6_setLast_37 (by decide) (by decide) (by decide) ?_
        exact mfail (o := o_setLast S (nI j) u) (c := 2) (w := 2) (by unfold o_setLast; rw [if_neg hb, if_pos ⟨h15, nin (b1_0.mp h29)⟩]) rfl (by decide) rfl rfl (mR_x hR (Or.inl ⟨rfl, rfl⟩)) mF.rf
  · have hb := b1_n h4
    refine mj_aload_n (pc' := 8) C dX6_setLast_7 rfl rfl ?_
    refine mj_iconst (pc' := 9) (v := 1) C dX6_setLast_8 rfl rfl ?_
    refine mj_callVN_1 (ci := 6) (pc' := 12) C (c_X6_fails hst S 1) dX6_setLast_9 rfl km_X6_150 ki_yX6_fails kz_yX6_fails kn_X6 kc_yX6_fails rfl (by decide) (by decide) ⟨rfl, by decide, by decide, by decide +kernel⟩ ⟨by decide, by decide⟩ (by decide) ⟨by decide, by decide⟩ ⟨rfl, hR⟩ (fun r9 μ9 hq9 hm9 => ?_) (fun _ _ h9 => h9)
    obtain ⟨rfl, rfl⟩ := hq9
    dsimp only [Option.toList, List.nil_append, List.cons_append]
    refine mj_iret C dX6_setLast_12 (by decide) (by decide) (by decide) ?_
    exact mfail (o := o_setLast S f u) (c := 1) (w := 1) (by unfold o_setLast; rw [if_pos hb]) rfl (by decide) rfl rfl (mR_x hR (Or.inl ⟨rfl, rfl⟩)) mF.rf

/-- .. of law's, that returns nothing -/
def mretv (o : Nat × Int32 × jS) (kc : Nat → Nat) (μ μ' : jM) : Prop := mI μ' 20 0 35 = nI (kc o.1) ∧ mR o.2.2 μ' ∧ mF μ μ'
theorem mfailv {o : Nat × Int32 × jS} {S : jS} {μ0 μ : jM} {c : Nat} {v0 x : Int32} (ho : o = (c, v0, S)) (hc : c ≠ 0) (hk : kA c = c) (hx : x = nI c) (hR : mR S (sI μ 20 0 35 x)) (hF : mF μ0 μ) : mretv o kA μ0 (sI μ 20 0 35 x) := by
  subst ho
  subst hx
  exact ⟨by rw [mI_sI_s]; rfl, hR, mF_sI (by decide) hF⟩
theorem mlaw {S : jS} {μ : jM} {a : Nat} {j y w q : Int32} (hR : mR S μ) (ha : a < 5) (ho : o_law S j y w q = (0, 0, su (su (su S 6 a y) 7 a w) 8 a q)) : mretv (o_law S j y w q) kA μ (sI (sI (sI (sI μ 20 0 35 0) 27 0 a y) 28 0 a w) 29 0 a q) := by
  unfold mretv
  rw [ho]
  exact ⟨(z35n (z35n (z35n z35 (by omega)) (by omega)) (by omega)), mR_v (mR_v (mR_v (mR_x hR (Or.inl ⟨rfl, rfl⟩)) 27 rfl (by omega)) 28 rfl (by omega)) 29 rfl (by omega), mF_sI (by decide) (mF_sI (by decide) (mF_sI (by decide) (mF_sI (by decide) mF.rf)))⟩

set_option maxRecDepth 20000 in
theorem c_X6_law {l : Launch} (hst : l.stackTraces = false) (S : jS) (j y w q : Int32) : jMet l yX6_law cX6_law 5 none 8 180 0 0 (fun avs μ => avs = [aR 20 0, aI j, aI y, aI w, aI q] ∧ mR S μ ∧ sW S) (fun avs μ r μ' => r = none ∧ mretv (o_law S j y w q) kA μ μ') (fun avs μ E μ' => False) := by
  refine jMet_of hst (by decide) ?_
  intro avs μ J C hav hpre
  obtain ⟨rfl, hR, hW⟩ := hpre
  refine ⟨Nat.le_of_ble_eq_true rfl, ?_⟩
  show J 0 [some (aR 20 0), some (aI j), some (aI y), some (aI w), some (aI q)] [] μ 0 0
  have hW0 := hW.1.1
  have hW1 := hW.1.2
  refine mj_iload_n (pc' := 1) C dX6_law_0 rfl rfl ?_
  refine mj_iconst (pc' := 2) (v := 0) C dX6_law_1 rfl rfl ?_
  refine mj_iconst (pc' := 3) (v := 4) C dX6_law_2 rfl rfl ?_
  refine mj_callSN_3 (pc' := 6) C (c_X6_in hst j 0 4) dX6_law_3 rfl km_X6_108 ks_yX6_in kn_X6 kc_yX6_in ⟨by decide, by decide, by decide +kernel⟩ ⟨by decide, by decide⟩ (by decide) ⟨by decide, by decide⟩ rfl (fun r3 μ3 hq3 hm3 => ?_) (fun _ _ h9 => h9)
  obtain ⟨rfl, rfl⟩ := hq3
  dsimp only [Option.toList, List.nil_append, List.cons_append]
  refine mj_if_ne (tgt := 17) (pc' := 9) C dX6_law_6 (by decide) rfl (fun h6 => ?_) (fun h6 => ?_)
  · have hb : ¬ bad j 5 := (bad_in (n := 4) (by decide)).mp (b1_n h6)
    obtain ⟨a, ha, rfl, ea⟩ := bad_of hb (by decide)
    refine mj_iload_n (pc' := 18) C dX6_law_17 rfl rfl ?_
    refine mj_iconst (pc' := 19) (v := 1) C dX6_law_18 rfl rfl ?_
    refine mj_bipush (pc' := 21) (v := 100) C dX6_law_19 rfl rfl ?_
    refine mj_callSN_3 (pc' := 24) C (c_X6_in hst y 1 100) dX6_law_21 rfl km_X6_108 ks_yX6_in kn_X6 kc_yX6_in ⟨by decide, by decide, by decide +kernel⟩ ⟨by decide, by decide⟩ (by decide) ⟨by decide, by decide⟩ rfl (fun r21 μ21 hq21 hm21 => ?_) (fun _ _ h9 => h9)
    obtain ⟨rfl, rfl⟩ := hq21
    dsimp only [Option.toList, List.nil_append, List.cons_append]
    refine mj_if_eq (tgt := 49) (pc' := 27) C dX6_law_24 (by decide) rfl (fun h24 => ?_) (fun h24 => ?_)
    · have hq : (y < 1 ∨ 100 < y) ∨ (w < 0 ∨ 1000 < w) ∨ (q < 1 ∨ 50 < q) := Or.inl (nin (b1_0.mp h24))
      have hz : mretv (o_law S (nI a) y w q) kA _ (sI _ 20 0 35 2) := mfailv (c := 2) (by unfold o_law; rw [if_neg hb, if_pos hq]) (by decide) rfl rfl (mR_x hR (Or.inl ⟨rfl, rfl⟩)) mF.rf
      refine mj_aload_n (pc' := 50) C dX6_law_49 rfl rfl ?_
      refine mj_iconst (pc' := 51) (v := 2) C dX6_law_50 rfl rfl ?_
      refine mj_putI (pc' := 54) C dX6_law_51 rfl (ci := 6) (f := 35) rfl (by decide) (by decide) rfl (fun _ _ => rfl) (by decide) kf_X6_105 rfl rfl hR.B.l0 ?_
      have hR := mR_x (kd := 20) (i := 0) (z := 35) (v := 2) hR (Or.inl ⟨rfl, rfl⟩)
      refine mj_goto (pc' := 84) C dX6_law_54 (by decide) ?_
      refine mj_vret C dX6_law_84 (by decide) (by decide) (by decide) ?_
      exact ⟨rfl, hz⟩
    · refine mj_iload_n (pc' := 28) C dX6_law_27 rfl rfl ?_
      refine mj_iconst (pc' := 29) (v := 0) C dX6_law_28 rfl rfl ?_
      refine mj_sipush (pc' := 32) (v := 1000) C dX6_law_29 rfl rfl ?_
      refine mj_callSN_3 (pc' := 35) C (c_X6_in hst w 0 1000) dX6_law_32 rfl km_X6_108 ks_yX6_in kn_X6 kc_yX6_in ⟨by decide, by decide, by decide +kernel⟩ ⟨by decide, by decide⟩ (by decide) ⟨by decide, by decide⟩ rfl (fun r32 μ32 hq32 hm32 => ?_) (fun _ _ h9 => h9)
      obtain ⟨rfl, rfl⟩ := hq32
      dsimp only [Option.toList, List.nil_append, List.cons_append]
      refine mj_if_eq (tgt := 49) (pc' := 38) C dX6_law_35 (by decide) rfl (fun h35 => ?_) (fun h35 => ?_)
      · have hq : (y < 1 ∨ 100 < y) ∨ (w < 0 ∨ 1000 < w) ∨ (q < 1 ∨ 50 < q) := Or.inr (Or.inl (nin (b1_0.mp h35)))
        have hz : mretv (o_law S (nI a) y w q) kA _ (sI _ 20 0 35 2) := mfailv (c := 2) (by unfold o_law; rw [if_neg hb, if_pos hq]) (by decide) rfl rfl (mR_x hR (Or.inl ⟨rfl, rfl⟩)) mF.rf
        refine mj_aload_n (pc' := 50) C dX6_law_49 rfl rfl ?_
        refine mj_iconst (pc' := 51) (v := 2) C dX6_law_50 rfl rfl ?_
        refine mj_putI (pc' := 54) C dX6_law_51 rfl (ci := 6) (f := 35) rfl (by decide) (by decide) rfl (fun _ _ => rfl) (by decide) kf_X6_105 rfl rfl hR.B.l0 ?_
        have hR := mR_x (kd := 20) (i := 0) (z := 35) (v := 2) hR (Or.inl ⟨rfl, rfl⟩)
        refine mj_goto (pc' := 84) C dX6_law_54 (by decide) ?_
        refine mj_vret C dX6_law_84 (by decide) (by decide) (by decide) ?_
        exact ⟨rfl, hz⟩
      · refine mj_iload (pc' := 40) C dX6_law_38 rfl rfl ?_
        refine mj_iconst (pc' := 41) (v := 1) C dX6_law_40 rfl rfl ?_
        refine mj_bipush (pc' := 43) (v := 50) C dX6_law_41 rfl rfl ?_
        refine mj_callSN_3 (pc' := 46) C (c_X6_in hst q 1 50) dX6_law_43 rfl km_X6_108 ks_yX6_in kn_X6 kc_yX6_in ⟨by decide, by decide, by decide +kernel⟩ ⟨by decide, by decide⟩ (by decide) ⟨by decide, by decide⟩ rfl (fun r43 μ43 hq43 hm43 => ?_) (fun _ _ h9 => h9)
        obtain ⟨rfl, rfl⟩ := hq43
        dsimp only [Option.toList, List.nil_append, List.cons_append]
        refine mj_if_ne (tgt := 57) (pc' := 49) C dX6_law_46 (by decide) rfl (fun h46 => ?_) (fun h46 => ?_)
        · have hng : ¬ ((y < 1 ∨ 100 < y) ∨ (w < 0 ∨ 1000 < w) ∨ (q < 1 ∨ 50 < q)) := fun h => h.elim (inn (b1_n h24)) (fun h => h.elim (inn (b1_n h35)) (inn (b1_n h46)))
          have hz := mlaw (y := y) (w := w) (q := q) hR ha (by unfold o_law; rw [if_neg hb, if_neg hng, ea])
          refine mj_aload_n (pc' := 58) C dX6_law_57 rfl rfl ?_
          refine mj_iconst (pc' := 59) (v := 0) C dX6_law_58 rfl rfl ?_
          refine mj_putI (pc' := 62) C dX6_law_59 rfl (ci := 6) (f := 35) rfl (by decide) (by decide) rfl (fun _ _ => rfl) (by decide) kf_X6_105 rfl rfl hR.B.l0 ?_
          have hR := mR_x (kd := 20) (i := 0) (z := 35) (v := 0) hR (Or.inl ⟨rfl, rfl⟩)
          refine mj_aload_n (pc' := 63) C dX6_law_62 rfl rfl ?_
          refine mj_getR (pc' := 66) C dX6_law_63 rfl (ci := 6) (f := 6) rfl (by decide) (by decide) (fun _ => rfl) (by decide) kf_X6_29 hR.B.l0 (hR.B.p 6 (by decide) rfl) ?_
          refine mj_iload_n (pc' := 67) C dX6_law_66 rfl rfl ?_
          refine mj_iload_n (pc' := 68) C dX6_law_67 rfl rfl ?_
          refine mj_iast (pc' := 69) C dX6_law_68 rfl rfl (by decide) (by decide) (hR.B.l 6 (by decide) rfl) rfl (by first | assumption | omega) ?_
          refine mj_aload_n (pc' := 70) C dX6_law_69 rfl rfl ?_
          refine mj_getR (pc' := 73) C dX6_law_70 rfl (ci := 6) (f := 7) rfl (by decide) (by decide) (fun _ => rfl) (by decide) kf_X6_32 hR.B.l0 (hR.B.p 7 (by decide) rfl) ?_
          refine mj_iload_n (pc' := 74) C dX6_law_73 rfl rfl ?_
          refine mj_iload_n (pc' := 75) C dX6_law_74 rfl rfl ?_
          refine mj_iast (pc' := 76) C dX6_law_75 rfl rfl (by decide) (by decide) (hR.B.l 7 (by decide) rfl) rfl (by first | assumption | omega) ?_
          refine mj_aload_n (pc' := 77) C dX6_law_76 rfl rfl ?_
          refine mj_getR (pc' := 80) C dX6_law_77 rfl (ci := 6) (f := 8) rfl (by decide) (by decide) (fun _ => rfl) (by decide) kf_X6_35 hR.B.l0 (hR.B.p 8 (by decide) rfl) ?_
          refine mj_iload_n (pc' := 81) C dX6_law_80 rfl rfl ?_
          refine mj_iload (pc' := 83) C dX6_law_81 rfl rfl ?_
          refine mj_iast (pc' := 84) C dX6_law_83 rfl rfl (by decide) (by decide) (hR.B.l 8 (by decide) rfl) rfl (by first | assumption | omega) ?_
          refine mj_vret C dX6_law_84 (by decide) (by decide) (by decide) ?_
          exact ⟨rfl, hz⟩
        · have hq : (y < 1 ∨ 100 < y) ∨ (w < 0 ∨ 1000 < w) ∨ (q < 1 ∨ 50 < q) := Or.inr (Or.inr (nin (b1_0.mp h46)))
          have hz : mretv (o_law S (nI a) y w q) kA _ (sI _ 20 0 35 2) := mfailv (c := 2) (by unfold o_law; rw [if_neg hb, if_pos hq]) (by decide) rfl rfl (mR_x hR (Or.inl ⟨rfl, rfl⟩)) mF.rf
          refine mj_aload_n (pc' := 50) C dX6_law_49 rfl rfl ?_
          refine mj_iconst (pc' := 51) (v := 2) C dX6_law_50 rfl rfl ?_
          refine mj_putI (pc' := 54) C dX6_law_51 rfl (ci := 6) (f := 35) rfl (by decide) (by decide) rfl (fun _ _ => rfl) (by decide) kf_X6_105 rfl rfl hR.B.l0 ?_
          have hR := mR_x (kd := 20) (i := 0) (z := 35) (v := 2) hR (Or.inl ⟨rfl, rfl⟩)
          refine mj_goto (pc' := 84) C dX6_law_54 (by decide) ?_
          refine mj_vret C dX6_law_84 (by decide) (by decide) (by decide) ?_
          exact ⟨rfl, hz⟩
  · have hb : bad j 5 := Decidable.not_not.mp (fun h => b1_0.mp h6 ((bad_in (n := 4) (by decide)).mpr h))
    have hz : mretv (o_law S j y w q) kA _ (sI _ 20 0 35 1) := mfailv (c := 1) (by unfold o_law; rw [if_pos hb]) (by decide) rfl rfl (mR_x hR (Or.inl ⟨rfl, rfl⟩)) mF.rf
    refine mj_aload_n (pc' := 10) C dX6_law_9 rfl rfl ?_
    refine mj_iconst (pc' := 11) (v := 1) C dX6_law_10 rfl rfl ?_
    refine mj_putI (pc' := 14) C dX6_law_11 rfl (ci := 6) (f := 35) rfl (by decide) (by decide) rfl (fun _ _ => rfl) (by decide) kf_X6_105 rfl rfl hR.B.l0 ?_
    have hR := mR_x (kd := 20) (i := 0) (z := 35) (v := 1) hR (Or.inl ⟨rfl, rfl⟩)
    refine mj_goto (pc' := 84) C dX6_law_14 (by decide) ?_
    refine mj_vret C dX6_law_84 (by decide) (by decide) (by decide) ?_
    exact ⟨rfl, hz⟩

set_option maxRecDepth 20000 in
theorem c_X6_hold {l : Launch} (hst : l.stackTraces = false) (S : jS) (i v : Int32) : jMet l yX6_hold cX6_hold 4 (some FieldType.boolean) 8 180 0 0 (fun avs μ => avs = [aR 20 0, aI i, aI v] ∧ mR S μ ∧ sW S ∧ (v = 0 ∨ v = 1)) (fun avs μ r μ' => mret (o_hold S i v) kB r μ μ') (fun avs μ E μ' => False) := by
  refine jMet_of hst (by decide) ?_
  intro avs μ J C hav hpre
  obtain ⟨rfl, hR, hW, hv⟩ := hpre
  refine ⟨Nat.le_of_ble_eq_true rfl, ?_⟩
  show J 0 [some (aR 20 0), some (aI i), some (aI v), none] [] μ 0 0
  have hW0 := hW.1.1
  have hW1 := hW.1.2
  refine mj_aload_n (pc' := 1) C dX6_hold_0 rfl rfl ?_
  refine mj_iload_n (pc' := 2) C dX6_hold_1 rfl rfl ?_
  refine mj_callVN_1 (ci := 6) (pc' := 5) C (c_X6_isNoFile hst S i) dX6_hold_2 rfl km_X6_163 ki_yX6_isNoFile kz_yX6_isNoFile kn_X6 kc_yX6_isNoFile rfl (by decide) (by decide) ⟨rfl, by decide, by decide, by decide +kernel⟩ ⟨by decide, by decide⟩ (by decide) ⟨by decide, by decide⟩ ⟨rfl, hR, hW⟩ (fun r2 μ2 hq2 hm2 => ?_) (fun _ _ h9 => h9)
  obtain ⟨rfl, rfl⟩ := hq2
  dsimp only [Option.toList, List.nil_append, List.cons_append]
  refine mj_if_eq (tgt := 23) (pc' := 8) C dX6_hold_5 (by decide) rfl (fun h5 => ?_) (fun h5 => ?_)
  · have hb := b1_0.mp h5
    obtain ⟨a, ha, rfl, ea⟩ := bad_of hb (by omega)
    refine mj_aload_n (pc' := 24) C dX6_hold_23 rfl rfl ?_
    refine mj_getR (pc' := 27) C dX6_hold_24 rfl (ci := 6) (f := 15) rfl (by decide) (by decide) (fun _ => rfl) (by decide) kf_X6_56 hR.B.l0 (hR.B.p 15 (by decide) rfl) ?_
    refine mj_iload_n (pc' := 28) C dX6_hold_27 rfl rfl ?_
    refine mj_ialdV (pc' := 29) C dX6_hold_28 rfl rfl (by decide) (by decide) (hR.B.l 15 (by decide) rfl) rfl (by first | assumption | omega) (hR.v 15 (by decide) rfl (by unfold sl; simp <;> first | assumption | omega)) ?_
    refine mj_if_eq (tgt := 47) (pc' := 32) C dX6_hold_29 (by decide) rfl (fun h29 => ?_) (fun h29 => ?_)
    · refine mj_aload_n (pc' := 48) C dX6_hold_47 rfl rfl ?_
      refine mj_iconst (pc' := 49) (v := 0) C dX6_hold_48 rfl rfl ?_
      refine mj_putI (pc' := 52) C dX6_hold_49 rfl (ci := 6) (f := 35) rfl (by decide) (by decide) rfl (fun _ _ => rfl) (by decide) kf_X6_105 rfl rfl hR.B.l0 ?_
      have hR := mR_x (kd := 20) (i := 0) (z := 35) (v := 0) hR (Or.inl ⟨rfl, rfl⟩)
      refine mj_aload_n (pc' := 53) C dX6_hold_52 rfl rfl ?_
      refine mj_getR (pc' := 56) C dX6_hold_53 rfl (ci := 6) (f := 16) rfl (by decide) (by decide) (fun _ => rfl) (by decide) kf_X6_59 hR.B.l0 (hR.B.p 16 (by decide) rfl) ?_
      refine mj_iload_n (pc' := 57) C dX6_hold_56 rfl rfl ?_
      refine mj_zaldV (pc' := 58) C dX6_hold_57 rfl rfl (by decide) (by decide) (hR.B.l 16 (by decide) rfl) rfl (by first | assumption | omega) (hR.v 16 (by decide) rfl (by unfold sl; simp <;> first | assumption | omega)) ?_
      refine mj_iload_n (pc' := 59) C dX6_hold_58 rfl rfl ?_
      refine mj_icmp_eq (tgt := 66) (pc' := 62) C dX6_hold_59 (by decide) rfl (fun h59 => ?_) (fun h59 => ?_)
      · have hbv : b1 (sf S 16 a ≠ v) = 0 := b1_f (fun h => h h59)
        refine mj_iconst (pc' := 67) (v := 0) C dX6_hold_66 rfl rfl ?_
        refine mj_istore_n_3 (pc' := 68) C dX6_hold_67 rfl (by decide) rfl ?_
        refine mj_aload_n (pc' := 69) C dX6_hold_68 rfl rfl ?_
        refine mj_getR (pc' := 72) C dX6_hold_69 rfl (ci := 6) (f := 16) rfl (by decide) (by decide) (fun _ => rfl) (by decide) kf_X6_59 hR.B.l0 (hR.B.p 16 (by decide) rfl) ?_
        refine mj_iload_n (pc' := 73) C dX6_hold_72 rfl rfl ?_
        refine mj_iload_n (pc' := 74) C dX6_hold_73 rfl rfl ?_
        refine mj_zast (pc' := 75) C dX6_hold_74 rfl rfl (by decide) (by decide) (by rcases hv with rfl | rfl <;> rfl) (hR.B.l 16 (by decide) rfl) rfl (by first | assumption | omega) ?_
        refine mj_iload_n (pc' := 76) C dX6_hold_75 rfl rfl ?_
        refine mj_zret C rfl dX6_hold_76 (by decide) (by decide) (by decide) ?_
        exact mret_of (o := o_hold S (nI a) v) (by unfold o_hold; rw [if_neg hb, ea, if_neg (fun h => h h29), hbv]) (z35n z35 (by omega)) (mR_v hR 37 rfl (by omega)) (mF_sI (by decide) (mF_sI (by decide) mF.rf))
      · have hbv : b1 (sf S 16 a ≠ v) = 1 := b1_t h59
        refine mj_iconst (pc' := 63) (v := 1) C dX6_hold_62 rfl rfl ?_
        refine mj_goto (pc' := 67) C dX6_hold_63 (by decide) ?_
        refine mj_istore_n_3 (pc' := 68) C dX6_hold_67 rfl (by decide) rfl ?_
        refine mj_aload_n (pc' := 69) C dX6_hold_68 rfl rfl ?_
        refine mj_getR (pc' := 72) C dX6_hold_69 rfl (ci := 6) (f := 16) rfl (by decide) (by decide) (fun _ => rfl) (by decide) kf_X6_59 hR.B.l0 (hR.B.p 16 (by decide) rfl) ?_
        refine mj_iload_n (pc' := 73) C dX6_hold_72 rfl rfl ?_
        refine mj_iload_n (pc' := 74) C dX6_hold_73 rfl rfl ?_
        refine mj_zast (pc' := 75) C dX6_hold_74 rfl rfl (by decide) (by decide) (by rcases hv with rfl | rfl <;> rfl) (hR.B.l 16 (by decide) rfl) rfl (by first | assumption | omega) ?_
        refine mj_iload_n (pc' := 76) C dX6_hold_75 rfl rfl ?_
        refine mj_zret C rfl dX6_hold_76 (by decide) (by decide) (by decide) ?_
        exact mret_of (o := o_hold S (nI a) v) (by unfold o_hold; rw [if_neg hb, ea, if_neg (fun h => h h29), hbv]) (z35n z35 (by omega)) (mR_v hR 37 rfl (by omega)) (mF_sI (by decide) (mF_sI (by decide) mF.rf))
    · refine mj_aload_n (pc' := 33) C dX6_hold_32 rfl rfl ?_
      refine mj_iconst (pc' := 34) (v := 2) C dX6_hold_33 rfl rfl ?_
      refine mj_callVN_1 (ci := 6) (pc' := 37) C (c_X6_fails hst S 2) dX6_hold_34 rfl km_X6_150 ki_yX6_fails kz_yX6_fails kn_X6 kc_yX6_fails rfl (by decide) (by decide) ⟨rfl, by decide, by decide, by decide +kernel⟩ ⟨by decide, by decide⟩ (by decide) ⟨by decide, by decide⟩ ⟨rfl, hR⟩ (fun r34 μ34 hq34 hm34 => ?_) (fun _ _ h9 => h9)
      obtain ⟨rfl, rfl⟩ := hq34
      dsimp only [Option.toList, List.nil_append, List.cons_append]
      refine mj_iconst (pc' := 38) (v := 1) C dX6_hold_37 rfl rfl ?_
      refine mj_icmp_ne (tgt := 45) (pc' := 41) C dX6_hold_38 (by decide) rfl (fun _ => ?_) (fun h9 => absurd h9 (by decide))
      refine mj_iconst (pc' := 46) (v := 0) C dX6_hold_45 rfl rfl ?_
      refine mj_zret C rfl dX6_hold_46 (by decide) (by decide) (by decide) ?_
      exact mfail (o := o_hold S (nI a) v) (c := 3) (w := 2) (by unfold o_hold; rw [if_neg hb, ea, if_pos h29]) rfl (by decide) rfl rfl (mR_x hR (Or.inl ⟨rfl, rfl⟩)) mF.rf
  · have hb := b1_n h5
    refine mj_aload_n (pc' := 9) C dX6_hold_8 rfl rfl ?_
    refine mj_iconst (pc' := 10) (v := 1) C dX6_hold_9 rfl rfl ?_
    refine mj_callVN_1 (ci := 6) (pc' := 13) C (c_X6_fails hst S 1) dX6_hold_10 rfl km_X6_150 ki_yX6_fails kz_yX6_fails kn_X6 kc_yX6_fails rfl (by decide) (by decide) ⟨rfl, by decide, by decide, by decide +kernel⟩ ⟨by decide, by decide⟩ (by decide) ⟨by decide, by decide⟩ ⟨rfl, hR⟩ (fun r10 μ10 hq10 hm10 => ?_) (fun _ _ h9 => h9)
    obtain ⟨rfl, rfl⟩ := hq10
    dsimp only [Option.toList, List.nil_append, List.cons_append]
    refine mj_iconst (pc' := 14) (v := 1) C dX6_hold_13 rfl rfl ?_
    refine mj_icmp_ne (tgt := 21) (pc' := 17) C dX6_hold_14 (by decide) rfl (fun _ => ?_) (fun h9 => absurd h9 (by decide))
    refine mj_iconst (pc' := 22) (v := 0) C dX6_hold_21 rfl rfl ?_
    refine mj_zret C rfl dX6_hold_22 (by decide) (by decide) (by decide) ?_
    exact mfail (o := o_hold S i v) (c := 1) (w := 1) (by unfold o_hold; rw [if_pos hb]) rfl (by decide) rfl rfl (mR_x hR (Or.inl ⟨rfl, rfl⟩)) mF.rf

set_option maxRecDepth 20000 in
theorem c_X6_read {l : Launch} (hst : l.stackTraces = false) (S : jS) (i : Int32) : jMet l yX6_read cX6_read 3 (some FieldType.int) 8 180 0 0 (fun avs μ => avs = [aR 20 0, aI i] ∧ mR S μ ∧ sW S) (fun avs μ r μ' => mret (o_read S i) kB r μ μ') (fun avs μ E μ' => False) := by
  refine jMet_of hst (by decide) ?_
  intro avs μ J C hav hpre
  obtain ⟨rfl, hR, hW⟩ := hpre
  refine ⟨Nat.le_of_ble_eq_true rfl, ?_⟩
  show J 0 [some (aR 20 0), some (aI i), none] [] μ 0 0
  have hW0 := hW.1.1
  have hW1 := hW.1.2
  refine mj_aload_n (pc' := 1) C dX6_read_0 rfl rfl ?_
  refine mj_iload_n (pc' := 2) C dX6_read_1 rfl rfl ?_
  refine mj_callVN_1 (ci := 6) (pc' := 5) C (c_X6_isNoFile hst S i) dX6_read_2 rfl km_X6_163 ki_yX6_isNoFile kz_yX6_isNoFile kn_X6 kc_yX6_isNoFile rfl (by decide) (by decide) ⟨rfl, by decide, by decide, by decide +kernel⟩ ⟨by decide, by decide⟩ (by decide) ⟨by decide, by decide⟩ ⟨rfl, hR, hW⟩ (fun r2 μ2 hq2 hm2 => ?_) (fun _ _ h9 => h9)
  obtain ⟨rfl, rfl⟩ := hq2
  dsimp only [Option.toList, List.nil_append, List.cons_append]
  refine mj_if_eq (tgt := 14) (pc' := 8) C dX6_read_5 (by decide) rfl (fun h5 => ?_) (fun h5 => ?_)
  · have hb := b1_0.mp h5
    obtain ⟨a, ha, rfl, ea⟩ := bad_of hb (by omega)
    obtain ⟨u, hu, eu⟩ := (hW.2.2.1 a ha).2.1
    obtain ⟨g, hg, eg⟩ := (hW.2.2.1 a ha).1
    have efL : fL S a = u := by unfold fL; rw [eu]; exact ix_nI (by omega)
    have efF : fF S a = g := by unfold fF; rw [eg]; exact ix_nI (by omega)
    refine mj_aload_n (pc' := 15) C dX6_read_14 rfl rfl ?_
    refine mj_getR (pc' := 18) C dX6_read_15 rfl (ci := 6) (f := 15) rfl (by decide) (by decide) (fun _ => rfl) (by decide) kf_X6_56 hR.B.l0 (hR.B.p 15 (by decide) rfl) ?_
    refine mj_iload_n (pc' := 19) C dX6_read_18 rfl rfl ?_
    refine mj_ialdV (pc' := 20) C dX6_read_19 rfl rfl (by decide) (by decide) (hR.B.l 15 (by decide) rfl) rfl (by first | assumption | omega) (hR.v 15 (by decide) rfl (by unfold sl; simp <;> first | assumption | omega)) ?_
    refine mj_if_ne (tgt := 56) (pc' := 23) C dX6_read_20 (by decide) rfl (fun h20 => ?_) (fun h20 => ?_)
    · have hq : sf S 15 a ≠ 0 ∨ ¬ canR S (fF S a) ∨ sf S 12 a < sf S 7 (fL S a) := Or.inl h20
      refine mj_aload_n (pc' := 57) C dX6_read_56 rfl rfl ?_
      refine mj_iconst (pc' := 58) (v := 2) C dX6_read_57 rfl rfl ?_
      refine mj_callVN_1 (ci := 6) (pc' := 61) C (c_X6_fails hst S 2) dX6_read_58 rfl km_X6_150 ki_yX6_fails kz_yX6_fails kn_X6 kc_yX6_fails rfl (by decide) (by decide) ⟨rfl, by decide, by decide, by decide +kernel⟩ ⟨by decide, by decide⟩ (by decide) ⟨by decide, by decide⟩ ⟨rfl, hR⟩ (fun r58 μ58 hq58 hm58 => ?_) (fun _ _ h9 => h9)
      obtain ⟨rfl, rfl⟩ := hq58
      dsimp only [Option.toList, List.nil_append, List.cons_append]
      refine mj_iret C dX6_read_61 (by decide) (by decide) (by decide) ?_
      exact mfail (o := o_read S (nI a)) (c := 3) (w := 2) (by unfold o_read; rw [if_neg hb, ea, if_pos hq]) rfl (by decide) rfl rfl (mR_x hR (Or.inl ⟨rfl, rfl⟩)) mF.rf
    · refine mj_aload_n (pc' := 24) C dX6_read_23 rfl rfl ?_
      refine mj_aload_n (pc' := 25) C dX6_read_24 rfl rfl ?_
      refine mj_getR (pc' := 28) C dX6_read_25 rfl (ci := 6) (f := 9) rfl (by decide) (by decide) (fun _ => rfl) (by decide) kf_X6_38 hR.B.l0 (hR.B.p 9 (by decide) rfl) ?_
      refine mj_iload_n (pc' := 29) C dX6_read_28 rfl rfl ?_
      refine mj_ialdV (pc' := 30) C dX6_read_29 rfl rfl (by decide) (by decide) (hR.B.l 9 (by decide) rfl) rfl (by first | assumption | omega) ((hR.v 9 (by decide) rfl (by unfold sl; simp <;> first | assumption | omega)).trans eg) ?_
      refine mj_callVN_1 (ci := 6) (pc' := 33) C (c_X6_canBeRead hst S g) dX6_read_30 rfl km_X6_154 ki_yX6_canBeRead kz_yX6_canBeRead kn_X6 kc_yX6_canBeRead rfl (by decide) (by decide) ⟨rfl, by decide, by decide, by decide +kernel⟩ ⟨by decide, by decide⟩ (by decide) ⟨by decide, by decide⟩ ⟨rfl, hR, hg⟩ (fun r30 μ30 hq30 hm30 => ?_) (fun _ _ h9 => h9)
      obtain ⟨rfl, rfl⟩ := hq30
      dsimp only [Option.toList, List.nil_append, List.cons_append]
      refine mj_if_eq (tgt := 56) (pc' := 36) C dX6_read_33 (by decide) rfl (fun h33 => ?_) (fun h33 => ?_)
      · have hq : sf S 15 a ≠ 0 ∨ ¬ canR S (fF S a) ∨ sf S 12 a < sf S 7 (fL S a) := Or.inr (Or.inl (by rw [efF]; exact b1_0.mp h33))
        refine mj_aload_n (pc' := 57) C dX6_read_56 rfl rfl ?_
        refine mj_iconst (pc' := 58) (v := 2) C dX6_read_57 rfl rfl ?_
        refine mj_callVN_1 (ci := 6) (pc' := 61) C (c_X6_fails hst S 2) dX6_read_58 rfl km_X6_150 ki_yX6_fails kz_yX6_fails kn_X6 kc_yX6_fails rfl (by decide) (by decide) ⟨rfl, by decide, by decide, by decide +kernel⟩ ⟨by decide, by decide⟩ (by decide) ⟨by decide, by decide⟩ ⟨rfl, hR⟩ (fun r58 μ58 hq58 hm58 => ?_) (fun _ _ h9 => h9)
        obtain ⟨rfl, rfl⟩ := hq58
        dsimp only [Option.toList, List.nil_append, List.cons_append]
        refine mj_iret C dX6_read_61 (by decide) (by decide) (by decide) ?_
        exact mfail (o := o_read S (nI a)) (c := 3) (w := 2) (by unfold o_read; rw [if_neg hb, ea, if_pos hq]) rfl (by decide) rfl rfl (mR_x hR (Or.inl ⟨rfl, rfl⟩)) mF.rf
      · refine mj_aload_n (pc' := 37) C dX6_read_36 rfl rfl ?_
        refine mj_getR (pc' := 40) C dX6_read_37 rfl (ci := 6) (f := 12) rfl (by decide) (by decide) (fun _ => rfl) (by decide) kf_X6_47 hR.B.l0 (hR.B.p 12 (by decide) rfl) ?_
        refine mj_iload_n (pc' := 41) C dX6_read_40 rfl rfl ?_
        refine mj_ialdV (pc' := 42) C dX6_read_41 rfl rfl (by decide) (by decide) (hR.B.l 12 (by decide) rfl) rfl (by first | assumption | omega) (hR.v 12 (by decide) rfl (by unfold sl; simp <;> first | assumption | omega)) ?_
        refine mj_aload_n (pc' := 43) C dX6_read_42 rfl rfl ?_
        refine mj_getR (pc' := 46) C dX6_read_43 rfl (ci := 6) (f := 7) rfl (by decide) (by decide) (fun _ => rfl) (by decide) kf_X6_32 hR.B.l0 (hR.B.p 7 (by decide) rfl) ?_
        refine mj_aload_n (pc' := 47) C dX6_read_46 rfl rfl ?_
        refine mj_getR (pc' := 50) C dX6_read_47 rfl (ci := 6) (f := 11) rfl (by decide) (by decide) (fun _ => rfl) (by decide) kf_X6_44 hR.B.l0 (hR.B.p 11 (by decide) rfl) ?_
        refine mj_iload_n (pc' := 51) C dX6_read_50 rfl rfl ?_
        refine mj_ialdV (pc' := 52) C dX6_read_51 rfl rfl (by decide) (by decide) (hR.B.l 11 (by decide) rfl) rfl (by first | assumption | omega) ((hR.v 11 (by decide) rfl (by unfold sl; simp <;> first | assumption | omega)).trans eu) ?_
        refine mj_ialdV (pc' := 53) C dX6_read_52 rfl rfl (by decide) (by decide) (hR.B.l 7 (by decide) rfl) rfl (by first | assumption | omega) (hR.v 7 (by decide) rfl (by unfold sl; simp <;> first | assumption | omega)) ?_
        refine mj_icmp_ge (tgt := 62) (pc' := 56) C dX6_read_53 (by decide) rfl (fun h53 => ?_) (fun h53 => ?_)
        · have hnq : ¬ (sf S 15 a ≠ 0 ∨ ¬ canR S (fF S a) ∨ sf S 12 a < sf S 7 (fL S a)) := by rw [efF, efL]; rintro (h | h | h); exact h h20; exact h (b1_n h33); exact absurd h (Int32.not_lt.mpr h53)
          refine mj_aload_n (pc' := 63) C dX6_read_62 rfl rfl ?_
          refine mj_iconst (pc' := 64) (v := 0) C dX6_read_63 rfl rfl ?_
          refine mj_putI (pc' := 67) C dX6_read_64 rfl (ci := 6) (f := 35) rfl (by decide) (by decide) rfl (fun _ _ => rfl) (by decide) kf_X6_105 rfl rfl hR.B.l0 ?_
          have hR := mR_x (kd := 20) (i := 0) (z := 35) (v := 0) hR (Or.inl ⟨rfl, rfl⟩)
          refine mj_aload_n (pc' := 68) C dX6_read_67 rfl rfl ?_
          refine mj_getV (pc' := 71) C dX6_read_68 rfl (ci := 6) (f := 33) rfl (by decide) (by decide) (fun _ => rfl) (by decide) kf_X6_115 hR.B.l0 hR.now ?_
          refine mj_aload_n (pc' := 72) C dX6_read_71 rfl rfl ?_
          refine mj_getR (pc' := 75) C dX6_read_72 rfl (ci := 6) (f := 14) rfl (by decide) (by decide) (fun _ => rfl) (by decide) kf_X6_53 hR.B.l0 (hR.B.p 14 (by decide) rfl) ?_
          refine mj_iload_n (pc' := 76) C dX6_read_75 rfl rfl ?_
          refine mj_ialdV (pc' := 77) C dX6_read_76 rfl rfl (by decide) (by decide) (hR.B.l 14 (by decide) rfl) rfl (by first | assumption | omega) (hR.v 14 (by decide) rfl (by unfold sl; simp <;> first | assumption | omega)) ?_
          refine mj_isub (pc' := 78) C dX6_read_77 rfl ?_
          refine mj_istore_n_2 (pc' := 79) C dX6_read_78 rfl (by decide) rfl ?_
          refine mj_aload_n (pc' := 80) C dX6_read_79 rfl rfl ?_
          refine mj_getR (pc' := 83) C dX6_read_80 rfl (ci := 6) (f := 14) rfl (by decide) (by decide) (fun _ => rfl) (by decide) kf_X6_53 hR.B.l0 (hR.B.p 14 (by decide) rfl) ?_
          refine mj_iload_n (pc' := 84) C dX6_read_83 rfl rfl ?_
          refine mj_aload_n (pc' := 85) C dX6_read_84 rfl rfl ?_
          refine mj_getV (pc' := 88) C dX6_read_85 rfl (ci := 6) (f := 33) rfl (by decide) (by decide) (fun _ => rfl) (by decide) kf_X6_115 hR.B.l0 hR.now ?_
          refine mj_iast (pc' := 89) C dX6_read_88 rfl rfl (by decide) (by decide) (hR.B.l 14 (by decide) rfl) rfl (by first | assumption | omega) ?_
          refine mj_iload_n (pc' := 90) C dX6_read_89 rfl rfl ?_
          refine mj_iret C dX6_read_90 (by decide) (by decide) (by decide) ?_
          exact mret_of (o := o_read S (nI a)) (by unfold o_read; rw [if_neg hb, ea, if_neg hnq]) (z35n z35 (by omega)) (mR_v hR 35 rfl (by omega)) (mF_sI (by decide) (mF_sI (by decide) mF.rf))
        · have hq : sf S 15 a ≠ 0 ∨ ¬ canR S (fF S a) ∨ sf S 12 a < sf S 7 (fL S a) := Or.inr (Or.inr (by rw [efL]; exact Int32.not_le.mp h53))
          refine mj_aload_n (pc' := 57) C dX6_read_56 rfl rfl ?_
          refine mj_iconst (pc' := 58) (v := 2) C dX6_read_57 rfl rfl ?_
          refine mj_callVN_1 (ci := 6) (pc' := 61) C (c_X6_fails hst S 2) dX6_read_58 rfl km_X6_150 ki_yX6_fails kz_yX6_fails kn_X6 kc_yX6_fails rfl (by decide) (by decide) ⟨rfl, by decide, by decide, by decide +kernel⟩ ⟨by decide, by decide⟩ (by decide) ⟨by decide, by decide⟩ ⟨rfl, hR⟩ (fun r58 μ58 hq58 hm58 => ?_) (fun _ _ h9 => h9)
          obtain ⟨rfl, rfl⟩ := hq58
          dsimp only [Option.toList, List.nil_append, List.cons_append]
          refine mj_iret C dX6_read_61 (by decide) (by decide) (by decide) ?_
          exact mfail (o := o_read S (nI a)) (c := 3) (w := 2) (by unfold o_read; rw [if_neg hb, ea, if_pos hq]) rfl (by decide) rfl rfl (mR_x hR (Or.inl ⟨rfl, rfl⟩)) mF.rf
  · have hb := b1_n h5
    refine mj_aload_n (pc' := 9) C dX6_read_8 rfl rfl ?_
    refine mj_iconst (pc' := 10) (v := 1) C dX6_read_9 rfl rfl ?_
    refine mj_callVN_1 (ci := 6) (pc' := 13) C (c_X6_fails hst S 1) dX6_read_10 rfl km_X6_150 ki_yX6_fails kz_yX6_fails kn_X6 kc_yX6_fails rfl (by decide) (by decide) ⟨rfl, by decide, by decide, by decide +kernel⟩ ⟨by decide, by decide⟩ (by decide) ⟨by decide, by decide⟩ ⟨rfl, hR⟩ (fun r10 μ10 hq10 hm10 => ?_) (fun _ _ h9 => h9)
    obtain ⟨rfl, rfl⟩ := hq10
    dsimp only [Option.toList, List.nil_append, List.cons_append]
    refine mj_iret C dX6_read_13 (by decide) (by decide) (by decide) ?_
    exact mfail (o := o_read S i) (c := 1) (w := 1) (by unfold o_read; rw [if_pos hb]) rfl (by decide) rfl rfl (mR_x hR (Or.inl ⟨rfl, rfl⟩)) mF.rf

set_option maxRecDepth 20000 in
theorem c_X6_stateOf {l : Launch} (hst : l.stackTraces = false) (S : jS) (i : Int32) : jMet l yX6_stateOf cX6_stateOf 2 (some FieldType.int) 8 180 0 0 (fun avs μ => avs = [aR 20 0, aI i] ∧ mR S μ ∧ sW S) (fun avs μ r μ' => mret (o_get S 15 i) kA r μ μ') (fun avs μ E μ' => False) := by
  refine jMet_of hst (by decide) ?_
  intro avs μ J C hav hpre
  obtain ⟨rfl, hR, hW⟩ := hpre
  refine ⟨Nat.le_of_ble_eq_true rfl, ?_⟩
  show J 0 [some (aR 20 0), some (aI i)] [] μ 0 0
  have hW0 := hW.1.1
  have hW1 := hW.1.2
  refine mj_aload_n (pc' := 1) C dX6_stateOf_0 rfl rfl ?_
  refine mj_iload_n (pc' := 2) C dX6_stateOf_1 rfl rfl ?_
  refine mj_callVN_1 (ci := 6) (pc' := 5) C (c_X6_isNoFile hst S i) dX6_stateOf_2 rfl km_X6_163 ki_yX6_isNoFile kz_yX6_isNoFile kn_X6 kc_yX6_isNoFile rfl (by decide) (by decide) ⟨rfl, by decide, by decide, by decide +kernel⟩ ⟨by decide, by decide⟩ (by decide) ⟨by decide, by decide⟩ ⟨rfl, hR, hW⟩ (fun r2 μ2 hq2 hm2 => ?_) (fun _ _ h9 => h9)
  obtain ⟨rfl, rfl⟩ := hq2
  dsimp only [Option.toList, List.nil_append, List.cons_append]
  refine mj_if_eq (tgt := 14) (pc' := 8) C dX6_stateOf_5 (by decide) rfl (fun h5 => ?_) (fun h5 => ?_)
  · have hb := b1_0.mp h5
    obtain ⟨a, ha, rfl, ea⟩ := bad_of hb (by omega)
    refine mj_aload_n (pc' := 15) C dX6_stateOf_14 rfl rfl ?_
    refine mj_iconst (pc' := 16) (v := 0) C dX6_stateOf_15 rfl rfl ?_
    refine mj_putI (pc' := 19) C dX6_stateOf_16 rfl (ci := 6) (f := 35) rfl (by decide) (by decide) rfl (fun _ _ => rfl) (by decide) kf_X6_105 rfl rfl hR.B.l0 ?_
    have hR := mR_x (kd := 20) (i := 0) (z := 35) (v := 0) hR (Or.inl ⟨rfl, rfl⟩)
    refine mj_aload_n (pc' := 20) C dX6_stateOf_19 rfl rfl ?_
    refine mj_getR (pc' := 23) C dX6_stateOf_20 rfl (ci := 6) (f := 15) rfl (by decide) (by decide) (fun _ => rfl) (by decide) kf_X6_56 hR.B.l0 (hR.B.p 15 (by decide) rfl) ?_
    refine mj_iload_n (pc' := 24) C dX6_stateOf_23 rfl rfl ?_
    refine mj_ialdV (pc' := 25) C dX6_stateOf_24 rfl rfl (by decide) (by decide) (hR.B.l 15 (by decide) rfl) rfl (by first | assumption | omega) (hR.v 15 (by decide) rfl (by unfold sl; simp <;> first | assumption | omega)) ?_
    refine mj_iret C dX6_stateOf_25 (by decide) (by decide) (by decide) ?_
    exact mret_of (o := o_get S 15 (nI a)) (by unfold o_get; rw [if_neg hb, ea]) z35 hR (mF_sI (by decide) mF.rf)
  · have hb := b1_n h5
    refine mj_aload_n (pc' := 9) C dX6_stateOf_8 rfl rfl ?_
    refine mj_iconst (pc' := 10) (v := 1) C dX6_stateOf_9 rfl rfl ?_
    refine mj_callVN_1 (ci := 6) (pc' := 13) C (c_X6_fails hst S 1) dX6_stateOf_10 rfl km_X6_150 ki_yX6_fails kz_yX6_fails kn_X6 kc_yX6_fails rfl (by decide) (by decide) ⟨rfl, by decide, by decide, by decide +kernel⟩ ⟨by decide, by decide⟩ (by decide) ⟨by decide, by decide⟩ ⟨rfl, hR⟩ (fun r10 μ10 hq10 hm10 => ?_) (fun _ _ h9 => h9)
    obtain ⟨rfl, rfl⟩ := hq10
    dsimp only [Option.toList, List.nil_append, List.cons_append]
    refine mj_iret C dX6_stateOf_13 (by decide) (by decide) (by decide) ?_
    exact mfail (o := o_get S 15 i) (c := 1) (w := 1) (by unfold o_get; rw [if_pos hb]) rfl (by decide) rfl rfl (mR_x hR (Or.inl ⟨rfl, rfl⟩)) mF.rf

set_option maxRecDepth 20000 in
theorem c_X6_formatOf {l : Launch} (hst : l.stackTraces = false) (S : jS) (i : Int32) : jMet l yX6_formatOf cX6_formatOf 2 (some FieldType.int) 8 180 0 0 (fun avs μ => avs = [aR 20 0, aI i] ∧ mR S μ ∧ sW S) (fun avs μ r μ' => mret (o_get S 9 i) kA r μ μ') (fun avs μ E μ' => False) := by
  refine jMet_of hst (by decide) ?_
  intro avs μ J C hav hpre
  obtain ⟨rfl, hR, hW⟩ := hpre
  refine ⟨Nat.le_of_ble_eq_true rfl, ?_⟩
  show J 0 [some (aR 20 0), some (aI i)] [] μ 0 0
  have hW0 := hW.1.1
  have hW1 := hW.1.2
  refine mj_aload_n (pc' := 1) C dX6_formatOf_0 rfl rfl ?_
  refine mj_iload_n (pc' := 2) C dX6_formatOf_1 rfl rfl ?_
  refine mj_callVN_1 (ci := 6) (pc' := 5) C (c_X6_isNoFile hst S i) dX6_formatOf_2 rfl km_X6_163 ki_yX6_isNoFile kz_yX6_isNoFile kn_X6 kc_yX6_isNoFile rfl (by decide) (by decide) ⟨rfl, by decide, by decide, by decide +kernel⟩ ⟨by decide, by decide⟩ (by decide) ⟨by decide, by decide⟩ ⟨rfl, hR, hW⟩ (fun r2 μ2 hq2 hm2 => ?_) (fun _ _ h9 => h9)
  obtain ⟨rfl, rfl⟩ := hq2
  dsimp only [Option.toList, List.nil_append, List.cons_append]
  refine mj_if_eq (tgt := 14) (pc' := 8) C dX6_formatOf_5 (by decide) rfl (fun h5 => ?_) (fun h5 => ?_)
  · have hb := b1_0.mp h5
    obtain ⟨a, ha, rfl, ea⟩ := bad_of hb (by omega)
    refine mj_aload_n (pc' := 15) C dX6_formatOf_14 rfl rfl ?_
    refine mj_iconst (pc' := 16) (v := 0) C dX6_formatOf_15 rfl rfl ?_
    refine mj_putI (pc' := 19) C dX6_formatOf_16 rfl (ci := 6) (f := 35) rfl (by decide) (by decide) rfl (fun _ _ => rfl) (by decide) kf_X6_105 rfl rfl hR.B.l0 ?_
    have hR := mR_x (kd := 20) (i := 0) (z := 35) (v := 0) hR (Or.inl ⟨rfl, rfl⟩)
    refine mj_aload_n (pc' := 20) C dX6_formatOf_19 rfl rfl ?_
    refine mj_getR (pc' := 23) C dX6_formatOf_20 rfl (ci := 6) (f := 9) rfl (by decide) (by decide) (fun _ => rfl) (by decide) kf_X6_38 hR.B.l0 (hR.B.p 9 (by decide) rfl) ?_
    refine mj_iload_n (pc' := 24) C dX6_formatOf_23 rfl rfl ?_
    refine mj_ialdV (pc' := 25) C dX6_formatOf_24 rfl rfl (by decide) (by decide) (hR.B.l 9 (by decide) rfl) rfl (by first | assumption | omega) (hR.v 9 (by decide) rfl (by unfold sl; simp <;> first | assumption | omega)) ?_
    refine mj_iret C dX6_formatOf_25 (by decide) (by decide) (by decide) ?_
    exact mret_of (o := o_get S 9 (nI a)) (by unfold o_get; rw [if_neg hb, ea]) z35 hR (mF_sI (by decide) mF.rf)
  · have hb := b1_n h5
    refine mj_aload_n (pc' := 9) C dX6_formatOf_8 rfl rfl ?_
    refine mj_iconst (pc' := 10) (v := 1) C dX6_formatOf_9 rfl rfl ?_
    refine mj_callVN_1 (ci := 6) (pc' := 13) C (c_X6_fails hst S 1) dX6_formatOf_10 rfl km_X6_150 ki_yX6_fails kz_yX6_fails kn_X6 kc_yX6_fails rfl (by decide) (by decide) ⟨rfl, by decide, by decide, by decide +kernel⟩ ⟨by decide, by decide⟩ (by decide) ⟨by decide, by decide⟩ ⟨rfl, hR⟩ (fun r10 μ10 hq10 hm10 => ?_) (fun _ _ h9 => h9)
    obtain ⟨rfl, rfl⟩ := hq10
    dsimp only [Option.toList, List.nil_append, List.cons_append]
    refine mj_iret C dX6_formatOf_13 (by decide) (by decide) (by decide) ?_
    exact mfail (o := o_get S 9 i) (c := 1) (w := 1) (by unfold o_get; rw [if_pos hb]) rfl (by decide) rfl rfl (mR_x hR (Or.inl ⟨rfl, rfl⟩)) mF.rf

set_option maxRecDepth 20000 in
theorem c_X6_qualityOf {l : Launch} (hst : l.stackTraces = false) (S : jS) (i : Int32) : jMet l yX6_qualityOf cX6_qualityOf 2 (some FieldType.int) 8 180 0 0 (fun avs μ => avs = [aR 20 0, aI i] ∧ mR S μ ∧ sW S) (fun avs μ r μ' => mret (o_get S 12 i) kA r μ μ') (fun avs μ E μ' => False) := by
  refine jMet_of hst (by decide) ?_
  intro avs μ J C hav hpre
  obtain ⟨rfl, hR, hW⟩ := hpre
  refine ⟨Nat.le_of_ble_eq_true rfl, ?_⟩
  show J 0 [some (aR 20 0), some (aI i)] [] μ 0 0
  have hW0 := hW.1.1
  have hW1 := hW.1.2
  refine mj_aload_n (pc' := 1) C dX6_qualityOf_0 rfl rfl ?_
  refine mj_iload_n (pc' := 2) C dX6_qualityOf_1 rfl rfl ?_
  refine mj_callVN_1 (ci := 6) (pc' := 5) C (c_X6_isNoFile hst S i) dX6_qualityOf_2 rfl km_X6_163 ki_yX6_isNoFile kz_yX6_isNoFile kn_X6 kc_yX6_isNoFile rfl (by decide) (by decide) ⟨rfl, by decide, by decide, by decide +kernel⟩ ⟨by decide, by decide⟩ (by decide) ⟨by decide, by decide⟩ ⟨rfl, hR, hW⟩ (fun r2 μ2 hq2 hm2 => ?_) (fun _ _ h9 => h9)
  obtain ⟨rfl, rfl⟩ := hq2
  dsimp only [Option.toList, List.nil_append, List.cons_append]
  refine mj_if_eq (tgt := 14) (pc' := 8) C dX6_qualityOf_5 (by decide) rfl (fun h5 => ?_) (fun h5 => ?_)
  · have hb := b1_0.mp h5
    obtain ⟨a, ha, rfl, ea⟩ := bad_of hb (by omega)
    refine mj_aload_n (pc' := 15) C dX6_qualityOf_14 rfl rfl ?_
    refine mj_iconst (pc' := 16) (v := 0) C dX6_qualityOf_15 rfl rfl ?_
    refine mj_putI (pc' := 19) C dX6_qualityOf_16 rfl (ci := 6) (f := 35) rfl (by decide) (by decide) rfl (fun _ _ => rfl) (by decide) kf_X6_105 rfl rfl hR.B.l0 ?_
    have hR := mR_x (kd := 20) (i := 0) (z := 35) (v := 0) hR (Or.inl ⟨rfl, rfl⟩)
    refine mj_aload_n (pc' := 20) C dX6_qualityOf_19 rfl rfl ?_
    refine mj_getR (pc' := 23) C dX6_qualityOf_20 rfl (ci := 6) (f := 12) rfl (by decide) (by decide) (fun _ => rfl) (by decide) kf_X6_47 hR.B.l0 (hR.B.p 12 (by decide) rfl) ?_
    refine mj_iload_n (pc' := 24) C dX6_qualityOf_23 rfl rfl ?_
    refine mj_ialdV (pc' := 25) C dX6_qualityOf_24 rfl rfl (by decide) (by decide) (hR.B.l 12 (by decide) rfl) rfl (by first | assumption | omega) (hR.v 12 (by decide) rfl (by unfold sl; simp <;> first | assumption | omega)) ?_
    refine mj_iret C dX6_qualityOf_25 (by decide) (by decide) (by decide) ?_
    exact mret_of (o := o_get S 12 (nI a)) (by unfold o_get; rw [if_neg hb, ea]) z35 hR (mF_sI (by decide) mF.rf)
  · have hb := b1_n h5
    refine mj_aload_n (pc' := 9) C dX6_qualityOf_8 rfl rfl ?_
    refine mj_iconst (pc' := 10) (v := 1) C dX6_qualityOf_9 rfl rfl ?_
    refine mj_callVN_1 (ci := 6) (pc' := 13) C (c_X6_fails hst S 1) dX6_qualityOf_10 rfl km_X6_150 ki_yX6_fails kz_yX6_fails kn_X6 kc_yX6_fails rfl (by decide) (by decide) ⟨rfl, by decide, by decide, by decide +kernel⟩ ⟨by decide, by decide⟩ (by decide) ⟨by decide, by decide⟩ ⟨rfl, hR⟩ (fun r10 μ10 hq10 hm10 => ?_) (fun _ _ h9 => h9)
    obtain ⟨rfl, rfl⟩ := hq10
    dsimp only [Option.toList, List.nil_append, List.cons_append]
    refine mj_iret C dX6_qualityOf_13 (by decide) (by decide) (by decide) ?_
    exact mfail (o := o_get S 12 i) (c := 1) (w := 1) (by unfold o_get; rw [if_pos hb]) rfl (by decide) rfl rfl (mR_x hR (Or.inl ⟨rfl, rfl⟩)) mF.rf

set_option maxRecDepth 20000 in
theorem c_X6_endOf {l : Launch} (hst : l.stackTraces = false) (S : jS) (i : Int32) : jMet l yX6_endOf cX6_endOf 2 (some FieldType.int) 8 180 0 0 (fun avs μ => avs = [aR 20 0, aI i] ∧ mR S μ ∧ sW S) (fun avs μ r μ' => mret (o_get S 13 i) kA r μ μ') (fun avs μ E μ' => False) := by
  refine jMet_of hst (by decide) ?_
  intro avs μ J C hav hpre
  obtain ⟨rfl, hR, hW⟩ := hpre
  refine ⟨Nat.le_of_ble_eq_true rfl, ?_⟩
  show J 0 [some (aR 20 0), some (aI i)] [] μ 0 0
  have hW0 := hW.1.1
  have hW1 := hW.1.2
  refine mj_aload_n (pc' := 1) C dX6_endOf_0 rfl rfl ?_
  refine mj_iload_n (pc' := 2) C dX6_endOf_1 rfl rfl ?_
  refine mj_callVN_1 (ci := 6) (pc' := 5) C (c_X6_isNoFile hst S i) dX6_endOf_2 rfl km_X6_163 ki_yX6_isNoFile kz_yX6_isNoFile kn_X6 kc_yX6_isNoFile rfl (by decide) (by decide) ⟨rfl, by decide, by decide, by decide +kernel⟩ ⟨by decide, by decide⟩ (by decide) ⟨by decide, by decide⟩ ⟨rfl, hR, hW⟩ (fun r2 μ2 hq2 hm2 => ?_) (fun _ _ h9 => h9)
  obtain ⟨rfl, rfl⟩ := hq2
  dsimp only [Option.toList, List.nil_append, List.cons_append]
  refine mj_if_eq (tgt := 14) (pc' := 8) C dX6_endOf_5 (by decide) rfl (fun h5 => ?_) (fun h5 => ?_)
  · have hb := b1_0.mp h5
    obtain ⟨a, ha, rfl, ea⟩ := bad_of hb (by omega)
    refine mj_aload_n (pc' := 15) C dX6_endOf_14 rfl rfl ?_
    refine mj_iconst (pc' := 16) (v := 0) C dX6_endOf_15 rfl rfl ?_
    refine mj_putI (pc' := 19) C dX6_endOf_16 rfl (ci := 6) (f := 35) rfl (by decide) (by decide) rfl (fun _ _ => rfl) (by decide) kf_X6_105 rfl rfl hR.B.l0 ?_
    have hR := mR_x (kd := 20) (i := 0) (z := 35) (v := 0) hR (Or.inl ⟨rfl, rfl⟩)
    refine mj_aload_n (pc' := 20) C dX6_endOf_19 rfl rfl ?_
    refine mj_getR (pc' := 23) C dX6_endOf_20 rfl (ci := 6) (f := 13) rfl (by decide) (by decide) (fun _ => rfl) (by decide) kf_X6_50 hR.B.l0 (hR.B.p 13 (by decide) rfl) ?_
    refine mj_iload_n (pc' := 24) C dX6_endOf_23 rfl rfl ?_
    refine mj_ialdV (pc' := 25) C dX6_endOf_24 rfl rfl (by decide) (by decide) (hR.B.l 13 (by decide) rfl) rfl (by first | assumption | omega) (hR.v 13 (by decide) rfl (by unfold sl; simp <;> first | assumption | omega)) ?_
    refine mj_iret C dX6_endOf_25 (by decide) (by decide) (by decide) ?_
    exact mret_of (o := o_get S 13 (nI a)) (by unfold o_get; rw [if_neg hb, ea]) z35 hR (mF_sI (by decide) mF.rf)
  · have hb := b1_n h5
    refine mj_aload_n (pc' := 9) C dX6_endOf_8 rfl rfl ?_
    refine mj_iconst (pc' := 10) (v := 1) C dX6_endOf_9 rfl rfl ?_
    refine mj_callVN_1 (ci := 6) (pc' := 13) C (c_X6_fails hst S 1) dX6_endOf_10 rfl km_X6_150 ki_yX6_fails kz_yX6_fails kn_X6 kc_yX6_fails rfl (by decide) (by decide) ⟨rfl, by decide, by decide, by decide +kernel⟩ ⟨by decide, by decide⟩ (by decide) ⟨by decide, by decide⟩ ⟨rfl, hR⟩ (fun r10 μ10 hq10 hm10 => ?_) (fun _ _ h9 => h9)
    obtain ⟨rfl, rfl⟩ := hq10
    dsimp only [Option.toList, List.nil_append, List.cons_append]
    refine mj_iret C dX6_endOf_13 (by decide) (by decide) (by decide) ?_
    exact mfail (o := o_get S 13 i) (c := 1) (w := 1) (by unfold o_get; rw [if_pos hb]) rfl (by decide) rfl rfl (mR_x hR (Or.inl ⟨rfl, rfl⟩)) mF.rf

set_option maxRecDepth 20000 in
theorem c_X6_setBudget {l : Launch} (hst : l.stackTraces = false) (S : jS) (b : Int32) : jMet l yX6_setBudget cX6_setBudget 3 (some FieldType.int) 8 180 0 0 (fun avs μ => avs = [aR 20 0, aI b] ∧ mR S μ ∧ sW S) (fun avs μ r μ' => mret (o_setBudget S b) kC r μ μ') (fun avs μ E μ' => False) := by
  refine jMet_of hst (by decide) ?_
  intro avs μ J C hav hpre
  obtain ⟨rfl, hR, hW⟩ := hpre
  refine ⟨Nat.le_of_ble_eq_true rfl, ?_⟩
  show J 0 [some (aR 20 0), some (aI b), none] [] μ 0 0
  have hW0 := hW.1.1
  have hW1 := hW.1.2
  refine mj_iload_n (pc' := 1) C dX6_setBudget_0 rfl rfl ?_
  refine mj_iconst (pc' := 2) (v := 0) C dX6_setBudget_1 rfl rfl ?_
  refine mj_ldc (pc' := 4) C dX6_setBudget_2 rfl kk_X6_177 ?_
  refine mj_callSN_3 (pc' := 7) C (c_X6_in hst b 0 1000000) dX6_setBudget_4 rfl km_X6_108 ks_yX6_in kn_X6 kc_yX6_in ⟨by decide, by decide, by decide +kernel⟩ ⟨by decide, by decide⟩ (by decide) ⟨by decide, by decide⟩ rfl (fun r4 μ4 hq4 hm4 => ?_) (fun _ _ h9 => h9)
  obtain ⟨rfl, rfl⟩ := hq4
  dsimp only [Option.toList, List.nil_append, List.cons_append]
  refine mj_if_ne (tgt := 16) (pc' := 10) C dX6_setBudget_7 (by decide) rfl (fun h7 => ?_) (fun h7 => ?_)
  · refine mj_aload_n (pc' := 17) C dX6_setBudget_16 rfl rfl ?_
    refine mj_iconst (pc' := 18) (v := 0) C dX6_setBudget_17 rfl rfl ?_
    refine mj_putI (pc' := 21) C dX6_setBudget_18 rfl (ci := 6) (f := 35) rfl (by decide) (by decide) rfl (fun _ _ => rfl) (by decide) kf_X6_105 rfl rfl hR.B.l0 ?_
    have hR := mR_x (kd := 20) (i := 0) (z := 35) (v := 0) hR (Or.inl ⟨rfl, rfl⟩)
    refine mj_aload_n (pc' := 22) C dX6_setBudget_21 rfl rfl ?_
    refine mj_getV (pc' := 25) C dX6_setBudget_22 rfl (ci := 6) (f := 31) rfl (by decide) (by decide) (fun _ => rfl) (by decide) kf_X6_98 hR.B.l0 hR.bud ?_
    refine mj_istore_n_2 (pc' := 26) C dX6_setBudget_25 rfl (by decide) rfl ?_
    refine mj_aload_n (pc' := 27) C dX6_setBudget_26 rfl rfl ?_
    refine mj_iload_n (pc' := 28) C dX6_setBudget_27 rfl rfl ?_
    refine mj_putI (pc' := 31) C dX6_setBudget_28 rfl (ci := 6) (f := 31) rfl (by decide) (by decide) rfl (fun _ _ => rfl) (by decide) kf_X6_98 rfl rfl hR.B.l0 ?_
    refine mj_iload_n (pc' := 32) C dX6_setBudget_31 rfl rfl ?_
    refine mj_iret C dX6_setBudget_32 (by decide) (by decide) (by decide) ?_
    exact mret_of (o := o_setBudget S b) (by unfold o_setBudget; rw [if_neg (inn (b1_n h7))]) (z35n z35 (by omega)) (mR_s hR (by omega)) (mF_sI (by decide) (mF_sI (by decide) mF.rf))
  · refine mj_aload_n (pc' := 11) C dX6_setBudget_10 rfl rfl ?_
    refine mj_iconst (pc' := 12) (v := 1) C dX6_setBudget_11 rfl rfl ?_
    refine mj_callVN_1 (ci := 6) (pc' := 15) C (c_X6_fails hst S 1) dX6_setBudget_12 rfl km_X6_150 ki_yX6_fails kz_yX6_fails kn_X6 kc_yX6_fails rfl (by decide) (by decide) ⟨rfl, by decide, by decide, by decide +kernel⟩ ⟨by decide, by decide⟩ (by decide) ⟨by decide, by decide⟩ ⟨rfl, hR⟩ (fun r12 μ12 hq12 hm12 => ?_) (fun _ _ h9 => h9)
    obtain ⟨rfl, rfl⟩ := hq12
    dsimp only [Option.toList, List.nil_append, List.cons_append]
    refine mj_iret C dX6_setBudget_15 (by decide) (by decide) (by decide) ?_
    exact mfail (o := o_setBudget S b) (c := 2) (w := 1) (by unfold o_setBudget; rw [if_pos (nin (b1_0.mp h7))]) rfl (by decide) rfl rfl (mR_x hR (Or.inl ⟨rfl, rfl⟩)) mF.rf

set_option maxRecDepth 20000 in
theorem c_X6_left {l : Launch} (hst : l.stackTraces = false) (S : jS) : jMet l yX6_left cX6_left 1 (some FieldType.int) 8 180 0 0 (fun avs μ => avs = [aR 20 0] ∧ mR S μ ∧ sW S) (fun avs μ r μ' => r = some (aI (sf S 17 1)) ∧ mI μ' 20 0 35 = nI 0 ∧ mR S μ' ∧ mF μ μ') (fun avs μ E μ' => False) := by
  refine jMet_of hst (by decide) ?_
  intro avs μ J C hav hpre
  obtain ⟨rfl, hR, hW⟩ := hpre
  refine ⟨Nat.le_of_ble_eq_true rfl, ?_⟩
  show J 0 [some (aR 20 0)] [] μ 0 0
  refine mj_aload_n (pc' := 1) C dX6_left_0 rfl rfl ?_
  refine mj_iconst (pc' := 2) (v := 0) C dX6_left_1 rfl rfl ?_
  refine mj_putI (pc' := 5) C dX6_left_2 rfl (ci := 6) (f := 35) rfl (by decide) (by decide) rfl (fun _ _ => rfl) (by decide) kf_X6_105 rfl rfl hR.B.l0 ?_
  have hR := mR_x (kd := 20) (i := 0) (z := 35) (v := 0) hR (Or.inl ⟨rfl, rfl⟩)
  refine mj_aload_n (pc' := 6) C dX6_left_5 rfl rfl ?_
  refine mj_getV (pc' := 9) C dX6_left_6 rfl (ci := 6) (f := 32) rfl (by decide) (by decide) (fun _ => rfl) (by decide) kf_X6_102 hR.B.l0 hR.rest ?_
  refine mj_iret C dX6_left_9 (by decide) (by decide) (by decide) ?_
  exact ⟨rfl, z35, hR, mF_sI (by decide) mF.rf⟩

set_option maxRecDepth 20000 in
theorem c_X6_year {l : Launch} (hst : l.stackTraces = false) (S : jS) : jMet l yX6_year cX6_year 1 (some FieldType.int) 8 180 0 0 (fun avs μ => avs = [aR 20 0] ∧ mR S μ ∧ sW S) (fun avs μ r μ' => r = some (aI (sf S 17 2)) ∧ mI μ' 20 0 35 = nI 0 ∧ mR S μ' ∧ mF μ μ') (fun avs μ E μ' => False) := by
  refine jMet_of hst (by decide) ?_
  intro avs μ J C hav hpre
  obtain ⟨rfl, hR, hW⟩ := hpre
  refine ⟨Nat.le_of_ble_eq_true rfl, ?_⟩
  show J 0 [some (aR 20 0)] [] μ 0 0
  refine mj_aload_n (pc' := 1) C dX6_year_0 rfl rfl ?_
  refine mj_iconst (pc' := 2) (v := 0) C dX6_year_1 rfl rfl ?_
  refine mj_putI (pc' := 5) C dX6_year_2 rfl (ci := 6) (f := 35) rfl (by decide) (by decide) rfl (fun _ _ => rfl) (by decide) kf_X6_105 rfl rfl hR.B.l0 ?_
  have hR := mR_x (kd := 20) (i := 0) (z := 35) (v := 0) hR (Or.inl ⟨rfl, rfl⟩)
  refine mj_aload_n (pc' := 6) C dX6_year_5 rfl rfl ?_
  refine mj_getV (pc' := 9) C dX6_year_6 rfl (ci := 6) (f := 33) rfl (by decide) (by decide) (fun _ => rfl) (by decide) kf_X6_115 hR.B.l0 hR.now ?_
  refine mj_iret C dX6_year_9 (by decide) (by decide) (by decide) ?_
  exact ⟨rfl, z35, hR, mF_sI (by decide) mF.rf⟩

set_option maxRecDepth 20000 in
theorem c_X6_isSafe {l : Launch} (hst : l.stackTraces = false) (S : jS) (i : Int32) : jMet l yX6_isSafe cX6_isSafe 2 (some FieldType.boolean) 8 180 0 0 (fun avs μ => avs = [aR 20 0, aI i] ∧ mR S μ ∧ sW S) (fun avs μ r μ' => mret (o_isSafe S i) kA r μ μ') (fun avs μ E μ' => False) := by
  refine jMet_of hst (by decide) ?_
  intro avs μ J C hav hpre
  obtain ⟨rfl, hR, hW⟩ := hpre
  refine ⟨Nat.le_of_ble_eq_true rfl, ?_⟩
  show J 0 [some (aR 20 0), some (aI i)] [] μ 0 0
  have hW0 := hW.1.1
  have hW1 := hW.1.2
  refine mj_aload_n (pc' := 1) C dX6_isSafe_0 rfl rfl ?_
  refine mj_iload_n (pc' := 2) C dX6_isSafe_1 rfl rfl ?_
  refine mj_callVN_1 (ci := 6) (pc' := 5) C (c_X6_isNoFile hst S i) dX6_isSafe_2 rfl km_X6_163 ki_yX6_isNoFile kz_yX6_isNoFile kn_X6 kc_yX6_isNoFile rfl (by decide) (by decide) ⟨rfl, by decide, by decide, by decide +kernel⟩ ⟨by decide, by decide⟩ (by decide) ⟨by decide, by decide⟩ ⟨rfl, hR, hW⟩ (fun r2 μ2 hq2 hm2 => ?_) (fun _ _ h9 => h9)
  obtain ⟨rfl, rfl⟩ := hq2
  dsimp only [Option.toList, List.nil_append, List.cons_append]
  refine mj_if_eq (tgt := 23) (pc' := 8) C dX6_isSafe_5 (by decide) rfl (fun h5 => ?_) (fun h5 => ?_)
  · have hb := b1_0.mp h5
    obtain ⟨a, ha, rfl, ea⟩ := bad_of hb (by omega)
    obtain ⟨g, hg, eg⟩ := (hW.2.2.1 a ha).1
    have efF : fF S a = g := by unfold fF; rw [eg]; exact ix_nI (by omega)
    refine mj_aload_n (pc' := 24) C dX6_isSafe_23 rfl rfl ?_
    refine mj_iconst (pc' := 25) (v := 0) C dX6_isSafe_24 rfl rfl ?_
    refine mj_putI (pc' := 28) C dX6_isSafe_25 rfl (ci := 6) (f := 35) rfl (by decide) (by decide) rfl (fun _ _ => rfl) (by decide) kf_X6_105 rfl rfl hR.B.l0 ?_
    have hR := mR_x (kd := 20) (i := 0) (z := 35) (v := 0) hR (Or.inl ⟨rfl, rfl⟩)
    refine mj_aload_n (pc' := 29) C dX6_isSafe_28 rfl rfl ?_
    refine mj_getR (pc' := 32) C dX6_isSafe_29 rfl (ci := 6) (f := 15) rfl (by decide) (by decide) (fun _ => rfl) (by decide) kf_X6_56 hR.B.l0 (hR.B.p 15 (by decide) rfl) ?_
    refine mj_iload_n (pc' := 33) C dX6_isSafe_32 rfl rfl ?_
    refine mj_ialdV (pc' := 34) C dX6_isSafe_33 rfl rfl (by decide) (by decide) (hR.B.l 15 (by decide) rfl) rfl (by first | assumption | omega) (hR.v 15 (by decide) rfl (by unfold sl; simp <;> first | assumption | omega)) ?_
    refine mj_if_ne (tgt := 55) (pc' := 37) C dX6_isSafe_34 (by decide) rfl (fun h34 => ?_) (fun h34 => ?_)
    · have hbv : b1 (sf S 15 a = 0 ∧ safe S a (fF S a)) = 0 := b1_f (fun h => h34 h.1)
      refine mj_iconst (pc' := 56) (v := 0) C dX6_isSafe_55 rfl rfl ?_
      refine mj_zret C rfl dX6_isSafe_56 (by decide) (by decide) (by decide) ?_
      exact mret_of (o := o_isSafe S (nI a)) (by unfold o_isSafe; rw [if_neg hb, ea, hbv]) z35 hR (mF_sI (by decide) mF.rf)
    · refine mj_aload_n (pc' := 38) C dX6_isSafe_37 rfl rfl ?_
      refine mj_iload_n (pc' := 39) C dX6_isSafe_38 rfl rfl ?_
      refine mj_aload_n (pc' := 40) C dX6_isSafe_39 rfl rfl ?_
      refine mj_getR (pc' := 43) C dX6_isSafe_40 rfl (ci := 6) (f := 9) rfl (by decide) (by decide) (fun _ => rfl) (by decide) kf_X6_38 hR.B.l0 (hR.B.p 9 (by decide) rfl) ?_
      refine mj_iload_n (pc' := 44) C dX6_isSafe_43 rfl rfl ?_
      refine mj_ialdV (pc' := 45) C dX6_isSafe_44 rfl rfl (by decide) (by decide) (hR.B.l 9 (by decide) rfl) rfl (by first | assumption | omega) ((hR.v 9 (by decide) rfl (by unfold sl; simp <;> first | assumption | omega)).trans eg) ?_
      refine mj_callVN_2 (ci := 6) (pc' := 48) C (c_X6_isSafeIn hst S a g) dX6_isSafe_45 rfl km_X6_142 ki_yX6_isSafeIn kz_yX6_isSafeIn kn_X6 kc_yX6_isSafeIn rfl (by decide) (by decide) ⟨rfl, by decide, by decide, by decide +kernel⟩ ⟨by decide, by decide⟩ (by decide) ⟨by decide, by decide⟩ ⟨rfl, hR, hW, ha, hg⟩ (fun r45 μ45 hq45 hm45 => ?_) (fun _ _ h9 => h9)
      obtain ⟨rfl, rfl⟩ := hq45
      dsimp only [Option.toList, List.nil_append, List.cons_append]
      refine mj_if_eq (tgt := 55) (pc' := 51) C dX6_isSafe_48 (by decide) rfl (fun h48 => ?_) (fun h48 => ?_)
      · have hbv : b1 (sf S 15 a = 0 ∧ safe S a (fF S a)) = 0 := b1_f (fun h => b1_0.mp h48 (by rw [← efF]; exact h.2))
        refine mj_iconst (pc' := 56) (v := 0) C dX6_isSafe_55 rfl rfl ?_
        refine mj_zret C rfl dX6_isSafe_56 (by decide) (by decide) (by decide) ?_
        exact mret_of (o := o_isSafe S (nI a)) (by unfold o_isSafe; rw [if_neg hb, ea, hbv]) z35 hR (mF_sI (by decide) mF.rf)
      · have hbv : b1 (sf S 15 a = 0 ∧ safe S a (fF S a)) = 1 := b1_t ⟨h34, by rw [efF]; exact b1_n h48⟩
        refine mj_iconst (pc' := 52) (v := 1) C dX6_isSafe_51 rfl rfl ?_
        refine mj_goto (pc' := 56) C dX6_isSafe_52 (by decide) ?_
        refine mj_zret C rfl dX6_isSafe_56 (by decide) (by decide) (by decide) ?_
        exact mret_of (o := o_isSafe S (nI a)) (by unfold o_isSafe; rw [if_neg hb, ea, hbv]) z35 hR (mF_sI (by decide) mF.rf)
  · have hb := b1_n h5
    refine mj_aload_n (pc' := 9) C dX6_isSafe_8 rfl rfl ?_
    refine mj_iconst (pc' := 10) (v := 1) C dX6_isSafe_9 rfl rfl ?_
    refine mj_callVN_1 (ci := 6) (pc' := 13) C (c_X6_fails hst S 1) dX6_isSafe_10 rfl km_X6_150 ki_yX6_fails kz_yX6_fails kn_X6 kc_yX6_fails rfl (by decide) (by decide) ⟨rfl, by decide, by decide, by decide +kernel⟩ ⟨by decide, by decide⟩ (by decide) ⟨by decide, by decide⟩ ⟨rfl, hR⟩ (fun r10 μ10 hq10 hm10 => ?_) (fun _ _ h9 => h9)
    obtain ⟨rfl, rfl⟩ := hq10
    dsimp only [Option.toList, List.nil_append, List.cons_append]
    refine mj_iconst (pc' := 14) (v := 1) C dX6_isSafe_13 rfl rfl ?_
    refine mj_icmp_ne (tgt := 21) (pc' := 17) C dX6_isSafe_14 (by decide) rfl (fun _ => ?_) (fun h9 => absurd h9 (by decide))
    refine mj_iconst (pc' := 22) (v := 0) C dX6_isSafe_21 rfl rfl ?_
    refine mj_zret C rfl dX6_isSafe_22 (by decide) (by decide) (by decide) ?_
    exact mfail (o := o_isSafe S i) (c := 1) (w := 1) (by unfold o_isSafe; rw [if_pos hb]) rfl (by decide) rfl rfl (mR_x hR (Or.inl ⟨rfl, rfl⟩)) mF.rf
